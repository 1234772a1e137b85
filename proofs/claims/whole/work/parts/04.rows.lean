section VR
variable {G : VG} {d nL pc : Nat} {y : MethodName} {cc : ByteArray} {rt : Option FieldType} {X : VX} {ls : VL} {st : List Value} {μ : VS}
theorem V_iconst {n : Int} {v : Int32} (hX : Cx G d y cc nL rt X) (hd : decode cc pc = .ok (.iconst n, 1)) (hv : Int32.ofInt n = v) (k : V G nL X (pc + 1) ls (.int v :: st) μ) : V G nL X pc ls st μ := by
  obtain ⟨p, l, e, R, s, m, args, below, meth, c, A, cells, slots, Qf⟩ := X
  obtain ⟨hx, hb, hr, hlk, hml, hown, hts, hNs, hK, hSt, hA, hfr, hlo, hce, hsl⟩ := hX
  intro H locs la hP hD hS hl
  exact lv_iconst hx hb hd hv (k H locs la hP hD hS hl)
theorem V_bipush {n : Int} {v : Int32} (hX : Cx G d y cc nL rt X) (hd : decode cc pc = .ok (.bipush n, 2)) (hv : (Int8.ofInt n).toInt32 = v) (k : V G nL X (pc + 2) ls (.int v :: st) μ) : V G nL X pc ls st μ := by
  obtain ⟨p, l, e, R, s, m, args, below, meth, c, A, cells, slots, Qf⟩ := X
  obtain ⟨hx, hb, hr, hlk, hml, hown, hts, hNs, hK, hSt, hA, hfr, hlo, hce, hsl⟩ := hX
  intro H locs la hP hD hS hl
  exact lv_bipush hx hb hd hv (k H locs la hP hD hS hl)
theorem V_sipush {n : Int} {v : Int32} (hX : Cx G d y cc nL rt X) (hd : decode cc pc = .ok (.sipush n, 3)) (hv : (Int16.ofInt n).toInt32 = v) (k : V G nL X (pc + 3) ls (.int v :: st) μ) : V G nL X pc ls st μ := by
  obtain ⟨p, l, e, R, s, m, args, below, meth, c, A, cells, slots, Qf⟩ := X
  obtain ⟨hx, hb, hr, hlk, hml, hown, hts, hNs, hK, hSt, hA, hfr, hlo, hce, hsl⟩ := hX
  intro H locs la hP hD hS hl
  exact lv_sipush hx hb hd hv (k H locs la hP hD hS hl)
theorem V_lconst {n : Fin 2} {v : Int64} (hX : Cx G d y cc nL rt X) (hd : decode cc pc = .ok (.lconst n, 1)) (hv : Int64.ofNat n.val = v) (k : V G nL X (pc + 1) ls (.long v :: st) μ) : V G nL X pc ls st μ := by
  obtain ⟨p, l, e, R, s, m, args, below, meth, c, A, cells, slots, Qf⟩ := X
  obtain ⟨hx, hb, hr, hlk, hml, hown, hts, hNs, hK, hSt, hA, hfr, hlo, hce, hsl⟩ := hX
  intro H locs la hP hD hS hl
  exact lv_lconst hx hb hd hv (k H locs la hP hD hS hl)
theorem V_iadd {a b : Int32} (hX : Cx G d y cc nL rt X) (hd : decode cc pc = .ok (.iadd, 1))  (k : V G nL X (pc + 1) ls (.int (a + b) :: st) μ) : V G nL X pc ls (.int b :: .int a :: st) μ := by
  obtain ⟨p, l, e, R, s, m, args, below, meth, c, A, cells, slots, Qf⟩ := X
  obtain ⟨hx, hb, hr, hlk, hml, hown, hts, hNs, hK, hSt, hA, hfr, hlo, hce, hsl⟩ := hX
  intro H locs la hP hD hS hl
  exact lv_iadd hx hb hd  (k H locs la hP hD hS hl)
theorem V_isub {a b : Int32} (hX : Cx G d y cc nL rt X) (hd : decode cc pc = .ok (.isub, 1))  (k : V G nL X (pc + 1) ls (.int (a - b) :: st) μ) : V G nL X pc ls (.int b :: .int a :: st) μ := by
  obtain ⟨p, l, e, R, s, m, args, below, meth, c, A, cells, slots, Qf⟩ := X
  obtain ⟨hx, hb, hr, hlk, hml, hown, hts, hNs, hK, hSt, hA, hfr, hlo, hce, hsl⟩ := hX
  intro H locs la hP hD hS hl
  exact lv_isub hx hb hd  (k H locs la hP hD hS hl)
theorem V_imul {a b : Int32} (hX : Cx G d y cc nL rt X) (hd : decode cc pc = .ok (.imul, 1))  (k : V G nL X (pc + 1) ls (.int (a * b) :: st) μ) : V G nL X pc ls (.int b :: .int a :: st) μ := by
  obtain ⟨p, l, e, R, s, m, args, below, meth, c, A, cells, slots, Qf⟩ := X
  obtain ⟨hx, hb, hr, hlk, hml, hown, hts, hNs, hK, hSt, hA, hfr, hlo, hce, hsl⟩ := hX
  intro H locs la hP hD hS hl
  exact lv_imul hx hb hd  (k H locs la hP hD hS hl)
theorem V_iand {a b : Int32} (hX : Cx G d y cc nL rt X) (hd : decode cc pc = .ok (.iand, 1))  (k : V G nL X (pc + 1) ls (.int (a &&& b) :: st) μ) : V G nL X pc ls (.int b :: .int a :: st) μ := by
  obtain ⟨p, l, e, R, s, m, args, below, meth, c, A, cells, slots, Qf⟩ := X
  obtain ⟨hx, hb, hr, hlk, hml, hown, hts, hNs, hK, hSt, hA, hfr, hlo, hce, hsl⟩ := hX
  intro H locs la hP hD hS hl
  exact lv_iand hx hb hd  (k H locs la hP hD hS hl)
theorem V_ior {a b : Int32} (hX : Cx G d y cc nL rt X) (hd : decode cc pc = .ok (.ior, 1))  (k : V G nL X (pc + 1) ls (.int (a ||| b) :: st) μ) : V G nL X pc ls (.int b :: .int a :: st) μ := by
  obtain ⟨p, l, e, R, s, m, args, below, meth, c, A, cells, slots, Qf⟩ := X
  obtain ⟨hx, hb, hr, hlk, hml, hown, hts, hNs, hK, hSt, hA, hfr, hlo, hce, hsl⟩ := hX
  intro H locs la hP hD hS hl
  exact lv_ior hx hb hd  (k H locs la hP hD hS hl)
theorem V_ixor {a b : Int32} (hX : Cx G d y cc nL rt X) (hd : decode cc pc = .ok (.ixor, 1))  (k : V G nL X (pc + 1) ls (.int (a ^^^ b) :: st) μ) : V G nL X pc ls (.int b :: .int a :: st) μ := by
  obtain ⟨p, l, e, R, s, m, args, below, meth, c, A, cells, slots, Qf⟩ := X
  obtain ⟨hx, hb, hr, hlk, hml, hown, hts, hNs, hK, hSt, hA, hfr, hlo, hce, hsl⟩ := hX
  intro H locs la hP hD hS hl
  exact lv_ixor hx hb hd  (k H locs la hP hD hS hl)
theorem V_ishl {a b : Int32} (hX : Cx G d y cc nL rt X) (hd : decode cc pc = .ok (.ishl, 1))  (k : V G nL X (pc + 1) ls (.int (a <<< (b &&& 31)) :: st) μ) : V G nL X pc ls (.int b :: .int a :: st) μ := by
  obtain ⟨p, l, e, R, s, m, args, below, meth, c, A, cells, slots, Qf⟩ := X
  obtain ⟨hx, hb, hr, hlk, hml, hown, hts, hNs, hK, hSt, hA, hfr, hlo, hce, hsl⟩ := hX
  intro H locs la hP hD hS hl
  exact lv_ishl hx hb hd  (k H locs la hP hD hS hl)
theorem V_ishr {a b : Int32} (hX : Cx G d y cc nL rt X) (hd : decode cc pc = .ok (.ishr, 1))  (k : V G nL X (pc + 1) ls (.int (a >>> (b &&& 31)) :: st) μ) : V G nL X pc ls (.int b :: .int a :: st) μ := by
  obtain ⟨p, l, e, R, s, m, args, below, meth, c, A, cells, slots, Qf⟩ := X
  obtain ⟨hx, hb, hr, hlk, hml, hown, hts, hNs, hK, hSt, hA, hfr, hlo, hce, hsl⟩ := hX
  intro H locs la hP hD hS hl
  exact lv_ishr hx hb hd  (k H locs la hP hD hS hl)
theorem V_idiv {a b : Int32} (hX : Cx G d y cc nL rt X) (hd : decode cc pc = .ok (.idiv, 1)) (hne : ¬ b = 0) (k : V G nL X (pc + 1) ls (.int (a / b) :: st) μ) : V G nL X pc ls (.int b :: .int a :: st) μ := by
  obtain ⟨p, l, e, R, s, m, args, below, meth, c, A, cells, slots, Qf⟩ := X
  obtain ⟨hx, hb, hr, hlk, hml, hown, hts, hNs, hK, hSt, hA, hfr, hlo, hce, hsl⟩ := hX
  intro H locs la hP hD hS hl
  exact lv_idiv hx hb hd hne (k H locs la hP hD hS hl)
theorem V_irem {a b : Int32} (hX : Cx G d y cc nL rt X) (hd : decode cc pc = .ok (.irem, 1)) (hne : ¬ b = 0) (k : V G nL X (pc + 1) ls (.int (a - a / b * b) :: st) μ) : V G nL X pc ls (.int b :: .int a :: st) μ := by
  obtain ⟨p, l, e, R, s, m, args, below, meth, c, A, cells, slots, Qf⟩ := X
  obtain ⟨hx, hb, hr, hlk, hml, hown, hts, hNs, hK, hSt, hA, hfr, hlo, hce, hsl⟩ := hX
  intro H locs la hP hD hS hl
  exact lv_irem hx hb hd hne (k H locs la hP hD hS hl)
theorem V_ineg {a : Int32} (hX : Cx G d y cc nL rt X) (hd : decode cc pc = .ok (.ineg, 1))  (k : V G nL X (pc + 1) ls (.int (-a) :: st) μ) : V G nL X pc ls (.int a :: st) μ := by
  obtain ⟨p, l, e, R, s, m, args, below, meth, c, A, cells, slots, Qf⟩ := X
  obtain ⟨hx, hb, hr, hlk, hml, hown, hts, hNs, hK, hSt, hA, hfr, hlo, hce, hsl⟩ := hX
  intro H locs la hP hD hS hl
  exact lv_ineg hx hb hd  (k H locs la hP hD hS hl)
theorem V_iushr {a b : Int32} (hX : Cx G d y cc nL rt X) (hd : decode cc pc = .ok (.iushr, 1))  (k : V G nL X (pc + 1) ls (.int ((a.toUInt32 >>> (b.toUInt32 &&& Int32.toUInt32 31)).toInt32) :: st) μ) : V G nL X pc ls (.int b :: .int a :: st) μ := by
  obtain ⟨p, l, e, R, s, m, args, below, meth, c, A, cells, slots, Qf⟩ := X
  obtain ⟨hx, hb, hr, hlk, hml, hown, hts, hNs, hK, hSt, hA, hfr, hlo, hce, hsl⟩ := hX
  intro H locs la hP hD hS hl
  exact lv_iushr hx hb hd rfl (k H locs la hP hD hS hl)
theorem V_ladd {a b : Int64} (hX : Cx G d y cc nL rt X) (hd : decode cc pc = .ok (.ladd, 1))  (k : V G nL X (pc + 1) ls (.long (a + b) :: st) μ) : V G nL X pc ls (.long b :: .long a :: st) μ := by
  obtain ⟨p, l, e, R, s, m, args, below, meth, c, A, cells, slots, Qf⟩ := X
  obtain ⟨hx, hb, hr, hlk, hml, hown, hts, hNs, hK, hSt, hA, hfr, hlo, hce, hsl⟩ := hX
  intro H locs la hP hD hS hl
  exact lv_ladd hx hb hd  (k H locs la hP hD hS hl)
theorem V_lmul {a b : Int64} (hX : Cx G d y cc nL rt X) (hd : decode cc pc = .ok (.lmul, 1))  (k : V G nL X (pc + 1) ls (.long (a * b) :: st) μ) : V G nL X pc ls (.long b :: .long a :: st) μ := by
  obtain ⟨p, l, e, R, s, m, args, below, meth, c, A, cells, slots, Qf⟩ := X
  obtain ⟨hx, hb, hr, hlk, hml, hown, hts, hNs, hK, hSt, hA, hfr, hlo, hce, hsl⟩ := hX
  intro H locs la hP hD hS hl
  exact lv_lmul hx hb hd  (k H locs la hP hD hS hl)
theorem V_lor {a b : Int64} (hX : Cx G d y cc nL rt X) (hd : decode cc pc = .ok (.lor, 1))  (k : V G nL X (pc + 1) ls (.long (a ||| b) :: st) μ) : V G nL X pc ls (.long b :: .long a :: st) μ := by
  obtain ⟨p, l, e, R, s, m, args, below, meth, c, A, cells, slots, Qf⟩ := X
  obtain ⟨hx, hb, hr, hlk, hml, hown, hts, hNs, hK, hSt, hA, hfr, hlo, hce, hsl⟩ := hX
  intro H locs la hP hD hS hl
  exact lv_lor hx hb hd  (k H locs la hP hD hS hl)
theorem V_ldiv {a b : Int64} (hX : Cx G d y cc nL rt X) (hd : decode cc pc = .ok (.ldiv, 1)) (hne : ¬ b = 0) (k : V G nL X (pc + 1) ls (.long (a / b) :: st) μ) : V G nL X pc ls (.long b :: .long a :: st) μ := by
  obtain ⟨p, l, e, R, s, m, args, below, meth, c, A, cells, slots, Qf⟩ := X
  obtain ⟨hx, hb, hr, hlk, hml, hown, hts, hNs, hK, hSt, hA, hfr, hlo, hce, hsl⟩ := hX
  intro H locs la hP hD hS hl
  exact lv_ldiv hx hb hd hne (k H locs la hP hD hS hl)
theorem V_lrem {a b : Int64} (hX : Cx G d y cc nL rt X) (hd : decode cc pc = .ok (.lrem, 1)) (hne : ¬ b = 0) (k : V G nL X (pc + 1) ls (.long (a - a / b * b) :: st) μ) : V G nL X pc ls (.long b :: .long a :: st) μ := by
  obtain ⟨p, l, e, R, s, m, args, below, meth, c, A, cells, slots, Qf⟩ := X
  obtain ⟨hx, hb, hr, hlk, hml, hown, hts, hNs, hK, hSt, hA, hfr, hlo, hce, hsl⟩ := hX
  intro H locs la hP hD hS hl
  exact lv_lrem hx hb hd hne (k H locs la hP hD hS hl)
theorem V_lshl {a : Int64} {b : Int32} (hX : Cx G d y cc nL rt X) (hd : decode cc pc = .ok (.lshl, 1))  (k : V G nL X (pc + 1) ls (.long (a <<< (b.toInt64 &&& 63)) :: st) μ) : V G nL X pc ls (.int b :: .long a :: st) μ := by
  obtain ⟨p, l, e, R, s, m, args, below, meth, c, A, cells, slots, Qf⟩ := X
  obtain ⟨hx, hb, hr, hlk, hml, hown, hts, hNs, hK, hSt, hA, hfr, hlo, hce, hsl⟩ := hX
  intro H locs la hP hD hS hl
  exact lv_lshl hx hb hd rfl (k H locs la hP hD hS hl)
theorem V_i2l {a : Int32} (hX : Cx G d y cc nL rt X) (hd : decode cc pc = .ok (.i2l, 1))  (k : V G nL X (pc + 1) ls (.long a.toInt64 :: st) μ) : V G nL X pc ls (.int a :: st) μ := by
  obtain ⟨p, l, e, R, s, m, args, below, meth, c, A, cells, slots, Qf⟩ := X
  obtain ⟨hx, hb, hr, hlk, hml, hown, hts, hNs, hK, hSt, hA, hfr, hlo, hce, hsl⟩ := hX
  intro H locs la hP hD hS hl
  exact lv_i2l hx hb hd rfl (k H locs la hP hD hS hl)
theorem V_lcmp {a b : Int64} (hX : Cx G d y cc nL rt X) (hd : decode cc pc = .ok (.lcmp, 1))  (k : V G nL X (pc + 1) ls (.int (lg_cmp a b) :: st) μ) : V G nL X pc ls (.long b :: .long a :: st) μ := by
  obtain ⟨p, l, e, R, s, m, args, below, meth, c, A, cells, slots, Qf⟩ := X
  obtain ⟨hx, hb, hr, hlk, hml, hown, hts, hNs, hK, hSt, hA, hfr, hlo, hce, hsl⟩ := hX
  intro H locs la hP hD hS hl
  exact W.lcmp hx hb hd  (k H locs la hP hD hS hl)
theorem V_dup {v : Value} (hX : Cx G d y cc nL rt X) (hd : decode cc pc = .ok (.dup, 1)) (hv : v.category = 1) (k : V G nL X (pc + 1) ls (v :: v :: st) μ) : V G nL X pc ls (v :: st) μ := by
  obtain ⟨p, l, e, R, s, m, args, below, meth, c, A, cells, slots, Qf⟩ := X
  obtain ⟨hx, hb, hr, hlk, hml, hown, hts, hNs, hK, hSt, hA, hfr, hlo, hce, hsl⟩ := hX
  intro H locs la hP hD hS hl
  exact lv_dup hx hb hd ((vre_cat _ _).trans hv) (k H locs la hP hD hS hl)
theorem V_pop {v : Value} (hX : Cx G d y cc nL rt X) (hd : decode cc pc = .ok (.pop, 1)) (hv : v.category = 1) (k : V G nL X (pc + 1) ls st μ) : V G nL X pc ls (v :: st) μ := by
  obtain ⟨p, l, e, R, s, m, args, below, meth, c, A, cells, slots, Qf⟩ := X
  obtain ⟨hx, hb, hr, hlk, hml, hown, hts, hNs, hK, hSt, hA, hfr, hlo, hce, hsl⟩ := hX
  intro H locs la hP hD hS hl
  exact lv_pop hx hb hd ((vre_cat _ _).trans hv) (k H locs la hP hD hS hl)
theorem V_dup2 {v u : Value} (hX : Cx G d y cc nL rt X) (hd : decode cc pc = .ok (.dup2, 1)) (hv : v.category = 1) (hu : u.category = 1) (k : V G nL X (pc + 1) ls (v :: u :: v :: u :: st) μ) : V G nL X pc ls (v :: u :: st) μ := by
  obtain ⟨p, l, e, R, s, m, args, below, meth, c, A, cells, slots, Qf⟩ := X
  obtain ⟨hx, hb, hr, hlk, hml, hown, hts, hNs, hK, hSt, hA, hfr, hlo, hce, hsl⟩ := hX
  intro H locs la hP hD hS hl
  exact lv_dup2_11 hx hb hd ((vre_cat _ _).trans hv) ((vre_cat _ _).trans hu) (k H locs la hP hD hS hl)
theorem V_dup2l {v : Value} (hX : Cx G d y cc nL rt X) (hd : decode cc pc = .ok (.dup2, 1)) (hv : v.category = 2) (k : V G nL X (pc + 1) ls (v :: v :: st) μ) : V G nL X pc ls (v :: st) μ := by
  obtain ⟨p, l, e, R, s, m, args, below, meth, c, A, cells, slots, Qf⟩ := X
  obtain ⟨hx, hb, hr, hlk, hml, hown, hts, hNs, hK, hSt, hA, hfr, hlo, hce, hsl⟩ := hX
  intro H locs la hP hD hS hl
  exact lv_dup2_2 hx hb hd ((vre_cat _ _).trans hv) (k H locs la hP hD hS hl)
theorem V_iload_n {n : Fin 4} {x : Int32} (hX : Cx G d y cc nL rt X) (hd : decode cc pc = .ok (.iload_n n, 1)) (j : Nat) (hj : ls[j]? = some (n.val, .int x)) (k : V G nL X (pc + 1) ls (.int x :: st) μ) : V G nL X pc ls st μ := by
  obtain ⟨p, l, e, R, s, m, args, below, meth, c, A, cells, slots, Qf⟩ := X
  obtain ⟨hx, hb, hr, hlk, hml, hown, hts, hNs, hK, hSt, hA, hfr, hlo, hce, hsl⟩ := hX
  intro H locs la hP hD hS hl
  exact lv_iload_n hx hb hd rfl (vhas_at hl hj) (k H locs la hP hD hS hl)
theorem V_iload {i : Nat} {x : Int32} (hX : Cx G d y cc nL rt X) (hd : decode cc pc = .ok (.iload i, 2)) (j : Nat) (hj : ls[j]? = some (i, .int x)) (k : V G nL X (pc + 2) ls (.int x :: st) μ) : V G nL X pc ls st μ := by
  obtain ⟨p, l, e, R, s, m, args, below, meth, c, A, cells, slots, Qf⟩ := X
  obtain ⟨hx, hb, hr, hlk, hml, hown, hts, hNs, hK, hSt, hA, hfr, hlo, hce, hsl⟩ := hX
  intro H locs la hP hD hS hl
  exact lv_iload hx hb hd (vhas_at hl hj) (k H locs la hP hD hS hl)
theorem V_lload_n {n : Fin 4} {x : Int64} (hX : Cx G d y cc nL rt X) (hd : decode cc pc = .ok (.lload_n n, 1)) (j : Nat) (hj : ls[j]? = some (n.val, .long x)) (k : V G nL X (pc + 1) ls (.long x :: st) μ) : V G nL X pc ls st μ := by
  obtain ⟨p, l, e, R, s, m, args, below, meth, c, A, cells, slots, Qf⟩ := X
  obtain ⟨hx, hb, hr, hlk, hml, hown, hts, hNs, hK, hSt, hA, hfr, hlo, hce, hsl⟩ := hX
  intro H locs la hP hD hS hl
  exact lv_lload_n hx hb hd rfl (vhas_at hl hj) (k H locs la hP hD hS hl)
theorem V_lload {i : Nat} {x : Int64} (hX : Cx G d y cc nL rt X) (hd : decode cc pc = .ok (.lload i, 2)) (j : Nat) (hj : ls[j]? = some (i, .long x)) (k : V G nL X (pc + 2) ls (.long x :: st) μ) : V G nL X pc ls st μ := by
  obtain ⟨p, l, e, R, s, m, args, below, meth, c, A, cells, slots, Qf⟩ := X
  obtain ⟨hx, hb, hr, hlk, hml, hown, hts, hNs, hK, hSt, hA, hfr, hlo, hce, hsl⟩ := hX
  intro H locs la hP hD hS hl
  exact lv_lload hx hb hd (vhas_at hl hj) (k H locs la hP hD hS hl)
theorem V_aload_n {n : Fin 4} {x : Nat} (hX : Cx G d y cc nL rt X) (hd : decode cc pc = .ok (.aload_n n, 1)) (j : Nat) (hj : ls[j]? = some (n.val, .ref x)) (k : V G nL X (pc + 1) ls (.ref x :: st) μ) : V G nL X pc ls st μ := by
  obtain ⟨p, l, e, R, s, m, args, below, meth, c, A, cells, slots, Qf⟩ := X
  obtain ⟨hx, hb, hr, hlk, hml, hown, hts, hNs, hK, hSt, hA, hfr, hlo, hce, hsl⟩ := hX
  intro H locs la hP hD hS hl
  exact lv_aload_n hx hb hd rfl (vhas_at hl hj) (k H locs la hP hD hS hl)
theorem V_aload {i : Nat} {x : Nat} (hX : Cx G d y cc nL rt X) (hd : decode cc pc = .ok (.aload i, 2)) (j : Nat) (hj : ls[j]? = some (i, .ref x)) (k : V G nL X (pc + 2) ls (.ref x :: st) μ) : V G nL X pc ls st μ := by
  obtain ⟨p, l, e, R, s, m, args, below, meth, c, A, cells, slots, Qf⟩ := X
  obtain ⟨hx, hb, hr, hlk, hml, hown, hts, hNs, hK, hSt, hA, hfr, hlo, hce, hsl⟩ := hX
  intro H locs la hP hD hS hl
  exact lv_aload hx hb hd (vhas_at hl hj) (k H locs la hP hD hS hl)
theorem V_istore_n {n : Fin 4} {x : Int32} {ls' : VL} (hX : Cx G d y cc nL rt X) (hd : decode cc pc = .ok (.istore_n n, 1)) (hn : n.val < nL) (hl' : vset1 ls n.val (.int x) = ls') (k : V G nL X (pc + 1) ls' st μ) : V G nL X pc ls (.int x :: st) μ := by
  obtain ⟨p, l, e, R, s, m, args, below, meth, c, A, cells, slots, Qf⟩ := X
  obtain ⟨hx, hb, hr, hlk, hml, hown, hts, hNs, hK, hSt, hA, hfr, hlo, hce, hsl⟩ := hX
  intro H locs la hP hD hS hl
  subst hl'
  exact lv_istore_n hx hb hd rfl hl hn rfl (fun la' h => k H locs la' hP hD hS (by rw [vrl_filter1] at h; exact vhas_ins h))
theorem V_istore {i : Nat} {x : Int32} {ls' : VL} (hX : Cx G d y cc nL rt X) (hd : decode cc pc = .ok (.istore i, 2)) (hn : i < nL) (hl' : vset1 ls i (.int x) = ls') (k : V G nL X (pc + 2) ls' st μ) : V G nL X pc ls (.int x :: st) μ := by
  obtain ⟨p, l, e, R, s, m, args, below, meth, c, A, cells, slots, Qf⟩ := X
  obtain ⟨hx, hb, hr, hlk, hml, hown, hts, hNs, hK, hSt, hA, hfr, hlo, hce, hsl⟩ := hX
  intro H locs la hP hD hS hl
  subst hl'
  exact lv_istore hx hb hd hl hn rfl (fun la' h => k H locs la' hP hD hS (by rw [vrl_filter1] at h; exact vhas_ins h))
theorem V_lstore_n {n : Fin 4} {x : Int64} {ls' : VL} (hX : Cx G d y cc nL rt X) (hd : decode cc pc = .ok (.lstore_n n, 1)) (hn : n.val + 1 < nL) (hl' : vset2 ls n.val (.long x) = ls') (k : V G nL X (pc + 1) ls' st μ) : V G nL X pc ls (.long x :: st) μ := by
  obtain ⟨p, l, e, R, s, m, args, below, meth, c, A, cells, slots, Qf⟩ := X
  obtain ⟨hx, hb, hr, hlk, hml, hown, hts, hNs, hK, hSt, hA, hfr, hlo, hce, hsl⟩ := hX
  intro H locs la hP hD hS hl
  subst hl'
  exact lv_lstore_n hx hb hd rfl hl hn rfl (fun la' h => k H locs la' hP hD hS (by rw [vrl_filter2] at h; exact vhas_ins h))
theorem V_lstore {i : Nat} {x : Int64} {ls' : VL} (hX : Cx G d y cc nL rt X) (hd : decode cc pc = .ok (.lstore i, 2)) (hn : i + 1 < nL) (hl' : vset2 ls i (.long x) = ls') (k : V G nL X (pc + 2) ls' st μ) : V G nL X pc ls (.long x :: st) μ := by
  obtain ⟨p, l, e, R, s, m, args, below, meth, c, A, cells, slots, Qf⟩ := X
  obtain ⟨hx, hb, hr, hlk, hml, hown, hts, hNs, hK, hSt, hA, hfr, hlo, hce, hsl⟩ := hX
  intro H locs la hP hD hS hl
  subst hl'
  exact lv_lstore hx hb hd hl hn rfl (fun la' h => k H locs la' hP hD hS (by rw [vrl_filter2] at h; exact vhas_ins h))
theorem V_astore_n {n : Fin 4} {x : Nat} {ls' : VL} (hX : Cx G d y cc nL rt X) (hd : decode cc pc = .ok (.astore_n n, 1)) (hn : n.val < nL) (hl' : vset1 ls n.val (.ref x) = ls') (k : V G nL X (pc + 1) ls' st μ) : V G nL X pc ls (.ref x :: st) μ := by
  obtain ⟨p, l, e, R, s, m, args, below, meth, c, A, cells, slots, Qf⟩ := X
  obtain ⟨hx, hb, hr, hlk, hml, hown, hts, hNs, hK, hSt, hA, hfr, hlo, hce, hsl⟩ := hX
  intro H locs la hP hD hS hl
  subst hl'
  exact lv_astore_n hx hb hd rfl hl hn rfl (fun la' h => k H locs la' hP hD hS (by rw [vrl_filter1] at h; exact vhas_ins h))
theorem V_astore {i : Nat} {x : Nat} {ls' : VL} (hX : Cx G d y cc nL rt X) (hd : decode cc pc = .ok (.astore i, 2)) (hn : i < nL) (hl' : vset1 ls i (.ref x) = ls') (k : V G nL X (pc + 2) ls' st μ) : V G nL X pc ls (.ref x :: st) μ := by
  obtain ⟨p, l, e, R, s, m, args, below, meth, c, A, cells, slots, Qf⟩ := X
  obtain ⟨hx, hb, hr, hlk, hml, hown, hts, hNs, hK, hSt, hA, hfr, hlo, hce, hsl⟩ := hX
  intro H locs la hP hD hS hl
  subst hl'
  exact lv_astore hx hb hd hl hn rfl (fun la' h => k H locs la' hP hD hS (by rw [vrl_filter1] at h; exact vhas_ins h))
theorem V_iinc {i : Nat} {n : Int} {x v : Int32} {ls' : VL} (hX : Cx G d y cc nL rt X) (hd : decode cc pc = .ok (.iinc i n, 3)) (j : Nat) (hj : ls[j]? = some (i, .int x)) (hv : Int32.ofInt n = v) (hn : i < nL) (hl' : vset1 ls i (.int (x + v)) = ls') (k : V G nL X (pc + 3) ls' st μ) : V G nL X pc ls st μ := by
  obtain ⟨p, l, e, R, s, m, args, below, meth, c, A, cells, slots, Qf⟩ := X
  obtain ⟨hx, hb, hr, hlk, hml, hown, hts, hNs, hK, hSt, hA, hfr, hlo, hce, hsl⟩ := hX
  intro H locs la hP hD hS hl
  subst hl'; subst hv
  exact lv_iinc (k := j) hx hb hd hl (by show (ls.map _)[j]? = _; rw [List.getElem?_map, hj]; rfl) rfl hn rfl (fun la' h => k H locs la' hP hD hS (by rw [vrl_filter1] at h; exact vhas_ins h))
theorem V_if_eq {a : Int32} {off : Int} {tgt : Nat} (hX : Cx G d y cc nL rt X) (hd : decode cc pc = .ok (.ifCond .eq off, 3)) (ht : (pc : Int) + off = (tgt : Int)) (kt : a = 0 → V G nL X tgt ls st μ) (kf : ¬ a = 0 → V G nL X (pc + 3) ls st μ) : V G nL X pc ls (.int a :: st) μ := by
  obtain ⟨p, l, e, R, s, m, args, below, meth, c, A, cells, slots, Qf⟩ := X
  obtain ⟨hx, hb, hr, hlk, hml, hown, hts, hNs, hK, hSt, hA, hfr, hlo, hce, hsl⟩ := hX
  intro H locs la hP hD hS hl
  exact lv_if_eq hx hb hd ht (fun h => kt h H locs la hP hD hS hl) (fun h => kf h H locs la hP hD hS hl)
theorem V_if_ne {a : Int32} {off : Int} {tgt : Nat} (hX : Cx G d y cc nL rt X) (hd : decode cc pc = .ok (.ifCond .ne off, 3)) (ht : (pc : Int) + off = (tgt : Int)) (kt : ¬ a = 0 → V G nL X tgt ls st μ) (kf : a = 0 → V G nL X (pc + 3) ls st μ) : V G nL X pc ls (.int a :: st) μ := by
  obtain ⟨p, l, e, R, s, m, args, below, meth, c, A, cells, slots, Qf⟩ := X
  obtain ⟨hx, hb, hr, hlk, hml, hown, hts, hNs, hK, hSt, hA, hfr, hlo, hce, hsl⟩ := hX
  intro H locs la hP hD hS hl
  exact lv_if_ne hx hb hd ht (fun h => kt h H locs la hP hD hS hl) (fun h => kf h H locs la hP hD hS hl)
theorem V_if_lt {a : Int32} {off : Int} {tgt : Nat} (hX : Cx G d y cc nL rt X) (hd : decode cc pc = .ok (.ifCond .lt off, 3)) (ht : (pc : Int) + off = (tgt : Int)) (kt : a < 0 → V G nL X tgt ls st μ) (kf : ¬ a < 0 → V G nL X (pc + 3) ls st μ) : V G nL X pc ls (.int a :: st) μ := by
  obtain ⟨p, l, e, R, s, m, args, below, meth, c, A, cells, slots, Qf⟩ := X
  obtain ⟨hx, hb, hr, hlk, hml, hown, hts, hNs, hK, hSt, hA, hfr, hlo, hce, hsl⟩ := hX
  intro H locs la hP hD hS hl
  exact lv_if_lt hx hb hd ht (fun h => kt h H locs la hP hD hS hl) (fun h => kf h H locs la hP hD hS hl)
theorem V_if_ge {a : Int32} {off : Int} {tgt : Nat} (hX : Cx G d y cc nL rt X) (hd : decode cc pc = .ok (.ifCond .ge off, 3)) (ht : (pc : Int) + off = (tgt : Int)) (kt : 0 ≤ a → V G nL X tgt ls st μ) (kf : ¬ 0 ≤ a → V G nL X (pc + 3) ls st μ) : V G nL X pc ls (.int a :: st) μ := by
  obtain ⟨p, l, e, R, s, m, args, below, meth, c, A, cells, slots, Qf⟩ := X
  obtain ⟨hx, hb, hr, hlk, hml, hown, hts, hNs, hK, hSt, hA, hfr, hlo, hce, hsl⟩ := hX
  intro H locs la hP hD hS hl
  exact lv_if_ge hx hb hd ht (fun h => kt h H locs la hP hD hS hl) (fun h => kf h H locs la hP hD hS hl)
theorem V_if_gt {a : Int32} {off : Int} {tgt : Nat} (hX : Cx G d y cc nL rt X) (hd : decode cc pc = .ok (.ifCond .gt off, 3)) (ht : (pc : Int) + off = (tgt : Int)) (kt : 0 < a → V G nL X tgt ls st μ) (kf : ¬ 0 < a → V G nL X (pc + 3) ls st μ) : V G nL X pc ls (.int a :: st) μ := by
  obtain ⟨p, l, e, R, s, m, args, below, meth, c, A, cells, slots, Qf⟩ := X
  obtain ⟨hx, hb, hr, hlk, hml, hown, hts, hNs, hK, hSt, hA, hfr, hlo, hce, hsl⟩ := hX
  intro H locs la hP hD hS hl
  exact lv_if_gt hx hb hd ht (fun h => kt h H locs la hP hD hS hl) (fun h => kf h H locs la hP hD hS hl)
theorem V_if_le {a : Int32} {off : Int} {tgt : Nat} (hX : Cx G d y cc nL rt X) (hd : decode cc pc = .ok (.ifCond .le off, 3)) (ht : (pc : Int) + off = (tgt : Int)) (kt : a ≤ 0 → V G nL X tgt ls st μ) (kf : ¬ a ≤ 0 → V G nL X (pc + 3) ls st μ) : V G nL X pc ls (.int a :: st) μ := by
  obtain ⟨p, l, e, R, s, m, args, below, meth, c, A, cells, slots, Qf⟩ := X
  obtain ⟨hx, hb, hr, hlk, hml, hown, hts, hNs, hK, hSt, hA, hfr, hlo, hce, hsl⟩ := hX
  intro H locs la hP hD hS hl
  exact lv_if_le hx hb hd ht (fun h => kt h H locs la hP hD hS hl) (fun h => kf h H locs la hP hD hS hl)
theorem V_icmp_eq {a b : Int32} {off : Int} {tgt : Nat} (hX : Cx G d y cc nL rt X) (hd : decode cc pc = .ok (.if_icmp .eq off, 3)) (ht : (pc : Int) + off = (tgt : Int)) (kt : a = b → V G nL X tgt ls st μ) (kf : ¬ a = b → V G nL X (pc + 3) ls st μ) : V G nL X pc ls (.int b :: .int a :: st) μ := by
  obtain ⟨p, l, e, R, s, m, args, below, meth, c, A, cells, slots, Qf⟩ := X
  obtain ⟨hx, hb, hr, hlk, hml, hown, hts, hNs, hK, hSt, hA, hfr, hlo, hce, hsl⟩ := hX
  intro H locs la hP hD hS hl
  exact lv_icmp_eq hx hb hd ht (fun h => kt h H locs la hP hD hS hl) (fun h => kf h H locs la hP hD hS hl)
theorem V_icmp_ne {a b : Int32} {off : Int} {tgt : Nat} (hX : Cx G d y cc nL rt X) (hd : decode cc pc = .ok (.if_icmp .ne off, 3)) (ht : (pc : Int) + off = (tgt : Int)) (kt : ¬ a = b → V G nL X tgt ls st μ) (kf : a = b → V G nL X (pc + 3) ls st μ) : V G nL X pc ls (.int b :: .int a :: st) μ := by
  obtain ⟨p, l, e, R, s, m, args, below, meth, c, A, cells, slots, Qf⟩ := X
  obtain ⟨hx, hb, hr, hlk, hml, hown, hts, hNs, hK, hSt, hA, hfr, hlo, hce, hsl⟩ := hX
  intro H locs la hP hD hS hl
  exact lv_icmp_ne hx hb hd ht (fun h => kt h H locs la hP hD hS hl) (fun h => kf h H locs la hP hD hS hl)
theorem V_icmp_lt {a b : Int32} {off : Int} {tgt : Nat} (hX : Cx G d y cc nL rt X) (hd : decode cc pc = .ok (.if_icmp .lt off, 3)) (ht : (pc : Int) + off = (tgt : Int)) (kt : a < b → V G nL X tgt ls st μ) (kf : ¬ a < b → V G nL X (pc + 3) ls st μ) : V G nL X pc ls (.int b :: .int a :: st) μ := by
  obtain ⟨p, l, e, R, s, m, args, below, meth, c, A, cells, slots, Qf⟩ := X
  obtain ⟨hx, hb, hr, hlk, hml, hown, hts, hNs, hK, hSt, hA, hfr, hlo, hce, hsl⟩ := hX
  intro H locs la hP hD hS hl
  exact lv_icmp_lt hx hb hd ht (fun h => kt h H locs la hP hD hS hl) (fun h => kf h H locs la hP hD hS hl)
theorem V_icmp_ge {a b : Int32} {off : Int} {tgt : Nat} (hX : Cx G d y cc nL rt X) (hd : decode cc pc = .ok (.if_icmp .ge off, 3)) (ht : (pc : Int) + off = (tgt : Int)) (kt : b ≤ a → V G nL X tgt ls st μ) (kf : ¬ b ≤ a → V G nL X (pc + 3) ls st μ) : V G nL X pc ls (.int b :: .int a :: st) μ := by
  obtain ⟨p, l, e, R, s, m, args, below, meth, c, A, cells, slots, Qf⟩ := X
  obtain ⟨hx, hb, hr, hlk, hml, hown, hts, hNs, hK, hSt, hA, hfr, hlo, hce, hsl⟩ := hX
  intro H locs la hP hD hS hl
  exact lv_icmp_ge hx hb hd ht (fun h => kt h H locs la hP hD hS hl) (fun h => kf h H locs la hP hD hS hl)
theorem V_icmp_gt {a b : Int32} {off : Int} {tgt : Nat} (hX : Cx G d y cc nL rt X) (hd : decode cc pc = .ok (.if_icmp .gt off, 3)) (ht : (pc : Int) + off = (tgt : Int)) (kt : b < a → V G nL X tgt ls st μ) (kf : ¬ b < a → V G nL X (pc + 3) ls st μ) : V G nL X pc ls (.int b :: .int a :: st) μ := by
  obtain ⟨p, l, e, R, s, m, args, below, meth, c, A, cells, slots, Qf⟩ := X
  obtain ⟨hx, hb, hr, hlk, hml, hown, hts, hNs, hK, hSt, hA, hfr, hlo, hce, hsl⟩ := hX
  intro H locs la hP hD hS hl
  exact lv_icmp_gt hx hb hd ht (fun h => kt h H locs la hP hD hS hl) (fun h => kf h H locs la hP hD hS hl)
theorem V_icmp_le {a b : Int32} {off : Int} {tgt : Nat} (hX : Cx G d y cc nL rt X) (hd : decode cc pc = .ok (.if_icmp .le off, 3)) (ht : (pc : Int) + off = (tgt : Int)) (kt : a ≤ b → V G nL X tgt ls st μ) (kf : ¬ a ≤ b → V G nL X (pc + 3) ls st μ) : V G nL X pc ls (.int b :: .int a :: st) μ := by
  obtain ⟨p, l, e, R, s, m, args, below, meth, c, A, cells, slots, Qf⟩ := X
  obtain ⟨hx, hb, hr, hlk, hml, hown, hts, hNs, hK, hSt, hA, hfr, hlo, hce, hsl⟩ := hX
  intro H locs la hP hD hS hl
  exact lv_icmp_le hx hb hd ht (fun h => kt h H locs la hP hD hS hl) (fun h => kf h H locs la hP hD hS hl)
theorem V_goto {off : Int} {tgt : Nat} (hX : Cx G d y cc nL rt X) (hd : decode cc pc = .ok (.goto off, 3)) (ht : (pc : Int) + off = (tgt : Int)) (k : V G nL X tgt ls st μ) : V G nL X pc ls st μ := by
  obtain ⟨p, l, e, R, s, m, args, below, meth, c, A, cells, slots, Qf⟩ := X
  obtain ⟨hx, hb, hr, hlk, hml, hown, hts, hNs, hK, hSt, hA, hfr, hlo, hce, hsl⟩ := hX
  intro H locs la hP hD hS hl
  exact lv_goto hx hb hd ht (k H locs la hP hD hS hl)
theorem V_tableIn {dflt lo hi : Int} {offs : Array Int} {len : Nat} {x : Int32} {off : Int} {tgt : Nat} (hX : Cx G d y cc nL rt X) (hd : decode cc pc = .ok (.tableswitch dflt lo hi offs, len)) (h1 : ¬ x.toInt < lo) (h2 : ¬ hi < x.toInt) (ho : offs[(x.toInt - lo).toNat]? = some off) (ht : (pc : Int) + off = (tgt : Int)) (k : V G nL X tgt ls st μ) : V G nL X pc ls (.int x :: st) μ := by
  obtain ⟨p, l, e, R, s, m, args, below, meth, c, A, cells, slots, Qf⟩ := X
  obtain ⟨hx, hb, hr, hlk, hml, hown, hts, hNs, hK, hSt, hA, hfr, hlo, hce, hsl⟩ := hX
  intro H locs la hP hD hS hl
  exact lv_tableIn hx hb hd h1 h2 ho ht (k H locs la hP hD hS hl)
theorem V_tableOut {dflt lo hi : Int} {offs : Array Int} {len : Nat} {x : Int32} {tgt : Nat} (hX : Cx G d y cc nL rt X) (hd : decode cc pc = .ok (.tableswitch dflt lo hi offs, len)) (h : x.toInt < lo ∨ hi < x.toInt) (ht : (pc : Int) + dflt = (tgt : Int)) (k : V G nL X tgt ls st μ) : V G nL X pc ls (.int x :: st) μ := by
  obtain ⟨p, l, e, R, s, m, args, below, meth, c, A, cells, slots, Qf⟩ := X
  obtain ⟨hx, hb, hr, hlk, hml, hown, hts, hNs, hK, hSt, hA, hfr, hlo, hce, hsl⟩ := hX
  intro H locs la hP hD hS hl
  exact lv_tableOut hx hb hd h ht (k H locs la hP hD hS hl)
theorem V_lookup {dflt : Int} {ps : Array (Int × Int)} {len : Nat} {x : Int32} {off : Int} {tgt : Nat} (hX : Cx G d y cc nL rt X) (hd : decode cc pc = .ok (.lookupswitch dflt ps, len)) (hp : (ps.toList.zip (ps.toList.drop 1)).all (fun (a, next) => a.1 < next.1) = true) (ho : Op.lookupswitch.offset ps.toList dflt x.toInt = off) (ht : (pc : Int) + off = (tgt : Int)) (k : V G nL X tgt ls st μ) : V G nL X pc ls (.int x :: st) μ := by
  obtain ⟨p, l, e, R, s, m, args, below, meth, c, A, cells, slots, Qf⟩ := X
  obtain ⟨hx, hb, hr, hlk, hml, hown, hts, hNs, hK, hSt, hA, hfr, hlo, hce, hsl⟩ := hX
  intro H locs la hP hD hS hl
  exact lv_lookup hx hb hd hp ho ht (k H locs la hP hD hS hl)
theorem V_ldc {n : Nat} {v : Int32} (hX : Cx G d y cc nL rt X) (hc : Cond.constant y.cls n v ∈ lw_tbl) (hd : decode cc pc = .ok (.ldc n, 2)) (k : V G nL X (pc + 2) ls (.int v :: st) μ) : V G nL X pc ls st μ := by
  obtain ⟨p, l, e, R, s, m, args, below, meth, c, A, cells, slots, Qf⟩ := X
  obtain ⟨hx, hb, hr, hlk, hml, hown, hts, hNs, hK, hSt, hA, hfr, hlo, hce, hsl⟩ := hX
  intro H locs la hP hD hS hl
  exact lv_ldc hx hb hown (hts _ (lw_gd hc rfl)) hd (k H locs la hP hD hS hl)
theorem V_ldcw {n : Nat} {v : Int32} (hX : Cx G d y cc nL rt X) (hc : Cond.constant y.cls n v ∈ lw_tbl) (hd : decode cc pc = .ok (.ldc_w n, 3)) (k : V G nL X (pc + 3) ls (.int v :: st) μ) : V G nL X pc ls st μ := by
  obtain ⟨p, l, e, R, s, m, args, below, meth, c, A, cells, slots, Qf⟩ := X
  obtain ⟨hx, hb, hr, hlk, hml, hown, hts, hNs, hK, hSt, hA, hfr, hlo, hce, hsl⟩ := hX
  intro H locs la hP hD hS hl
  exact lv_ldcw hx hb hown (hts _ (lw_gd hc rfl)) hd (k H locs la hP hD hS hl)
theorem V_ldc2 {n : Nat} {v : Int64} (hX : Cx G d y cc nL rt X) (hc : Cond.constantLong y.cls n v ∈ lw_tbl) (hd : decode cc pc = .ok (.ldc2_w n, 3)) (k : V G nL X (pc + 3) ls (.long v :: st) μ) : V G nL X pc ls st μ := by
  obtain ⟨p, l, e, R, s, m, args, below, meth, c, A, cells, slots, Qf⟩ := X
  obtain ⟨hx, hb, hr, hlk, hml, hown, hts, hNs, hK, hSt, hA, hfr, hlo, hce, hsl⟩ := hX
  intro H locs la hP hD hS hl
  exact lv_ldc2 hx hb hown (hts _ (lw_gd hc rfl)) hd (k H locs la hP hD hS hl)
theorem V_iald {i n : Nat} {a : Int32} (hX : Cx G d y cc nL rt X) (hk : vk i = (9, n)) (hin : vp_in a n) (hd : decode cc pc = .ok (.iaload, 1)) (k : V G nL X (pc + 1) ls (.int (μ.1 i a.toNatClampNeg) :: st) μ) : V G nL X pc ls (.int a :: .ref i :: st) μ := by
  obtain ⟨p, l, e, R, s, m, args, below, meth, c, A, cells, slots, Qf⟩ := X
  obtain ⟨hx, hb, hr, hlk, hml, hown, hts, hNs, hK, hSt, hA, hfr, hlo, hce, hsl⟩ := hX
  intro H locs la hP hD hS hl
  exact va_iald hx hb hK hP i 0 (by rw [vW_at G μ (vk_lt hk (by omega)), vE_int G μ hk]) rfl hin hd (k H locs la hP hD hS hl)
theorem V_lald {i n : Nat} {a : Int32} (hX : Cx G d y cc nL rt X) (hk : vk i = (10, n)) (hin : vp_in a n) (hd : decode cc pc = .ok (.laload, 1)) (k : V G nL X (pc + 1) ls (.long (μ.2 i a.toNatClampNeg) :: st) μ) : V G nL X pc ls (.int a :: .ref i :: st) μ := by
  obtain ⟨p, l, e, R, s, m, args, below, meth, c, A, cells, slots, Qf⟩ := X
  obtain ⟨hx, hb, hr, hlk, hml, hown, hts, hNs, hK, hSt, hA, hfr, hlo, hce, hsl⟩ := hX
  intro H locs la hP hD hS hl
  exact va_lald hx hb hK hP i 1 (by rw [vW_at G μ (vk_lt hk (by omega)), vE_long G μ hk]) rfl hin hd (k H locs la hP hD hS hl)
theorem V_zald {i n : Nat} {a : Int32} (hX : Cx G d y cc nL rt X) (hk : vk i = (11, n)) (hin : vp_in a n) (hd : decode cc pc = .ok (.baload, 1)) (k : V G nL X (pc + 1) ls (.int (μ.1 i a.toNatClampNeg) :: st) μ) : V G nL X pc ls (.int a :: .ref i :: st) μ := by
  obtain ⟨p, l, e, R, s, m, args, below, meth, c, A, cells, slots, Qf⟩ := X
  obtain ⟨hx, hb, hr, hlk, hml, hown, hts, hNs, hK, hSt, hA, hfr, hlo, hce, hsl⟩ := hX
  intro H locs la hP hD hS hl
  exact va_zald hx hb hK hP i 2 (by rw [vW_at G μ (vk_lt hk (by omega)), vE_bool G μ hk]) rfl hin hd (k H locs la hP hD hS hl)
theorem V_pald {i n j : Nat} {a : Int32} (hX : Cx G d y cc nL rt X) (hk : vk i = (12, n)) (hin : vp_in a n) (hj : i + 1 + 7 * a.toNatClampNeg = j) (hd : decode cc pc = .ok (.aaload, 1)) (k : V G nL X (pc + 1) ls (.ref j :: st) μ) : V G nL X pc ls (.int a :: .ref i :: st) μ := by
  obtain ⟨p, l, e, R, s, m, args, below, meth, c, A, cells, slots, Qf⟩ := X
  obtain ⟨hx, hb, hr, hlk, hml, hown, hts, hNs, hK, hSt, hA, hfr, hlo, hce, hsl⟩ := hX
  intro H locs la hP hD hS hl
  subst hj
  exact va_aldq (f := fun j => some (G.2.1 (i + 1 + 7 * j))) hx hb hK hP i 3 (by rw [vW_at G μ (vk_lt hk (by omega)), vE_par G μ hk]) rfl hin hd (k H locs la hP hD hS hl)
theorem V_wald {i n j : Nat} {a : Int32} (hX : Cx G d y cc nL rt X) (hk : vk i = (13, n)) (hin : vp_in a n) (hj : i + 1 + 2 * a.toNatClampNeg = j) (hd : decode cc pc = .ok (.aaload, 1)) (k : V G nL X (pc + 1) ls (.ref j :: st) μ) : V G nL X pc ls (.int a :: .ref i :: st) μ := by
  obtain ⟨p, l, e, R, s, m, args, below, meth, c, A, cells, slots, Qf⟩ := X
  obtain ⟨hx, hb, hr, hlk, hml, hown, hts, hNs, hK, hSt, hA, hfr, hlo, hce, hsl⟩ := hX
  intro H locs la hP hD hS hl
  subst hj
  exact va_aldq (f := fun j => some (G.2.1 (i + 1 + 2 * j))) hx hb hK hP i 4 (by rw [vW_at G μ (vk_lt hk (by omega)), vE_walk G μ hk]) rfl hin hd (k H locs la hP hD hS hl)
theorem V_iast {i n : Nat} {a x : Int32} (hX : Cx G d y cc nL rt X) (hk : vk i = (9, n)) (hin : vp_in a n) (hd : decode cc pc = .ok (.iastore, 1)) (k : V G nL X (pc + 1) ls st (vup μ.1 i a.toNatClampNeg x, μ.2)) : V G nL X pc ls (.int x :: .int a :: .ref i :: st) μ := by
  obtain ⟨p, l, e, R, s, m, args, below, meth, c, A, cells, slots, Qf⟩ := X
  obtain ⟨hx, hb, hr, hlk, hml, hown, hts, hNs, hK, hSt, hA, hfr, hlo, hce, hsl⟩ := hX
  intro H locs la hP hD hS hl
  refine va_iast hx hb hK hP hD hS i 0 (by rw [vW_at G μ (vk_lt hk (by omega)), vE_int G μ hk]) rfl hin hd (fun H1 locs1 hP1 hD1 hS1 => ?_)
  rw [vW_arri hk] at hP1 hD1
  exact k H1 locs1 la hP1 hD1 hS1 hl
theorem V_last {i n : Nat} {a : Int32} {x : Int64} (hX : Cx G d y cc nL rt X) (hk : vk i = (10, n)) (hin : vp_in a n) (hd : decode cc pc = .ok (.lastore, 1)) (k : V G nL X (pc + 1) ls st (μ.1, vup μ.2 i a.toNatClampNeg x)) : V G nL X pc ls (.long x :: .int a :: .ref i :: st) μ := by
  obtain ⟨p, l, e, R, s, m, args, below, meth, c, A, cells, slots, Qf⟩ := X
  obtain ⟨hx, hb, hr, hlk, hml, hown, hts, hNs, hK, hSt, hA, hfr, hlo, hce, hsl⟩ := hX
  intro H locs la hP hD hS hl
  refine va_last hx hb hK hP hD hS i 1 (by rw [vW_at G μ (vk_lt hk (by omega)), vE_long G μ hk]) rfl hin hd (fun H1 locs1 hP1 hD1 hS1 => ?_)
  rw [vW_arrl hk] at hP1 hD1
  exact k H1 locs1 la hP1 hD1 hS1 hl
theorem V_zast {i n : Nat} {a x : Int32} (hX : Cx G d y cc nL rt X) (hk : vk i = (11, n)) (hin : vp_in a n) (hz : vp_nar .boolean x = x) (hd : decode cc pc = .ok (.bastore, 1)) (k : V G nL X (pc + 1) ls st (vup μ.1 i a.toNatClampNeg x, μ.2)) : V G nL X pc ls (.int x :: .int a :: .ref i :: st) μ := by
  obtain ⟨p, l, e, R, s, m, args, below, meth, c, A, cells, slots, Qf⟩ := X
  obtain ⟨hx, hb, hr, hlk, hml, hown, hts, hNs, hK, hSt, hA, hfr, hlo, hce, hsl⟩ := hX
  intro H locs la hP hD hS hl
  refine va_zast hx hb hK hP hD hS i 2 (by rw [vW_at G μ (vk_lt hk (by omega)), vE_bool G μ hk]) rfl hin hd (fun H1 locs1 hP1 hD1 hS1 => ?_)
  rw [hz, vW_arrz hk] at hP1 hD1
  exact k H1 locs1 la hP1 hD1 hS1 hl
theorem V_cald0 {a : Int32} (hX : Cx G d y cc nL rt X) (hin : vp_in a 7) (hd : decode cc pc = .ok (.caload, 1)) (k : V G nL X (pc + 1) ls (.int (vBC a.toNatClampNeg) :: st) μ) : V G nL X pc ls (.int a :: .ref 1000 :: st) μ := by
  obtain ⟨p, l, e, R, s, m, args, below, meth, c, A, cells, slots, Qf⟩ := X
  obtain ⟨hx, hb, hr, hlk, hml, hown, hts, hNs, hK, hSt, hA, hfr, hlo, hce, hsl⟩ := hX
  intro H locs la hP hD hS hl
  exact va_tc hx hb hSt.1.2 hS hin rfl hd (k H locs la hP hD hS hl)
theorem V_cald1 {a : Int32} (hX : Cx G d y cc nL rt X) (hin : vp_in a 7) (hd : decode cc pc = .ok (.caload, 1)) (k : V G nL X (pc + 1) ls (.int (vBD a.toNatClampNeg) :: st) μ) : V G nL X pc ls (.int a :: .ref 1001 :: st) μ := by
  obtain ⟨p, l, e, R, s, m, args, below, meth, c, A, cells, slots, Qf⟩ := X
  obtain ⟨hx, hb, hr, hlk, hml, hown, hts, hNs, hK, hSt, hA, hfr, hlo, hce, hsl⟩ := hX
  intro H locs la hP hD hS hl
  exact va_tc hx hb hSt.2.2 hS hin rfl hd (k H locs la hP hD hS hl)
theorem V_gets0 {n : Nat} (hX : Cx G d y cc nL rt X) (hc : Cond.fieldLink y.cls n "NodTax" "BY_CODE" "[C" ∈ lw_tbl) (hd : decode cc pc = .ok (.getstatic n, 3)) (k : V G nL X (pc + 3) ls (.ref 1000 :: st) μ) : V G nL X pc ls st μ := by
  obtain ⟨p, l, e, R, s, m, args, below, meth, c, A, cells, slots, Qf⟩ := X
  obtain ⟨hx, hb, hr, hlk, hml, hown, hts, hNs, hK, hSt, hA, hfr, hlo, hce, hsl⟩ := hX
  intro H locs la hP hD hS hl
  exact va_gets hx hb hSt.1.1 hS hown (hts _ (lw_gd hc rfl)) (fun _ h => h) hd (k H locs la hP hD hS hl)
theorem V_gets0N {n : Nat} (hX : Cx G d y cc nL rt X) (hc : Cond.fieldLinkNest y.cls n "NodTax" "BY_CODE" "[C" "NodTax" ∈ lw_tbl) (hd : decode cc pc = .ok (.getstatic n, 3)) (k : V G nL X (pc + 3) ls (.ref 1000 :: st) μ) : V G nL X pc ls st μ := by
  obtain ⟨p, l, e, R, s, m, args, below, meth, c, A, cells, slots, Qf⟩ := X
  obtain ⟨hx, hb, hr, hlk, hml, hown, hts, hNs, hK, hSt, hA, hfr, hlo, hce, hsl⟩ := hX
  intro H locs la hP hD hS hl
  exact va_getsN hx hb hSt.1.1 hS hown (va_Nw.use rfl (hNs _ hc rfl)) (fun _ h => h) hd (k H locs la hP hD hS hl)
theorem V_gets1 {n : Nat} (hX : Cx G d y cc nL rt X) (hc : Cond.fieldLink y.cls n "NodTax" "BY_DRAW" "[C" ∈ lw_tbl) (hd : decode cc pc = .ok (.getstatic n, 3)) (k : V G nL X (pc + 3) ls (.ref 1001 :: st) μ) : V G nL X pc ls st μ := by
  obtain ⟨p, l, e, R, s, m, args, below, meth, c, A, cells, slots, Qf⟩ := X
  obtain ⟨hx, hb, hr, hlk, hml, hown, hts, hNs, hK, hSt, hA, hfr, hlo, hce, hsl⟩ := hX
  intro H locs la hP hD hS hl
  exact va_gets hx hb hSt.2.1 hS hown (hts _ (lw_gd hc rfl)) (fun _ h => h) hd (k H locs la hP hD hS hl)
/-- a field of cells of kind ci, as the instruction that names pool entry n of cls has it -/
def vFL (cls : String) (n ci k : Nat) (t : Nat × Nat) : Prop := ∃ (C : String) (T : u_T) (N : Nat) (ref : String), ci < 9 ∧ vwCl[ci]? = some (C, T, N) ∧ k < N ∧ (vF ci)[k]? = some t ∧ (∀ w ∈ u_ws C T N, w ∈ lw_good) ∧ Cond.fieldLink cls n ref (T k).2.1 (T k).2.2.1 ∈ lw_tbl ∧ (ref = (T k).1 ∨ Cond.sameField ref (T k).1 (T k).2.1 (T k).2.2.1 ∈ lw_tbl)
/-- what a write asks besides -/
def vFW (ci k : Nat) (ty : FieldType) : Prop := ∃ (C : String) (T : u_T) (N : Nat) (t0 : Nat → FieldType), vwCl[ci]? = some (C, T, N) ∧ (∀ k, k < N → parseFieldDescriptor (T k).2.2.1 = some (t0 k)) ∧ (∀ a, a < N → ∀ b, b < N → a ≠ b → (T a).2.1 ≠ (T b).2.1) ∧ (T k).2.2.2 = false ∧ parseFieldDescriptor (T k).2.2.1 = some ty
theorem vF_len {ci k : Nat} {t : Nat × Nat} (G : VG) (μ : VS) (i : Nat) (h : (vF ci)[k]? = some t) : k < (vfs G μ i ci).length := by
  unfold vfs
  rw [List.length_mapIdx]
  exact (List.getElem?_eq_some_iff.mp h).1
theorem vsame {args : Array Value} {s : State} {ref o n dd : String} (hts : ∀ w ∈ lw_good, w.before args s = true) (h : ref = o ∨ Cond.sameField ref o n dd ∈ lw_tbl) : ∀ x, s.fieldFound? o n dd = some x → s.fieldFound? ref n dd = some x := by
  rcases h with h | h
  · subst h; exact fun _ h => h
  · exact u_same (hts _ (lw_gd h rfl))
theorem V_geti {i ci q n : Nat} (hX : Cx G d y cc nL rt X) (hf : vFL y.cls n ci q (0, 0)) (hk : vk i = (ci, 0)) (hd : decode cc pc = .ok (.getfield n, 3)) (k : V G nL X (pc + 3) ls (.int (μ.1 i q) :: st) μ) : V G nL X pc ls (.ref i :: st) μ := by
  obtain ⟨p, l, e, R, s, m, args, below, meth, c, A, cells, slots, Qf⟩ := X
  obtain ⟨hx, hb, hr, hlk, hml, hown, hts, hNs, hK, hSt, hA, hfr, hlo, hce, hsl⟩ := hX
  intro H locs la hP hD hS hl
  obtain ⟨C, T, N, ref, h9, hc, hq, hv, hin, hlink, hsm⟩ := hf
  exact va_get hx hb hts hin hown hK hP i (by rw [vW_at G μ (vk_lt hk (by omega)), vE_obj G μ hk h9]) hc q hq (hts _ (lw_gd hlink rfl)) (vsame hts hsm) (vfs_at G μ hv) hd (k H locs la hP hD hS hl)
theorem V_getl {i ci q n : Nat} (hX : Cx G d y cc nL rt X) (hf : vFL y.cls n ci q (1, 0)) (hk : vk i = (ci, 0)) (hd : decode cc pc = .ok (.getfield n, 3)) (k : V G nL X (pc + 3) ls (.long (μ.2 i q) :: st) μ) : V G nL X pc ls (.ref i :: st) μ := by
  obtain ⟨p, l, e, R, s, m, args, below, meth, c, A, cells, slots, Qf⟩ := X
  obtain ⟨hx, hb, hr, hlk, hml, hown, hts, hNs, hK, hSt, hA, hfr, hlo, hce, hsl⟩ := hX
  intro H locs la hP hD hS hl
  obtain ⟨C, T, N, ref, h9, hc, hq, hv, hin, hlink, hsm⟩ := hf
  exact va_get hx hb hts hin hown hK hP i (by rw [vW_at G μ (vk_lt hk (by omega)), vE_obj G μ hk h9]) hc q hq (hts _ (lw_gd hlink rfl)) (vsame hts hsm) (vfs_at G μ hv) hd (k H locs la hP hD hS hl)
theorem V_getr {i ci q n : Nat} {o j : Nat} (hX : Cx G d y cc nL rt X) (hf : vFL y.cls n ci q (2, o)) (hk : vk i = (ci, 0)) (hj : i + o = j) (hd : decode cc pc = .ok (.getfield n, 3)) (k : V G nL X (pc + 3) ls (.ref j :: st) μ) : V G nL X pc ls (.ref i :: st) μ := by
  obtain ⟨p, l, e, R, s, m, args, below, meth, c, A, cells, slots, Qf⟩ := X
  obtain ⟨hx, hb, hr, hlk, hml, hown, hts, hNs, hK, hSt, hA, hfr, hlo, hce, hsl⟩ := hX
  intro H locs la hP hD hS hl
  subst hj
  obtain ⟨C, T, N, ref, h9, hc, hq, hv, hin, hlink, hsm⟩ := hf
  exact va_get hx hb hts hin hown hK hP i (by rw [vW_at G μ (vk_lt hk (by omega)), vE_obj G μ hk h9]) hc q hq (hts _ (lw_gd hlink rfl)) (vsame hts hsm) (vfs_at G μ hv) hd (k H locs la hP hD hS hl)
theorem V_puti {i ci q n : Nat} {x : Int32} (hX : Cx G d y cc nL rt X) (hf : vFL y.cls n ci q (0, 0)) (hw : vFW ci q .int) (hk : vk i = (ci, 0)) (hd : decode cc pc = .ok (.putfield n, 3)) (k : V G nL X (pc + 3) ls st (vup μ.1 i q x, μ.2)) : V G nL X pc ls (.int x :: .ref i :: st) μ := by
  obtain ⟨p, l, e, R, s, m, args, below, meth, c, A, cells, slots, Qf⟩ := X
  obtain ⟨hx, hb, hr, hlk, hml, hown, hts, hNs, hK, hSt, hA, hfr, hlo, hce, hsl⟩ := hX
  intro H locs la hP hD hS hl
  obtain ⟨C, T, N, ref, h9, hc, hq, hv, hin, hlink, hsm⟩ := hf
  obtain ⟨C', T', N', t0, hc', ht0, hnm, hfin, hpd⟩ := hw
  cases hc.symm.trans hc'
  refine va_put (v := .int x) hx hb hts hin t0 ht0 hnm hown hK hP hD hS i (by rw [vW_at G μ (vk_lt hk (by omega)), vE_obj G μ hk h9]) hc q hq (hts _ (lw_gd hlink rfl)) (vsame hts hsm) hfin hpd rfl rfl (vF_len G μ i hv) hd (fun H1 locs1 hP1 hD1 hS1 => ?_)
  rw [vW_seti hk h9 hv] at hP1 hD1
  exact k H1 locs1 la hP1 hD1 hS1 hl
theorem V_putz {i ci q n : Nat} {x : Int32} (hX : Cx G d y cc nL rt X) (hf : vFL y.cls n ci q (0, 0)) (hw : vFW ci q .boolean) (hk : vk i = (ci, 0)) (hz : narrow .boolean (.int x) = .int x) (hz2 : fits .boolean (.int x) = true) (hd : decode cc pc = .ok (.putfield n, 3)) (k : V G nL X (pc + 3) ls st (vup μ.1 i q x, μ.2)) : V G nL X pc ls (.int x :: .ref i :: st) μ := by
  obtain ⟨p, l, e, R, s, m, args, below, meth, c, A, cells, slots, Qf⟩ := X
  obtain ⟨hx, hb, hr, hlk, hml, hown, hts, hNs, hK, hSt, hA, hfr, hlo, hce, hsl⟩ := hX
  intro H locs la hP hD hS hl
  obtain ⟨C, T, N, ref, h9, hc, hq, hv, hin, hlink, hsm⟩ := hf
  obtain ⟨C', T', N', t0, hc', ht0, hnm, hfin, hpd⟩ := hw
  cases hc.symm.trans hc'
  refine va_put (v := .int x) hx hb hts hin t0 ht0 hnm hown hK hP hD hS i (by rw [vW_at G μ (vk_lt hk (by omega)), vE_obj G μ hk h9]) hc q hq (hts _ (lw_gd hlink rfl)) (vsame hts hsm) hfin hpd hz hz2 (vF_len G μ i hv) hd (fun H1 locs1 hP1 hD1 hS1 => ?_)
  rw [vW_seti hk h9 hv] at hP1 hD1
  exact k H1 locs1 la hP1 hD1 hS1 hl
theorem V_putl {i ci q n : Nat} {x : Int64} (hX : Cx G d y cc nL rt X) (hf : vFL y.cls n ci q (1, 0)) (hw : vFW ci q .long) (hk : vk i = (ci, 0)) (hd : decode cc pc = .ok (.putfield n, 3)) (k : V G nL X (pc + 3) ls st (μ.1, vup μ.2 i q x)) : V G nL X pc ls (.long x :: .ref i :: st) μ := by
  obtain ⟨p, l, e, R, s, m, args, below, meth, c, A, cells, slots, Qf⟩ := X
  obtain ⟨hx, hb, hr, hlk, hml, hown, hts, hNs, hK, hSt, hA, hfr, hlo, hce, hsl⟩ := hX
  intro H locs la hP hD hS hl
  obtain ⟨C, T, N, ref, h9, hc, hq, hv, hin, hlink, hsm⟩ := hf
  obtain ⟨C', T', N', t0, hc', ht0, hnm, hfin, hpd⟩ := hw
  cases hc.symm.trans hc'
  refine va_put (v := .long x) hx hb hts hin t0 ht0 hnm hown hK hP hD hS i (by rw [vW_at G μ (vk_lt hk (by omega)), vE_obj G μ hk h9]) hc q hq (hts _ (lw_gd hlink rfl)) (vsame hts hsm) hfin hpd rfl rfl (vF_len G μ i hv) hd (fun H1 locs1 hP1 hD1 hS1 => ?_)
  rw [vW_setl hk h9 hv] at hP1 hD1
  exact k H1 locs1 la hP1 hD1 hS1 hl
theorem V_iret {x : Int32} (hX : Cx G d y cc nL rt X) (hrt : rt = some .int) (hd : decode cc pc = .ok (.ireturn, 1)) (k : Ret G X (some (.int x)) μ) : V G nL X pc ls [.int x] μ := by
  obtain ⟨p, l, e, R, s, m, args, below, meth, c, A, cells, slots, Qf⟩ := X
  obtain ⟨hx, hb, hr, hlk, hml, hown, hts, hNs, hK, hSt, hA, hfr, hlo, hce, hsl⟩ := hX
  intro H locs la hP hD hS hl
  obtain ⟨Q, hQ, hq⟩ := k
  subst hQ; subst hrt
  exact W.iret hx hb hr (fun t ht hW => ⟨⟨some (.int x), μ, rfl, hq, by rw [ht]; exact hP⟩, hS.F ht⟩) hS.2.2 hd hlk
theorem V_lret {x : Int64} (hX : Cx G d y cc nL rt X) (hrt : rt = some .long) (hd : decode cc pc = .ok (.lreturn, 1)) (k : Ret G X (some (.long x)) μ) : V G nL X pc ls [.long x] μ := by
  obtain ⟨p, l, e, R, s, m, args, below, meth, c, A, cells, slots, Qf⟩ := X
  obtain ⟨hx, hb, hr, hlk, hml, hown, hts, hNs, hK, hSt, hA, hfr, hlo, hce, hsl⟩ := hX
  intro H locs la hP hD hS hl
  obtain ⟨Q, hQ, hq⟩ := k
  subst hQ; subst hrt
  exact W.lret hx hb hr (fun t ht hW => ⟨⟨some (.long x), μ, rfl, hq, by rw [ht]; exact hP⟩, hS.F ht⟩) hS.2.2 hd hlk
theorem V_zret {x : Int32} (hX : Cx G d y cc nL rt X) (hrt : rt = some .boolean) (hz : narrow .boolean (.int x) = .int x) (hd : decode cc pc = .ok (.ireturn, 1)) (k : Ret G X (some (.int x)) μ) : V G nL X pc ls [.int x] μ := by
  obtain ⟨p, l, e, R, s, m, args, below, meth, c, A, cells, slots, Qf⟩ := X
  obtain ⟨hx, hb, hr, hlk, hml, hown, hts, hNs, hK, hSt, hA, hfr, hlo, hce, hsl⟩ := hX
  intro H locs la hP hD hS hl
  obtain ⟨Q, hQ, hq⟩ := k
  subst hQ; subst hrt
  exact W.zret hx hb hr hz (fun t ht hW => ⟨⟨some (.int x), μ, rfl, hq, by rw [ht]; exact hP⟩, hS.F ht⟩) hS.2.2 hd hlk
theorem V_vret  (hX : Cx G d y cc nL rt X) (hrt : rt = none) (hd : decode cc pc = .ok (.return_, 1)) (k : Ret G X none μ) : V G nL X pc ls [] μ := by
  obtain ⟨p, l, e, R, s, m, args, below, meth, c, A, cells, slots, Qf⟩ := X
  obtain ⟨hx, hb, hr, hlk, hml, hown, hts, hNs, hK, hSt, hA, hfr, hlo, hce, hsl⟩ := hX
  intro H locs la hP hD hS hl
  obtain ⟨Q, hQ, hq⟩ := k
  subst hQ; subst hrt
  exact W.vret hx hb hr (fun t ht hW => ⟨⟨none, μ, rfl, hq, by rw [ht]; exact hP⟩, hS.F ht⟩) hS.2.2 hd hlk
theorem V_aret {x : Nat} {C : String} (hX : Cx G d y cc nL rt X) (hrt : rt = some (.object C)) (hd : decode cc pc = .ok (.areturn, 1)) (k : Ret G X (some (.ref x)) μ) : V G nL X pc ls [.ref x] μ := by
  obtain ⟨p, l, e, R, s, m, args, below, meth, c, A, cells, slots, Qf⟩ := X
  obtain ⟨hx, hb, hr, hlk, hml, hown, hts, hNs, hK, hSt, hA, hfr, hlo, hce, hsl⟩ := hX
  intro H locs la hP hD hS hl
  obtain ⟨Q, hQ, hq⟩ := k
  subst hQ; subst hrt
  exact W.aret hx hb hr (Or.inl ⟨C, rfl⟩) (Or.inr ⟨_, rfl⟩) (fun t ht hW => ⟨⟨some (.ref x), μ, rfl, hq, by rw [ht]; exact hP⟩, hS.F ht⟩) hS.2.2 hd hlk
end VR
