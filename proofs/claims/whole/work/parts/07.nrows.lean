/-! rows for numbers that are naturals -/
def bI (p : Prop) [Decidable p] : Int32 := if p then 1 else 0
theorem bI_t {p : Prop} [Decidable p] (h : p) : bI p = 1 := if_pos h
theorem bI_f {p : Prop} [Decidable p] (h : ¬ p) : bI p = 0 := if_neg h
theorem bI_0 {p : Prop} [Decidable p] : bI p = 0 ↔ ¬ p := by
  unfold bI
  split
  · rename_i h
    exact ⟨fun e => absurd e (by decide), fun e => absurd h e⟩
  · rename_i h
    exact ⟨fun _ => h, fun _ => rfl⟩
theorem bI_n0 {p : Prop} [Decidable p] : ¬ bI p = 0 ↔ p := by rw [bI_0]; exact Decidable.not_not
theorem bI_nar {p : Prop} [Decidable p] : narrow .boolean (.int (bI p)) = .int (bI p) := by
  unfold bI
  split <;> rfl
theorem nI_small {a : Nat} (h : a < 1000000) : a < 2 ^ 31 := by omega
theorem nI_orI (a b : Nat) : nI a ||| nI b = nI (a ||| b) := by
  apply Int32.toBitVec_inj.mp
  show BitVec.ofNat 32 a ||| BitVec.ofNat 32 b = BitVec.ofNat 32 (a ||| b)
  apply BitVec.eq_of_toNat_eq
  simp only [BitVec.toNat_or, BitVec.toNat_ofNat]
  rw [Nat.or_mod_two_pow]
theorem nI_andI (a b : Nat) : nI a &&& nI b = nI (a &&& b) := by
  apply Int32.toBitVec_inj.mp
  show BitVec.ofNat 32 a &&& BitVec.ofNat 32 b = BitVec.ofNat 32 (a &&& b)
  apply BitVec.eq_of_toNat_eq
  simp only [BitVec.toNat_and, BitVec.toNat_ofNat]
  rw [Nat.and_mod_two_pow]
theorem nI_xorI (a b : Nat) : nI a ^^^ nI b = nI (a ^^^ b) := by
  apply Int32.toBitVec_inj.mp
  show BitVec.ofNat 32 a ^^^ BitVec.ofNat 32 b = BitVec.ofNat 32 (a ^^^ b)
  apply BitVec.eq_of_toNat_eq
  simp only [BitVec.toNat_xor, BitVec.toNat_ofNat]
  rw [Nat.xor_mod_two_pow]
theorem nI_sh31 {k : Nat} (h : k < 32) : ((nI k &&& 31).toBitVec.smod 32).toNat = k := by
  have : ∀ k : Fin 32, ((nI k.val &&& 31).toBitVec.smod 32).toNat = k.val := by decide +kernel
  exact this ⟨k, h⟩
theorem nI_shlI {n k : Nat} (hk : k < 32) (h : n * 2 ^ k < 2 ^ 32) : nI n <<< (nI k &&& 31) = nI (n <<< k) := by
  rw [pk_shlN (nI k &&& 31) k (nI_sh31 hk) h, Nat.shiftLeft_eq]
theorem nI_shrI {n k : Nat} (hk : k < 32) (h : n < 2 ^ 31) : nI n >>> (nI k &&& 31) = nI (n >>> k) := by
  rw [pk_shrN h (nI k &&& 31) k (nI_sh31 hk), Nat.shiftRight_eq_div_pow]
section VN
variable {G : VG} {d nL pc : Nat} {y : MethodName} {cc : ByteArray} {rt : Option FieldType} {X : VX} {ls : VL} {st : List Value} {μ : VS} {a b : Nat}
theorem V_sub {ls' : VL} (ks : List Nat) (h : lv_pick ls ks = ls') (k : V G nL X pc ls' st μ) : V G nL X pc ls st μ := by
  obtain ⟨p, l, e, R, s, m, args, below, meth, c, A, cells, slots, Qf⟩ := X
  intro H locs la hP hD hS hl
  refine k H locs la hP hD hS ?_
  subst h
  refine ⟨hl.1, hl.2.1, fun q hq => hl.2.2 q ?_⟩
  unfold vrl at hq ⊢
  obtain ⟨z, hz, rfl⟩ := List.mem_map.mp hq
  obtain ⟨i, -, hi⟩ := List.mem_filterMap.mp hz
  exact List.mem_map.mpr ⟨z, List.mem_of_getElem? hi, rfl⟩
theorem V_iaddN (hX : Cx G d y cc nL rt X) (hd : decode cc pc = .ok (.iadd, 1)) (k : V G nL X (pc + 1) ls (.int (nI (a + b)) :: st) μ) : V G nL X pc ls (.int (nI b) :: .int (nI a) :: st) μ := V_iadd hX hd (by rw [nI_add]; exact k)
theorem V_isubN (hX : Cx G d y cc nL rt X) (hd : decode cc pc = .ok (.isub, 1)) (h : b ≤ a) (k : V G nL X (pc + 1) ls (.int (nI (a - b)) :: st) μ) : V G nL X pc ls (.int (nI b) :: .int (nI a) :: st) μ := V_isub hX hd (by rw [pk_sub h]; exact k)
theorem V_imulN (hX : Cx G d y cc nL rt X) (hd : decode cc pc = .ok (.imul, 1)) (k : V G nL X (pc + 1) ls (.int (nI (a * b)) :: st) μ) : V G nL X pc ls (.int (nI b) :: .int (nI a) :: st) μ := V_imul hX hd (by rw [pk_mul]; exact k)
theorem V_idivN (hX : Cx G d y cc nL rt X) (hd : decode cc pc = .ok (.idiv, 1)) (h0 : 0 < b) (ha : a < 2 ^ 31) (hb : b < 2 ^ 31) (k : V G nL X (pc + 1) ls (.int (nI (a / b)) :: st) μ) : V G nL X pc ls (.int (nI b) :: .int (nI a) :: st) μ := V_idiv hX hd (nI_ne0 h0 hb) (by rw [pk_div ha h0 hb]; exact k)
theorem V_iremN (hX : Cx G d y cc nL rt X) (hd : decode cc pc = .ok (.irem, 1)) (h0 : 0 < b) (ha : a < 2 ^ 31) (hb : b < 2 ^ 31) (k : V G nL X (pc + 1) ls (.int (nI (a % b)) :: st) μ) : V G nL X pc ls (.int (nI b) :: .int (nI a) :: st) μ := V_irem hX hd (nI_ne0 h0 hb) (by rw [pk_rem ha h0 hb]; exact k)
theorem V_iorN (hX : Cx G d y cc nL rt X) (hd : decode cc pc = .ok (.ior, 1)) (k : V G nL X (pc + 1) ls (.int (nI (a ||| b)) :: st) μ) : V G nL X pc ls (.int (nI b) :: .int (nI a) :: st) μ := V_ior hX hd (by rw [nI_orI]; exact k)
theorem V_iandN (hX : Cx G d y cc nL rt X) (hd : decode cc pc = .ok (.iand, 1)) (k : V G nL X (pc + 1) ls (.int (nI (a &&& b)) :: st) μ) : V G nL X pc ls (.int (nI b) :: .int (nI a) :: st) μ := V_iand hX hd (by rw [nI_andI]; exact k)
theorem V_ixorN (hX : Cx G d y cc nL rt X) (hd : decode cc pc = .ok (.ixor, 1)) (k : V G nL X (pc + 1) ls (.int (nI (a ^^^ b)) :: st) μ) : V G nL X pc ls (.int (nI b) :: .int (nI a) :: st) μ := V_ixor hX hd (by rw [nI_xorI]; exact k)
theorem V_ishlN (hX : Cx G d y cc nL rt X) (hd : decode cc pc = .ok (.ishl, 1)) (hb : b < 32) (ha : a * 2 ^ b < 2 ^ 32) (k : V G nL X (pc + 1) ls (.int (nI (a <<< b)) :: st) μ) : V G nL X pc ls (.int (nI b) :: .int (nI a) :: st) μ := V_ishl hX hd (by rw [nI_shlI hb ha]; exact k)
theorem V_ishrN (hX : Cx G d y cc nL rt X) (hd : decode cc pc = .ok (.ishr, 1)) (hb : b < 32) (ha : a < 2 ^ 31) (k : V G nL X (pc + 1) ls (.int (nI (a >>> b)) :: st) μ) : V G nL X pc ls (.int (nI b) :: .int (nI a) :: st) μ := V_ishr hX hd (by rw [nI_shrI hb ha]; exact k)
theorem V_iincN {i n : Nat} {ls' : VL} (hX : Cx G d y cc nL rt X) (hd : decode cc pc = .ok (.iinc i (n : Int), 3)) (j : Nat) (hj : ls[j]? = some (i, .int (nI a))) (hn : i < nL) (hl' : vset1 ls i (.int (nI (a + n))) = ls') (k : V G nL X (pc + 3) ls' st μ) : V G nL X pc ls st μ := by
  have e : Int32.ofInt (n : Int) = nI n := rfl
  exact V_iinc hX hd j hj e hn (by rw [nI_add]; exact hl') k
theorem V_getN {i ci q n : Nat} {x : Int32} (hX : Cx G d y cc nL rt X) (hf : vFL y.cls n ci q (0, 0)) (hk : vk i = (ci, 0)) (hv : μ.1 i q = x) (hd : decode cc pc = .ok (.getfield n, 3)) (k : V G nL X (pc + 3) ls (.int x :: st) μ) : V G nL X pc ls (.ref i :: st) μ := V_geti hX hf hk hd (by rw [hv]; exact k)
theorem V_ialdN {i n j : Nat} {x : Int32} (hX : Cx G d y cc nL rt X) (hk : vk i = (9, n)) (hj : j < n) (hn : n < 1000) (hv : μ.1 i j = x) (hd : decode cc pc = .ok (.iaload, 1)) (k : V G nL X (pc + 1) ls (.int x :: st) μ) : V G nL X pc ls (.int (nI j) :: .ref i :: st) μ := by
  refine V_iald hX hk (vp_in_nI hj (by omega)) hd ?_
  rw [nI_clamp (by omega), hv]
  exact k
theorem V_iastN {i n j : Nat} {x : Int32} (hX : Cx G d y cc nL rt X) (hk : vk i = (9, n)) (hj : j < n) (hn : n < 1000) (hd : decode cc pc = .ok (.iastore, 1)) (k : V G nL X (pc + 1) ls st (vup μ.1 i j x, μ.2)) : V G nL X pc ls (.int x :: .int (nI j) :: .ref i :: st) μ := by
  refine V_iast hX hk (vp_in_nI hj (by omega)) hd ?_
  rw [nI_clamp (by omega)]
  exact k
theorem V_laldN {i n j : Nat} {x : Int64} (hX : Cx G d y cc nL rt X) (hk : vk i = (10, n)) (hj : j < n) (hn : n < 1000) (hv : μ.2 i j = x) (hd : decode cc pc = .ok (.laload, 1)) (k : V G nL X (pc + 1) ls (.long x :: st) μ) : V G nL X pc ls (.int (nI j) :: .ref i :: st) μ := by
  refine V_lald hX hk (vp_in_nI hj (by omega)) hd ?_
  rw [nI_clamp (by omega), hv]
  exact k
theorem V_lastN {i n j : Nat} {x : Int64} (hX : Cx G d y cc nL rt X) (hk : vk i = (10, n)) (hj : j < n) (hn : n < 1000) (hd : decode cc pc = .ok (.lastore, 1)) (k : V G nL X (pc + 1) ls st (μ.1, vup μ.2 i j x)) : V G nL X pc ls (.long x :: .int (nI j) :: .ref i :: st) μ := by
  refine V_last hX hk (vp_in_nI hj (by omega)) hd ?_
  rw [nI_clamp (by omega)]
  exact k
theorem V_zaldN {i n j : Nat} {x : Int32} (hX : Cx G d y cc nL rt X) (hk : vk i = (11, n)) (hj : j < n) (hn : n < 1000) (hv : μ.1 i j = x) (hd : decode cc pc = .ok (.baload, 1)) (k : V G nL X (pc + 1) ls (.int x :: st) μ) : V G nL X pc ls (.int (nI j) :: .ref i :: st) μ := by
  refine V_zald hX hk (vp_in_nI hj (by omega)) hd ?_
  rw [nI_clamp (by omega), hv]
  exact k
theorem V_zastN {i n j : Nat} {x : Int32} (hX : Cx G d y cc nL rt X) (hk : vk i = (11, n)) (hj : j < n) (hn : n < 1000) (hz : vp_nar .boolean x = x) (hd : decode cc pc = .ok (.bastore, 1)) (k : V G nL X (pc + 1) ls st (vup μ.1 i j x, μ.2)) : V G nL X pc ls (.int x :: .int (nI j) :: .ref i :: st) μ := by
  refine V_zast hX hk (vp_in_nI hj (by omega)) hz hd ?_
  rw [nI_clamp (by omega)]
  exact k
theorem V_waldN {i n j r : Nat} (hX : Cx G d y cc nL rt X) (hk : vk i = (13, n)) (hj : j < n) (hn : n < 1000) (hr : i + 1 + 2 * j = r) (hd : decode cc pc = .ok (.aaload, 1)) (k : V G nL X (pc + 1) ls (.ref r :: st) μ) : V G nL X pc ls (.int (nI j) :: .ref i :: st) μ := V_wald hX hk (vp_in_nI hj (by omega)) (by rw [nI_clamp (by omega)]; exact hr) hd k
theorem V_paldN {i n j r : Nat} (hX : Cx G d y cc nL rt X) (hk : vk i = (12, n)) (hj : j < n) (hn : n < 1000) (hr : i + 1 + 7 * j = r) (hd : decode cc pc = .ok (.aaload, 1)) (k : V G nL X (pc + 1) ls (.ref r :: st) μ) : V G nL X pc ls (.int (nI j) :: .ref i :: st) μ := V_pald hX hk (vp_in_nI hj (by omega)) (by rw [nI_clamp (by omega)]; exact hr) hd k
theorem V_cald0N {j : Nat} {x : Int32} (hX : Cx G d y cc nL rt X) (hj : j < 7) (hv : vBC j = x) (hd : decode cc pc = .ok (.caload, 1)) (k : V G nL X (pc + 1) ls (.int x :: st) μ) : V G nL X pc ls (.int (nI j) :: .ref 1000 :: st) μ := V_cald0 hX (vp_in_nI hj (by omega)) hd (by rw [nI_clamp (by omega), hv]; exact k)
theorem V_cald1N {j : Nat} {x : Int32} (hX : Cx G d y cc nL rt X) (hj : j < 7) (hv : vBD j = x) (hd : decode cc pc = .ok (.caload, 1)) (k : V G nL X (pc + 1) ls (.int x :: st) μ) : V G nL X pc ls (.int (nI j) :: .ref 1001 :: st) μ := V_cald1 hX (vp_in_nI hj (by omega)) hd (by rw [nI_clamp (by omega), hv]; exact k)
theorem V_if_eqN {off : Int} {tgt : Nat} (hX : Cx G d y cc nL rt X) (hd : decode cc pc = .ok (.ifCond .eq off, 3)) (ht : (pc : Int) + off = (tgt : Int)) (ha : a < 2 ^ 31) (kt : a = 0 → V G nL X tgt ls st μ) (kf : ¬ a = 0 → V G nL X (pc + 3) ls st μ) : V G nL X pc ls (.int (nI a) :: st) μ :=
  V_if_eq hX hd ht (fun h => kt ((nI_eq ha (by decide)).mp h)) (fun h => kf (fun e => h (by rw [e]; rfl)))
theorem V_if_neN {off : Int} {tgt : Nat} (hX : Cx G d y cc nL rt X) (hd : decode cc pc = .ok (.ifCond .ne off, 3)) (ht : (pc : Int) + off = (tgt : Int)) (ha : a < 2 ^ 31) (kt : ¬ a = 0 → V G nL X tgt ls st μ) (kf : a = 0 → V G nL X (pc + 3) ls st μ) : V G nL X pc ls (.int (nI a) :: st) μ :=
  V_if_ne hX hd ht (fun h => kt (fun e => h (by rw [e]; rfl))) (fun h => kf ((nI_eq ha (by decide)).mp h))
theorem V_if_gtN {off : Int} {tgt : Nat} (hX : Cx G d y cc nL rt X) (hd : decode cc pc = .ok (.ifCond .gt off, 3)) (ht : (pc : Int) + off = (tgt : Int)) (ha : a < 2 ^ 31) (kt : 0 < a → V G nL X tgt ls st μ) (kf : a = 0 → V G nL X (pc + 3) ls st μ) : V G nL X pc ls (.int (nI a) :: st) μ :=
  V_if_gt hX hd ht (fun h => kt ((nI_ltI (by decide) ha).mp h)) (fun h => kf (by rcases Nat.eq_zero_or_pos a with q | q; exact q; exact absurd ((nI_ltI (by decide) ha).mpr q) h))
theorem V_if_leN {off : Int} {tgt : Nat} (hX : Cx G d y cc nL rt X) (hd : decode cc pc = .ok (.ifCond .le off, 3)) (ht : (pc : Int) + off = (tgt : Int)) (ha : a < 2 ^ 31) (kt : a = 0 → V G nL X tgt ls st μ) (kf : 0 < a → V G nL X (pc + 3) ls st μ) : V G nL X pc ls (.int (nI a) :: st) μ :=
  V_if_le hX hd ht (fun h => kt (Nat.le_zero.mp ((nI_leI ha (by decide)).mp h))) (fun h => kf (Nat.pos_of_ne_zero (fun e => h (by rw [e]; decide))))
theorem V_if_ltN {off : Int} {tgt : Nat} (hX : Cx G d y cc nL rt X) (hd : decode cc pc = .ok (.ifCond .lt off, 3)) (ht : (pc : Int) + off = (tgt : Int)) (ha : a < 2 ^ 31) (kf : V G nL X (pc + 3) ls st μ) : V G nL X pc ls (.int (nI a) :: st) μ :=
  V_if_lt hX hd ht (fun h => absurd h (nI_pos ha)) (fun _ => kf)
theorem V_if_geN {off : Int} {tgt : Nat} (hX : Cx G d y cc nL rt X) (hd : decode cc pc = .ok (.ifCond .ge off, 3)) (ht : (pc : Int) + off = (tgt : Int)) (ha : a < 2 ^ 31) (kt : V G nL X tgt ls st μ) : V G nL X pc ls (.int (nI a) :: st) μ :=
  V_if_ge hX hd ht (fun _ => kt) (fun h => absurd (nI_pos' ha) h)
theorem V_icmp_eqN {off : Int} {tgt : Nat} (hX : Cx G d y cc nL rt X) (hd : decode cc pc = .ok (.if_icmp .eq off, 3)) (ht : (pc : Int) + off = (tgt : Int)) (ha : a < 2 ^ 31) (hb : b < 2 ^ 31) (kt : a = b → V G nL X tgt ls st μ) (kf : ¬ a = b → V G nL X (pc + 3) ls st μ) : V G nL X pc ls (.int (nI b) :: .int (nI a) :: st) μ :=
  V_icmp_eq hX hd ht (fun h => kt ((nI_eq ha hb).mp h)) (fun h => kf (fun e => h (by rw [e])))
theorem V_icmp_neN {off : Int} {tgt : Nat} (hX : Cx G d y cc nL rt X) (hd : decode cc pc = .ok (.if_icmp .ne off, 3)) (ht : (pc : Int) + off = (tgt : Int)) (ha : a < 2 ^ 31) (hb : b < 2 ^ 31) (kt : ¬ a = b → V G nL X tgt ls st μ) (kf : a = b → V G nL X (pc + 3) ls st μ) : V G nL X pc ls (.int (nI b) :: .int (nI a) :: st) μ :=
  V_icmp_ne hX hd ht (fun h => kt (fun e => h (by rw [e]))) (fun h => kf ((nI_eq ha hb).mp h))
theorem V_icmp_ltN {off : Int} {tgt : Nat} (hX : Cx G d y cc nL rt X) (hd : decode cc pc = .ok (.if_icmp .lt off, 3)) (ht : (pc : Int) + off = (tgt : Int)) (ha : a < 2 ^ 31) (hb : b < 2 ^ 31) (kt : a < b → V G nL X tgt ls st μ) (kf : b ≤ a → V G nL X (pc + 3) ls st μ) : V G nL X pc ls (.int (nI b) :: .int (nI a) :: st) μ :=
  V_icmp_lt hX hd ht (fun h => kt ((nI_ltI ha hb).mp h)) (fun h => kf (Nat.not_lt.mp (fun e => h ((nI_ltI ha hb).mpr e))))
theorem V_icmp_geN {off : Int} {tgt : Nat} (hX : Cx G d y cc nL rt X) (hd : decode cc pc = .ok (.if_icmp .ge off, 3)) (ht : (pc : Int) + off = (tgt : Int)) (ha : a < 2 ^ 31) (hb : b < 2 ^ 31) (kt : b ≤ a → V G nL X tgt ls st μ) (kf : a < b → V G nL X (pc + 3) ls st μ) : V G nL X pc ls (.int (nI b) :: .int (nI a) :: st) μ :=
  V_icmp_ge hX hd ht (fun h => kt ((nI_leI hb ha).mp h)) (fun h => kf (Nat.not_le.mp (fun e => h ((nI_leI hb ha).mpr e))))
theorem V_icmp_gtN {off : Int} {tgt : Nat} (hX : Cx G d y cc nL rt X) (hd : decode cc pc = .ok (.if_icmp .gt off, 3)) (ht : (pc : Int) + off = (tgt : Int)) (ha : a < 2 ^ 31) (hb : b < 2 ^ 31) (kt : b < a → V G nL X tgt ls st μ) (kf : a ≤ b → V G nL X (pc + 3) ls st μ) : V G nL X pc ls (.int (nI b) :: .int (nI a) :: st) μ :=
  V_icmp_gt hX hd ht (fun h => kt ((nI_ltI hb ha).mp h)) (fun h => kf (Nat.not_lt.mp (fun e => h ((nI_ltI hb ha).mpr e))))
theorem V_icmp_leN {off : Int} {tgt : Nat} (hX : Cx G d y cc nL rt X) (hd : decode cc pc = .ok (.if_icmp .le off, 3)) (ht : (pc : Int) + off = (tgt : Int)) (ha : a < 2 ^ 31) (hb : b < 2 ^ 31) (kt : a ≤ b → V G nL X tgt ls st μ) (kf : b < a → V G nL X (pc + 3) ls st μ) : V G nL X pc ls (.int (nI b) :: .int (nI a) :: st) μ :=
  V_icmp_le hX hd ht (fun h => kt ((nI_leI ha hb).mp h)) (fun h => kf (Nat.not_le.mp (fun e => h ((nI_leI ha hb).mpr e))))
theorem V_if_eqB {off : Int} {tgt : Nat} {p : Prop} [Decidable p] (hX : Cx G d y cc nL rt X) (hd : decode cc pc = .ok (.ifCond .eq off, 3)) (ht : (pc : Int) + off = (tgt : Int)) (kt : ¬ p → V G nL X tgt ls st μ) (kf : p → V G nL X (pc + 3) ls st μ) : V G nL X pc ls (.int (bI p) :: st) μ :=
  V_if_eq hX hd ht (fun h => kt (bI_0.mp h)) (fun h => kf (bI_n0.mp h))
theorem V_if_neB {off : Int} {tgt : Nat} {p : Prop} [Decidable p] (hX : Cx G d y cc nL rt X) (hd : decode cc pc = .ok (.ifCond .ne off, 3)) (ht : (pc : Int) + off = (tgt : Int)) (kt : p → V G nL X tgt ls st μ) (kf : ¬ p → V G nL X (pc + 3) ls st μ) : V G nL X pc ls (.int (bI p) :: st) μ :=
  V_if_ne hX hd ht (fun h => kt (bI_n0.mp h)) (fun h => kf (bI_0.mp h))
end VN
