/-! the growing world: what constructors make -/
def unest (w : Cond) : Bool := match w with
  | .methodLinkNest .. => true
  | _ => false
def uNs (U : State) : Prop := (∀ w ∈ lw_tbl, unest w = true → va_Nw w U) ∧ va_AO RX4 U ∧ va_AO RX6 U
theorem uNs.warm {s U : State} (hW : s.WarmedH U.vm) (h : uNs s) : uNs U := by
  refine ⟨fun w hw hn => ?_, va_AO.moved hW.alike h.2.1, va_AO.moved hW.alike h.2.2⟩
  have h1 := h.1 w hw hn
  cases w <;> first | (exact absurd hn (by decide)) | (exact absurd hn Bool.false_ne_true) | exact va_Nw.warmM hW h1
theorem uNs.same {s U : State} (hW : s.vm = U.vm) (h : uNs s) : uNs U := by
  refine ⟨fun w hw hn => ?_, va_AO.moved (by rw [hW]; exact Vm.Alike.refl _) h.2.1, va_AO.moved (by rw [hW]; exact Vm.Alike.refl _) h.2.2⟩
  have h1 := h.1 w hw hn
  refine va_Nw.same ?_ hW h1
  cases w <;> first | rfl | (exact absurd hn Bool.false_ne_true)
def uQc (G : VG) (A : Nat → Prop) (Q : va_W → Prop) : Array Value → State → Outcome → State → Prop := fun _ st oc t => (∃ ws : va_W, oc = .returned none ∧ Q ws ∧ va_P G.1 vwCl ws t.heap ∧ va_D A ws) ∧ va_F A st t
def U (G : VG) (nL : Nat) (X : VX) (k n : Nat) (pc : Nat) (ls : VL) (st : List Value) (ws : va_W) : Prop := match X with
  | (p, l, e, R, s, m, args, below, meth, c, A, _, _, Qf) => ∀ (H : Heap) (locs : List Loc) (la : Array Slot), va_P G.1 vwCl ws H → va_D A ws → va_S A s.heap H locs → lv_has la nL ls → W p l e R s m args below meth c H locs k n Qf (F0 m pc la st)
def uN (X : VX) : Prop := match X with
  | (_, _, _, _, s, _, _, _, _, _, _, _, _, _) => uNs s
def uI (X : VX) : Prop := match X with
  | (_, _, _, _, _, _, _, _, meth, _, _, _, _, _) => meth.name = "<init>"
def uC (X : VX) (mc ms : Nat) : Prop := match X with
  | (_, _, _, _, _, _, _, _, _, _, _, cells, slots, _) => cells = mc ∧ slots = ms
def URet (G : VG) (X : VX) (ws : va_W) : Prop := match X with
  | (_, _, _, _, s, _, args, below, _, _, A, cells, slots, Qf) => ∃ Q : va_W → Prop, Qf = MQ below (uQc G A Q) args s cells slots A ∧ Q ws
def UCall (G : VG) (d : Nat) (y : MethodName) (cc : ByteArray) (nL mc ms : Nat) (av : List Value) (ws : va_W) (Q : va_W → Prop) : Prop := ∀ X : VX, Cx G d y cc nL none X → uN X → uI X → uC X mc ms → (∀ ws', Q ws' → URet G X ws') → U G nL X 0 0 0 (lv_args 0 av) [] ws
def uroom (d mc ms : Nat) : Room := { frames := d, cells := mc, slots := ms, locals := 60 * d }
theorem ucall_met {G : VG} {d : Nat} {y : MethodName} {cc : ByteArray} {nL mc ms : Nat} {av : List Value} {ws : va_W} {Q : va_W → Prop} (l : Launch) (sz : Nat) (hC : UCall G d y cc nL mc ms av ws Q) (hy : plainName y.cls = true) (hi : y.name = "<init>") (hn : (av.map fun v => v.category).sum ≤ nL) :
    Met l y (.code y cc nL none :: lw_good) (uroom d mc ms) (va_Pc av (fun U => U.heap.size = sz ∧ va_P G.1 vwCl ws U.heap ∧ va_K G.1 vwCl (vTys G) U ∧ va_D (fun _ => True) ws ∧ vNs U ∧ uNs U ∧ vSt G (va_A ws sz) U U.heap)) (uQc G (va_A ws sz) Q) mc ms (va_A ws sz) := by
  refine Met.ofW (cc := cc) (maxL := nL) (ret := none) hy rfl ?_
  intro p e s m args below meth c s₁ B hml hv
  obtain ⟨rfl, hsz, hP, hK, hD0, hNs, hUs, hSt⟩ := hv
  have hts := atoms_spec (ws := .code y cc nL none :: lw_good) B.pre
  have hown : s.vm.findClass y.cls = some m.cls := findClass_of_methodNamed B.named
  subst hsz
  have h1 := hC (p, l, e, (headSpec (.code y cc nL none :: lw_good) (uroom d mc ms)).room, s, m, av.toArray, below, meth, c, va_A ws s.heap.size, mc, ms, MQ below (uQc G (va_A ws s.heap.size) Q) av.toArray s mc ms (va_A ws s.heap.size))
    ⟨B.exec, B.bytes, B.returns, B.notSynchronized, hml, hown, fun w h => hts w (List.mem_cons_of_mem _ h), hNs, hK, hSt, fun q h => Or.inr h, Nat.le_refl _, Nat.le_refl _, Nat.le_refl _, Nat.le_refl _⟩
    hUs ((name_of_methodNamed B.named B.method).1.trans hi) ⟨rfl, rfl⟩ (fun ws' h => ⟨Q, rfl, h⟩)
  rw [lg_entry_eq]
  exact h1 s.heap [] _ hP hD0.self va_S.rf (lv_entry av (by rw [vlen_sl]; exact hn))
theorem ublind {G : VG} {ws : va_W} (av : List Value) (sz : Nat) : FrameBlind (va_Pc av (fun U => U.heap.size = sz ∧ va_P G.1 vwCl ws U.heap ∧ va_K G.1 vwCl (vTys G) U ∧ va_D (fun _ => True) ws ∧ vNs U ∧ uNs U ∧ vSt G (va_A ws sz) U U.heap)) := by
  intro a U g mk q
  obtain ⟨q0, q1, qP, qK, qD, qN, qU, qS⟩ := q
  exact ⟨q0, q1, qP, va_K.moved (u := U) (U := U.calling g mk a) (Vm.Alike.refl U.vm) qK, qD, vNs.same (s := U) (U := U.calling g mk a) rfl qN, uNs.same (s := U) (U := U.calling g mk a) rfl qU, vSt.down (s := U) (U := U.calling g mk a) (H0 := U.heap) (H := U.heap) (Vm.Alike.refl U.vm) qS (fun _ _ _ => rfl) (fun _ h => h)⟩
theorem uself {A : Nat → Prop} {ws : va_W} {H0 H : Heap} {locs : List Loc} (hD : va_D A ws) (hS : va_S A H0 H locs) (hA : ∀ q, H0.size ≤ q → A q) : ∀ q, va_A ws H.size q → A q := by
  intro q h
  rcases h with ⟨k, e, h⟩ | h
  · exact hD.2 k (q, e) h
  · exact hA q (Nat.le_trans hS.1 h)
theorem uafter {G : VG} {pc : Nat} {ws : va_W} {st : List Value} {p : Program} {l : Launch} {e : Env} {R : Room} {s : State} {m : MethodId} {args : Array Value} {below : List Frame} {meth : Method} {c : Code} {H : Heap} {locs : List Loc} {cells slots mc ms : Nat} {Qf : State → Prop} {la : Array Slot} {A : Nat → Prop} {st0 : List Value} {a : Array Value} {Q : va_W → Prop}
    (hr : va_Run p l e R s m args below meth c H locs cells slots mc ms (F0 m pc la st0) st (uQc G (va_A ws H.size) Q a) (va_A ws H.size))
    (hD : va_D A ws) (hS : va_S A s.heap H locs) (hA : ∀ q, s.heap.size ≤ q → A q)
    (kk : ∀ (ws' : va_W) (H1 : Heap) (locs1 : List Loc), Q ws' → va_P G.1 vwCl ws' H1 → va_D A ws' → va_S A s.heap H1 locs1 → W p l e R s m args below meth c H1 locs1 (cells + mc) (slots + ms) Qf (F0 m (pc + 3) la st)) :
    W p l e R s m args below meth c H locs cells slots Qf (F0 m pc la st0) := by
  have hF := uself hD hS hA
  intro T hT Z
  obtain ⟨v, st₀, t, T', L, h0, X', hL, e1, e2, ⟨⟨ws', hv, hq, hp, hd⟩, hz, hk⟩, go⟩ := hr T hT Z
  cases hv
  rw [h0] at hz hk
  obtain ⟨t2, a1, b1⟩ := kk ws' T'.heap (locs ++ L) hq (by rw [e1]; exact hp) ⟨hd.1, fun k q h => hF _ (hd.2 k q h)⟩
    ⟨Nat.le_trans hS.1 (by rw [e1]; exact hz), fun q h1 h2 => by rw [e1, hk q (Nat.lt_of_lt_of_le h1 hS.1) (fun z => h2 (hF q z))]; exact hS.2.1 q h1 h2, fun q hq => by
      rcases List.mem_append.mp hq with h | h
      · exact hS.2.2 q h
      · exact hF _ (hL q h)⟩ T' rfl X'
  exact ⟨t2, go t2 a1, b1⟩
section UR
variable {G : VG} {d nL pc : Nat} {y : MethodName} {cc : ByteArray} {rt : Option FieldType} {X : VX} {ls : VL} {st : List Value} {ws : va_W} {k n mc ms : Nat}
theorem U_iconst {z : Int} {v : Int32} (hX : Cx G d y cc nL rt X) (hd : decode cc pc = .ok (.iconst z, 1)) (hv : Int32.ofInt z = v) (kk : U G nL X k n (pc + 1) ls (.int v :: st) ws) : U G nL X k n pc ls st ws := by
  obtain ⟨p, l, e, R, s, m, args, below, meth, c, A, cells, slots, Qf⟩ := X
  obtain ⟨hx, hb, hr, hlk, hml, hown, hts, hNs, hK, hSt, hA, hfr, hlo, hce, hsl⟩ := hX
  intro H locs la hP hD hS hl
  exact lv_iconst hx hb hd hv (kk H locs la hP hD hS hl)
theorem U_bipush {z : Int} {v : Int32} (hX : Cx G d y cc nL rt X) (hd : decode cc pc = .ok (.bipush z, 2)) (hv : (Int8.ofInt z).toInt32 = v) (kk : U G nL X k n (pc + 2) ls (.int v :: st) ws) : U G nL X k n pc ls st ws := by
  obtain ⟨p, l, e, R, s, m, args, below, meth, c, A, cells, slots, Qf⟩ := X
  obtain ⟨hx, hb, hr, hlk, hml, hown, hts, hNs, hK, hSt, hA, hfr, hlo, hce, hsl⟩ := hX
  intro H locs la hP hD hS hl
  exact lv_bipush hx hb hd hv (kk H locs la hP hD hS hl)
theorem U_sipush {z : Int} {v : Int32} (hX : Cx G d y cc nL rt X) (hd : decode cc pc = .ok (.sipush z, 3)) (hv : (Int16.ofInt z).toInt32 = v) (kk : U G nL X k n (pc + 3) ls (.int v :: st) ws) : U G nL X k n pc ls st ws := by
  obtain ⟨p, l, e, R, s, m, args, below, meth, c, A, cells, slots, Qf⟩ := X
  obtain ⟨hx, hb, hr, hlk, hml, hown, hts, hNs, hK, hSt, hA, hfr, hlo, hce, hsl⟩ := hX
  intro H locs la hP hD hS hl
  exact lv_sipush hx hb hd hv (kk H locs la hP hD hS hl)
theorem U_lconst {z : Fin 2} {v : Int64} (hX : Cx G d y cc nL rt X) (hd : decode cc pc = .ok (.lconst z, 1)) (hv : Int64.ofNat z.val = v) (kk : U G nL X k n (pc + 1) ls (.long v :: st) ws) : U G nL X k n pc ls st ws := by
  obtain ⟨p, l, e, R, s, m, args, below, meth, c, A, cells, slots, Qf⟩ := X
  obtain ⟨hx, hb, hr, hlk, hml, hown, hts, hNs, hK, hSt, hA, hfr, hlo, hce, hsl⟩ := hX
  intro H locs la hP hD hS hl
  exact lv_lconst hx hb hd hv (kk H locs la hP hD hS hl)
theorem U_dup {v : Value} (hX : Cx G d y cc nL rt X) (hd : decode cc pc = .ok (.dup, 1)) (hv : v.category = 1) (kk : U G nL X k n (pc + 1) ls (v :: v :: st) ws) : U G nL X k n pc ls (v :: st) ws := by
  obtain ⟨p, l, e, R, s, m, args, below, meth, c, A, cells, slots, Qf⟩ := X
  obtain ⟨hx, hb, hr, hlk, hml, hown, hts, hNs, hK, hSt, hA, hfr, hlo, hce, hsl⟩ := hX
  intro H locs la hP hD hS hl
  exact lv_dup hx hb hd hv (kk H locs la hP hD hS hl)
theorem U_aload_n {z : Fin 4} {a : Nat} (hX : Cx G d y cc nL rt X) (hd : decode cc pc = .ok (.aload_n z, 1)) (j : Nat) (hj : ls[j]? = some (z.val, .ref a)) (kk : U G nL X k n (pc + 1) ls (.ref a :: st) ws) : U G nL X k n pc ls st ws := by
  obtain ⟨p, l, e, R, s, m, args, below, meth, c, A, cells, slots, Qf⟩ := X
  obtain ⟨hx, hb, hr, hlk, hml, hown, hts, hNs, hK, hSt, hA, hfr, hlo, hce, hsl⟩ := hX
  intro H locs la hP hD hS hl
  exact lv_aload_n hx hb hd rfl (lv_at hl j hj) (kk H locs la hP hD hS hl)
theorem U_iload_n {z : Fin 4} {a : Int32} (hX : Cx G d y cc nL rt X) (hd : decode cc pc = .ok (.iload_n z, 1)) (j : Nat) (hj : ls[j]? = some (z.val, .int a)) (kk : U G nL X k n (pc + 1) ls (.int a :: st) ws) : U G nL X k n pc ls st ws := by
  obtain ⟨p, l, e, R, s, m, args, below, meth, c, A, cells, slots, Qf⟩ := X
  obtain ⟨hx, hb, hr, hlk, hml, hown, hts, hNs, hK, hSt, hA, hfr, hlo, hce, hsl⟩ := hX
  intro H locs la hP hD hS hl
  exact lv_iload_n hx hb hd rfl (lv_at hl j hj) (kk H locs la hP hD hS hl)
theorem U_istore_n {z : Fin 4} {a : Int32} {ls' : VL} (hX : Cx G d y cc nL rt X) (hd : decode cc pc = .ok (.istore_n z, 1)) (hn : z.val < nL) (hl' : (z.val, Value.int a) :: ls.filter (fun q : Nat × Value => !(q.1 == z.val) && !(q.1 + 1 == z.val && q.2.category == 2)) = ls') (kk : U G nL X k n (pc + 1) ls' st ws) : U G nL X k n pc ls (.int a :: st) ws := by
  obtain ⟨p, l, e, R, s, m, args, below, meth, c, A, cells, slots, Qf⟩ := X
  obtain ⟨hx, hb, hr, hlk, hml, hown, hts, hNs, hK, hSt, hA, hfr, hlo, hce, hsl⟩ := hX
  intro H locs la hP hD hS hl
  exact lv_istore_n hx hb hd rfl hl hn hl' (fun la' h => kk H locs la' hP hD hS h)
theorem U_astore_n {z : Fin 4} {a : Nat} {ls' : VL} (hX : Cx G d y cc nL rt X) (hd : decode cc pc = .ok (.astore_n z, 1)) (hn : z.val < nL) (hl' : (z.val, Value.ref a) :: ls.filter (fun q : Nat × Value => !(q.1 == z.val) && !(q.1 + 1 == z.val && q.2.category == 2)) = ls') (kk : U G nL X k n (pc + 1) ls' st ws) : U G nL X k n pc ls (.ref a :: st) ws := by
  obtain ⟨p, l, e, R, s, m, args, below, meth, c, A, cells, slots, Qf⟩ := X
  obtain ⟨hx, hb, hr, hlk, hml, hown, hts, hNs, hK, hSt, hA, hfr, hlo, hce, hsl⟩ := hX
  intro H locs la hP hD hS hl
  exact lv_astore_n hx hb hd rfl hl hn hl' (fun la' h => kk H locs la' hP hD hS h)
theorem U_iinc {i : Nat} {z : Int} {x v : Int32} {ls' : VL} (hX : Cx G d y cc nL rt X) (hd : decode cc pc = .ok (.iinc i z, 3)) (j : Nat) (hj : ls[j]? = some (i, .int x)) (hv : x + Int32.ofInt z = v) (hn : i < nL) (hl' : (i, Value.int v) :: ls.filter (fun q : Nat × Value => !(q.1 == i) && !(q.1 + 1 == i && q.2.category == 2)) = ls') (kk : U G nL X k n (pc + 3) ls' st ws) : U G nL X k n pc ls st ws := by
  obtain ⟨p, l, e, R, s, m, args, below, meth, c, A, cells, slots, Qf⟩ := X
  obtain ⟨hx, hb, hr, hlk, hml, hown, hts, hNs, hK, hSt, hA, hfr, hlo, hce, hsl⟩ := hX
  intro H locs la hP hD hS hl
  exact lv_iinc (k := j) hx hb hd hl hj hv hn hl' (fun la' h => kk H locs la' hP hD hS h)
theorem U_goto {off : Int} {tgt : Nat} (hX : Cx G d y cc nL rt X) (hd : decode cc pc = .ok (.goto off, 3)) (ht : (pc : Int) + off = (tgt : Int)) (kk : U G nL X k n tgt ls st ws) : U G nL X k n pc ls st ws := by
  obtain ⟨p, l, e, R, s, m, args, below, meth, c, A, cells, slots, Qf⟩ := X
  obtain ⟨hx, hb, hr, hlk, hml, hown, hts, hNs, hK, hSt, hA, hfr, hlo, hce, hsl⟩ := hX
  intro H locs la hP hD hS hl
  exact lv_goto hx hb hd ht (kk H locs la hP hD hS hl)
theorem U_icmp_ge {a b : Int32} {off : Int} {tgt : Nat} (hX : Cx G d y cc nL rt X) (hd : decode cc pc = .ok (.if_icmp .ge off, 3)) (ht : (pc : Int) + off = (tgt : Int)) (kt : b ≤ a → U G nL X k n tgt ls st ws) (kf : ¬ b ≤ a → U G nL X k n (pc + 3) ls st ws) : U G nL X k n pc ls (.int b :: .int a :: st) ws := by
  obtain ⟨p, l, e, R, s, m, args, below, meth, c, A, cells, slots, Qf⟩ := X
  obtain ⟨hx, hb, hr, hlk, hml, hown, hts, hNs, hK, hSt, hA, hfr, hlo, hce, hsl⟩ := hX
  intro H locs la hP hD hS hl
  exact lv_icmp_ge hx hb hd ht (fun h => kt h H locs la hP hD hS hl) (fun h => kf h H locs la hP hD hS hl)
theorem U_icmp_gt {a b : Int32} {off : Int} {tgt : Nat} (hX : Cx G d y cc nL rt X) (hd : decode cc pc = .ok (.if_icmp .gt off, 3)) (ht : (pc : Int) + off = (tgt : Int)) (kt : b < a → U G nL X k n tgt ls st ws) (kf : ¬ b < a → U G nL X k n (pc + 3) ls st ws) : U G nL X k n pc ls (.int b :: .int a :: st) ws := by
  obtain ⟨p, l, e, R, s, m, args, below, meth, c, A, cells, slots, Qf⟩ := X
  obtain ⟨hx, hb, hr, hlk, hml, hown, hts, hNs, hK, hSt, hA, hfr, hlo, hce, hsl⟩ := hX
  intro H locs la hP hD hS hl
  exact lv_icmp_gt hx hb hd ht (fun h => kt h H locs la hP hD hS hl) (fun h => kf h H locs la hP hD hS hl)
theorem U_obj {i a : Nat} (hX : Cx G d y cc nL rt X) (hm : Cond.methodLink y.cls i Lib.objectInit ∈ lw_tbl) (h1 : Cond.instanceMethod Lib.objectInit ∈ lw_tbl) (h2 : Cond.code Lib.objectInit ⟨#[0xb1]⟩ 1 none ∈ lw_tbl) (hd1 : 1 ≤ d) (hst : (st.map fun v => v.category).sum ≤ 8) (hd : decode cc pc = .ok (.invokespecial i, 3)) (kk : U G nL X k n (pc + 3) ls st ws) : U G nL X k n pc ls (.ref a :: st) ws := by
  obtain ⟨p, l, e, R, s, m, args, below, meth, c, A, cells, slots, Qf⟩ := X
  obtain ⟨hx, hb, hr, hlk, hml, hown, hts, hNs, hK, hSt, hA, hfr, hlo, hce, hsl⟩ := hX
  intro H locs la hP hD hS hl
  refine W.objInit hx hb hown (hts _ (lw_gd hm rfl)) (hts _ (lw_gd h1 rfl)) (hts _ (lw_gd h2 rfl)) rfl (by rw [hml]; exact hl.1) rfl hd (by omega) (Nat.le_trans (Nat.add_le_add_right (show 2 * (F0 m pc la (Value.ref a :: st)).monitorRoom + (st.map fun v => v.category).sum ≤ 8 from lv_room hst) 12) (by omega)) ?_
  exact kk H locs la hP hD hS hl
theorem U_put {ci q idx a : Nat} {t : Nat × Nat} {ty : FieldType} {v : Value} {fs : List Value} (hX : Cx G d y cc nL rt X) (hf : vFL y.cls idx ci q t) (hw : vFW ci q ty) (i : Nat) (he : ws[i]? = some (a, .inr (ci, fs))) (hl9 : q < fs.length) (hn : narrow ty v = v) (hfit : fits ty v = true) (hd : decode cc pc = .ok (.putfield idx, 3)) (kk : U G nL X k n (pc + 3) ls st (ws.set i (a, .inr (ci, fs.set q v)))) : U G nL X k n pc ls (v :: .ref a :: st) ws := by
  obtain ⟨p, l, e, R, s, m, args, below, meth, c, A, cells, slots, Qf⟩ := X
  obtain ⟨hx, hb, hr, hlk, hml, hown, hts, hNs, hK, hSt, hA, hfr, hlo, hce, hsl⟩ := hX
  intro H locs la hP hD hS hl
  obtain ⟨C, T, N, ref, h9, hc, hq, hv, hin, hlink, hsm⟩ := hf
  obtain ⟨C', T', N', t0, hc', ht0, hnm, hfin, hpd⟩ := hw
  cases hc.symm.trans hc'
  exact va_put hx hb hts hin t0 ht0 hnm hown hK hP hD hS i he hc q hq (hts _ (lw_gd hlink rfl)) (vsame hts hsm) hfin hpd hn hfit hl9 hd (fun H1 locs1 hP1 hD1 hS1 => kk H1 locs1 la hP1 hD1 hS1 hl)
def vFF (ci k : Nat) (ty : FieldType) (own : String) : Prop := ∃ (C : String) (T : u_T) (N : Nat) (t0 : Nat → FieldType), vwCl[ci]? = some (C, T, N) ∧ (∀ k, k < N → parseFieldDescriptor (T k).2.2.1 = some (t0 k)) ∧ (∀ a, a < N → ∀ b, b < N → a ≠ b → (T a).2.1 ≠ (T b).2.1) ∧ (T k).2.2.2 = true ∧ parseFieldDescriptor (T k).2.2.1 = some ty ∧ (T k).1 = own
theorem U_putF {ci q idx a : Nat} {t : Nat × Nat} {ty : FieldType} {v : Value} {fs : List Value} (hX : Cx G d y cc nL rt X) (hI : uI X) (hf : vFL y.cls idx ci q t) (hw : vFF ci q ty y.cls) (i : Nat) (he : ws[i]? = some (a, .inr (ci, fs))) (hl9 : q < fs.length) (hn : narrow ty v = v) (hfit : fits ty v = true) (hd : decode cc pc = .ok (.putfield idx, 3)) (kk : U G nL X k n (pc + 3) ls st (ws.set i (a, .inr (ci, fs.set q v)))) : U G nL X k n pc ls (v :: .ref a :: st) ws := by
  obtain ⟨p, l, e, R, s, m, args, below, meth, c, A, cells, slots, Qf⟩ := X
  obtain ⟨hx, hb, hr, hlk, hml, hown, hts, hNs, hK, hSt, hA, hfr, hlo, hce, hsl⟩ := hX
  intro H locs la hP hD hS hl
  obtain ⟨C, T, N, ref, h9, hc, hq, hv, hin, hlink, hsm⟩ := hf
  obtain ⟨C', T', N', t0, hc', ht0, hnm, hfin, hpd, hdc⟩ := hw
  cases hc.symm.trans hc'
  exact va_putF hx hb hts hin t0 ht0 hnm hown hK hP hD hS i he hc q hq (hts _ (lw_gd hlink rfl)) (vsame hts hsm) hfin hI hdc hpd hn hfit hl9 hd (fun H1 locs1 hP1 hD1 hS1 => kk H1 locs1 la hP1 hD1 hS1 hl)
theorem U_get {ci q idx a : Nat} {t : Nat × Nat} {v : Value} {fs : List Value} (hX : Cx G d y cc nL rt X) (hf : vFL y.cls idx ci q t) (i : Nat) (he : ws[i]? = some (a, .inr (ci, fs))) (hv9 : fs[q]? = some v) (hd : decode cc pc = .ok (.getfield idx, 3)) (kk : U G nL X k n (pc + 3) ls (v :: st) ws) : U G nL X k n pc ls (.ref a :: st) ws := by
  obtain ⟨p, l, e, R, s, m, args, below, meth, c, A, cells, slots, Qf⟩ := X
  obtain ⟨hx, hb, hr, hlk, hml, hown, hts, hNs, hK, hSt, hA, hfr, hlo, hce, hsl⟩ := hX
  intro H locs la hP hD hS hl
  obtain ⟨C, T, N, ref, h9, hc, hq, hv, hin, hlink, hsm⟩ := hf
  exact va_get hx hb hts hin hown hK hP i he hc q hq (hts _ (lw_gd hlink rfl)) (vsame hts hsm) hv9 hd (kk H locs la hP hD hS hl)
theorem U_newi {z : Int32} {N : Nat} (hX : Cx G d y cc nL rt X) (hC : uC X mc ms) (ha : Cond.arrayClass .int ∈ lw_tbl) (hz : ¬ z < 0) (hN : z.toNatClampNeg = N) (hb0 : N * componentBytes .int ≤ 536870912) (h1 : k + 1 ≤ mc) (h2 : n + N ≤ ms) (hd : decode cc pc = .ok (.newarray .int, 2)) (kk : ∀ q : Nat, U G nL X (k + 1) (n + N) (pc + 2) ls (.ref q :: st) (ws ++ [(q, .inl (G.2.2 9, N, .inl (fun _ => 0)))])) : U G nL X k n pc ls (.int z :: st) ws := by
  obtain ⟨p, l, e, R, s, m, args, below, meth, c, A, cells, slots, Qf⟩ := X
  obtain ⟨hx, hb, hr, hlk, hml, hown, hts, hNs, hK, hSt, hA, hfr, hlo, hce, hsl⟩ := hX
  intro H locs la hP hD hS hl
  obtain ⟨hC1, hC2⟩ := hC
  subst hC1; subst hC2
  refine va_newa (atype := .int) (ty := .int) (a0 := (N, .inl (fun _ => 0))) hx hb (hts _ (lw_gd ha rfl)) rfl hK hP hD hS hA (fun _ => rfl) hz hN hb0 (Nat.le_trans h1 hce) (Nat.le_trans h2 hsl) hd (fun q cA H1 hK1 hP1 hD1 hS1 => ?_)
  have e1 : s.vm.findClass ("[" ++ FieldType.toString .int) = some cA := (hK1.2 5 _ rfl).2
  have e2 : s.vm.findClass ("[" ++ FieldType.toString .int) = some (G.2.2 9) := (hK.2 0 _ rfl).2
  have e3 : cA = G.2.2 9 := Option.some.inj (e1.symm.trans e2)
  subst e3
  exact kk q H1 locs la hP1 hD1 hS1 hl
theorem U_newl {z : Int32} {N : Nat} (hX : Cx G d y cc nL rt X) (hC : uC X mc ms) (ha : Cond.arrayClass .long ∈ lw_tbl) (hz : ¬ z < 0) (hN : z.toNatClampNeg = N) (hb0 : N * componentBytes .long ≤ 536870912) (h1 : k + 1 ≤ mc) (h2 : n + N ≤ ms) (hd : decode cc pc = .ok (.newarray .long, 2)) (kk : ∀ q : Nat, U G nL X (k + 1) (n + N) (pc + 2) ls (.ref q :: st) (ws ++ [(q, .inl (G.2.2 10, N, .inr (.inl (fun _ => 0))))])) : U G nL X k n pc ls (.int z :: st) ws := by
  obtain ⟨p, l, e, R, s, m, args, below, meth, c, A, cells, slots, Qf⟩ := X
  obtain ⟨hx, hb, hr, hlk, hml, hown, hts, hNs, hK, hSt, hA, hfr, hlo, hce, hsl⟩ := hX
  intro H locs la hP hD hS hl
  obtain ⟨hC1, hC2⟩ := hC
  subst hC1; subst hC2
  refine va_newa (atype := .long) (ty := .long) (a0 := (N, .inr (.inl (fun _ => 0)))) hx hb (hts _ (lw_gd ha rfl)) rfl hK hP hD hS hA (fun _ => rfl) hz hN hb0 (Nat.le_trans h1 hce) (Nat.le_trans h2 hsl) hd (fun q cA H1 hK1 hP1 hD1 hS1 => ?_)
  have e1 : s.vm.findClass ("[" ++ FieldType.toString .long) = some cA := (hK1.2 5 _ rfl).2
  have e2 : s.vm.findClass ("[" ++ FieldType.toString .long) = some (G.2.2 10) := (hK.2 1 _ rfl).2
  have e3 : cA = G.2.2 10 := Option.some.inj (e1.symm.trans e2)
  subst e3
  exact kk q H1 locs la hP1 hD1 hS1 hl
theorem U_newz {z : Int32} {N : Nat} (hX : Cx G d y cc nL rt X) (hC : uC X mc ms) (ha : Cond.arrayClass .boolean ∈ lw_tbl) (hz : ¬ z < 0) (hN : z.toNatClampNeg = N) (hb0 : N * componentBytes .boolean ≤ 536870912) (h1 : k + 1 ≤ mc) (h2 : n + N ≤ ms) (hd : decode cc pc = .ok (.newarray .boolean, 2)) (kk : ∀ q : Nat, U G nL X (k + 1) (n + N) (pc + 2) ls (.ref q :: st) (ws ++ [(q, .inl (G.2.2 11, N, .inl (fun _ => 0)))])) : U G nL X k n pc ls (.int z :: st) ws := by
  obtain ⟨p, l, e, R, s, m, args, below, meth, c, A, cells, slots, Qf⟩ := X
  obtain ⟨hx, hb, hr, hlk, hml, hown, hts, hNs, hK, hSt, hA, hfr, hlo, hce, hsl⟩ := hX
  intro H locs la hP hD hS hl
  obtain ⟨hC1, hC2⟩ := hC
  subst hC1; subst hC2
  refine va_newa (atype := .boolean) (ty := .boolean) (a0 := (N, .inl (fun _ => 0))) hx hb (hts _ (lw_gd ha rfl)) rfl hK hP hD hS hA (fun _ => rfl) hz hN hb0 (Nat.le_trans h1 hce) (Nat.le_trans h2 hsl) hd (fun q cA H1 hK1 hP1 hD1 hS1 => ?_)
  have e1 : s.vm.findClass ("[" ++ FieldType.toString .boolean) = some cA := (hK1.2 5 _ rfl).2
  have e2 : s.vm.findClass ("[" ++ FieldType.toString .boolean) = some (G.2.2 11) := (hK.2 2 _ rfl).2
  have e3 : cA = G.2.2 11 := Option.some.inj (e1.symm.trans e2)
  subst e3
  exact kk q H1 locs la hP1 hD1 hS1 hl
theorem U_newqp {z : Int32} {N idx : Nat} (hX : Cx G d y cc nL rt X) (hC : uC X mc ms) (hU : uN X) (ha : Cond.classLink y.cls idx RX4 ∈ lw_tbl) (hz : ¬ z < 0) (hN : z.toNatClampNeg = N) (hb0 : N * 4 ≤ 536870912) (h1 : k + 1 ≤ mc) (h2 : n + N ≤ ms) (hd : decode cc pc = .ok (.anewarray idx, 3)) (kk : ∀ q : Nat, U G nL X (k + 1) (n + N) (pc + 3) ls (.ref q :: st) (ws ++ [(q, .inl (G.2.2 12, N, .inr (.inr (.inr (.inr (fun _ => none))))))])) : U G nL X k n pc ls (.int z :: st) ws := by
  obtain ⟨p, l, e, R, s, m, args, below, meth, c, A, cells, slots, Qf⟩ := X
  obtain ⟨hx, hb, hr, hlk, hml, hown, hts, hNs, hK, hSt, hA, hfr, hlo, hce, hsl⟩ := hX
  intro H locs la hP hD hS hl
  obtain ⟨hC1, hC2⟩ := hC
  subst hC1; subst hC2
  have hAO : va_AO RX4 s := hU.2.1
  refine va_newq (C := RX4) hx hb hown (hts _ (lw_gd ha rfl)) hAO hK hP hD hS hA hz hN hb0 (Nat.le_trans h1 hce) (Nat.le_trans h2 hsl) hd (fun q cA H1 hK1 hP1 hD1 hS1 => ?_)
  obtain ⟨k1, c1, a1, a2, a3, a4⟩ := (hK1.2 5 _ rfl).2
  obtain ⟨k2, c2, b1, b2, b3, b4⟩ := (hK.2 3 _ rfl).2
  have e3 : cA = G.2.2 12 := Option.some.inj (a4.symm.trans b4)
  subst e3
  exact kk q H1 locs la hP1 hD1 hS1 hl
theorem U_astp {z : Int32} {N a v : Nat} {f : Nat → Option Nat} {vs : List Value} (hX : Cx G d y cc nL rt X) (i j : Nat) (he : ws[i]? = some (a, .inl (G.2.2 12, N, .inr (.inr (.inr (.inr f)))))) (hv : ws[j]? = some (v, .inr (3, vs))) (hin : vp_in z N) (hd : decode cc pc = .ok (.aastore, 1)) (kk : U G nL X k n (pc + 1) ls st (ws.set i (a, .inl (G.2.2 12, N, .inr (.inr (.inr (.inr (va_up f z.toNatClampNeg (some v))))))))) : U G nL X k n pc ls (.ref v :: .int z :: .ref a :: st) ws := by
  obtain ⟨p, l, e, R, s, m, args, below, meth, c, A, cells, slots, Qf⟩ := X
  obtain ⟨hx, hb, hr, hlk, hml, hown, hts, hNs, hK, hSt, hA, hfr, hlo, hce, hsl⟩ := hX
  intro H locs la hP hD hS hl
  exact va_astq hx hb hK hP hD hS i 3 j 3 he rfl hv rfl hin hd (fun H1 locs1 hP1 hD1 hS1 => kk H1 locs1 la hP1 hD1 hS1 hl)
theorem U_newqw {z : Int32} {N idx : Nat} (hX : Cx G d y cc nL rt X) (hC : uC X mc ms) (hU : uN X) (ha : Cond.classLink y.cls idx RX6 ∈ lw_tbl) (hz : ¬ z < 0) (hN : z.toNatClampNeg = N) (hb0 : N * 4 ≤ 536870912) (h1 : k + 1 ≤ mc) (h2 : n + N ≤ ms) (hd : decode cc pc = .ok (.anewarray idx, 3)) (kk : ∀ q : Nat, U G nL X (k + 1) (n + N) (pc + 3) ls (.ref q :: st) (ws ++ [(q, .inl (G.2.2 13, N, .inr (.inr (.inr (.inr (fun _ => none))))))])) : U G nL X k n pc ls (.int z :: st) ws := by
  obtain ⟨p, l, e, R, s, m, args, below, meth, c, A, cells, slots, Qf⟩ := X
  obtain ⟨hx, hb, hr, hlk, hml, hown, hts, hNs, hK, hSt, hA, hfr, hlo, hce, hsl⟩ := hX
  intro H locs la hP hD hS hl
  obtain ⟨hC1, hC2⟩ := hC
  subst hC1; subst hC2
  have hAO : va_AO RX6 s := hU.2.2
  refine va_newq (C := RX6) hx hb hown (hts _ (lw_gd ha rfl)) hAO hK hP hD hS hA hz hN hb0 (Nat.le_trans h1 hce) (Nat.le_trans h2 hsl) hd (fun q cA H1 hK1 hP1 hD1 hS1 => ?_)
  obtain ⟨k1, c1, a1, a2, a3, a4⟩ := (hK1.2 5 _ rfl).2
  obtain ⟨k2, c2, b1, b2, b3, b4⟩ := (hK.2 4 _ rfl).2
  have e3 : cA = G.2.2 13 := Option.some.inj (a4.symm.trans b4)
  subst e3
  exact kk q H1 locs la hP1 hD1 hS1 hl
theorem U_astw {z : Int32} {N a v : Nat} {f : Nat → Option Nat} {vs : List Value} (hX : Cx G d y cc nL rt X) (i j : Nat) (he : ws[i]? = some (a, .inl (G.2.2 13, N, .inr (.inr (.inr (.inr f)))))) (hv : ws[j]? = some (v, .inr (5, vs))) (hin : vp_in z N) (hd : decode cc pc = .ok (.aastore, 1)) (kk : U G nL X k n (pc + 1) ls st (ws.set i (a, .inl (G.2.2 13, N, .inr (.inr (.inr (.inr (va_up f z.toNatClampNeg (some v))))))))) : U G nL X k n pc ls (.ref v :: .int z :: .ref a :: st) ws := by
  obtain ⟨p, l, e, R, s, m, args, below, meth, c, A, cells, slots, Qf⟩ := X
  obtain ⟨hx, hb, hr, hlk, hml, hown, hts, hNs, hK, hSt, hA, hfr, hlo, hce, hsl⟩ := hX
  intro H locs la hP hD hS hl
  exact va_astq hx hb hK hP hD hS i 4 j 5 he rfl hv rfl hin hd (fun H1 locs1 hP1 hD1 hS1 => kk H1 locs1 la hP1 hD1 hS1 hl)
theorem U_new {ci idx N : Nat} {C : String} {T : u_T} {fs : List Value} (hX : Cx G d y cc nL rt X) (hC : uC X mc ms) (hin : ∀ w ∈ u_ws C T N, w ∈ lw_good) (ty : Nat → FieldType) (hty : ∀ k, k < N → parseFieldDescriptor (T k).2.2.1 = some (ty k)) (hcl : Cond.classLink y.cls idx C ∈ lw_tbl) (hinst : Cond.instantiable C N ∈ lw_tbl) (hini : Cond.initialized C ∈ lw_tbl) (hc : vwCl[ci]? = some (C, T, N)) (hfs : ∀ j, j < N → defaultValue (ty j) = vp_V fs j) (h1 : k + 1 ≤ mc) (h2 : n + N ≤ ms) (hd : decode cc pc = .ok (.new idx, 3)) (kk : ∀ q : Nat, U G nL X (k + 1) (n + N) (pc + 3) ls (.ref q :: st) (ws ++ [(q, .inr (ci, fs))])) : U G nL X k n pc ls st ws := by
  obtain ⟨p, l, e, R, s, m, args, below, meth, c, A, cells, slots, Qf⟩ := X
  obtain ⟨hx, hb, hr, hlk, hml, hown, hts, hNs, hK, hSt, hA, hfr, hlo, hce, hsl⟩ := hX
  intro H locs la hP hD hS hl
  obtain ⟨hC1, hC2⟩ := hC
  subst hC1; subst hC2
  exact va_new hx hb hts hin ty hty hown (hts _ (lw_gd hcl rfl)) (hts _ (lw_gd hinst rfl)) (hts _ (lw_gd hini rfl)) hK hP hD hS hA hc hfs (Nat.le_trans h1 hce) (Nat.le_trans h2 hsl) hd (fun q H1 hP1 hD1 hS1 => kk q H1 locs la hP1 hD1 hS1 hl)
def uMI (y2 : MethodName) (c2 : ByteArray) (n2 : Nat) : Prop := Cond.instanceMethod y2 ∈ lw_tbl ∧ Cond.initialized y2.cls ∈ lw_tbl ∧ Cond.code y2 c2 n2 none ∈ lw_tbl ∧ y2.name = "<init>" ∧ (y2.cls ≠ "java/lang/invoke/MethodHandle" ∧ y2.cls ≠ "java/lang/invoke/VarHandle" ∧ (parseMethodDescriptor y2.desc).map (fun d => d.parameters.length) = some 0) ∧ plainName y2.cls = true ∧ n2 ≤ 40 ∧ 1 ≤ n2
theorem U_callN {idx n2 mc2 ms2 h : Nat} {host : String} {y2 : MethodName} {c2 : ByteArray} (hX : Cx G (d + 1) y cc nL rt X) (hU : uN X) (hC : uC X mc ms) (hm : Cond.methodLinkNest y.cls idx y2 host ∈ lw_tbl) (hi : uMI y2 c2 n2) (hQ : UCall G d y2 c2 n2 mc2 ms2 [.ref h] ws (fun ws' => U G nL X (k + mc2) (n + ms2) (pc + 3) ls st ws')) (h1 : k + mc2 ≤ mc) (h2 : n + ms2 ≤ ms) (hst : (st.map fun v => v.category).sum ≤ 8) (hd : decode cc pc = .ok (.invokespecial idx, 3)) : U G nL X k n pc ls (.ref h :: st) ws := by
  obtain ⟨p, l, e, R, s, m, args, below, meth, c, A, cells, slots, Qf⟩ := X
  obtain ⟨hx, hb, hr, hlk, hml, hown, hts, hNs, hK, hSt, hA, hfr, hlo, hce, hsl⟩ := hX
  intro H locs la hP hD hS hl
  obtain ⟨hC1, hC2⟩ := hC
  subst hC1; subst hC2
  have hUs : uNs s := hU
  obtain ⟨m1, m2, m3, m4, m5, m6, m7, m8⟩ := hi
  have hF := uself hD hS hA
  have hMet := ucall_met l H.size hQ m6 m4 m8
  have hG : GoodIn lw_good (.code y2 c2 n2 none :: lw_good) := vgood (ws := []) (fun w hw => absurd hw List.not_mem_nil) m3
  have hR : (uroom d mc2 ms2).frames + 1 ≤ R.frames ∧ 8 + (n2 + 11) + (uroom d mc2 ms2).locals ≤ R.locals := ⟨hfr, by show 8 + (n2 + 11) + 60 * d ≤ R.locals; omega⟩
  have hrun := va_runIN (g := F0 m pc la (.ref h :: st)) (b := h) (As := []) (rest := st) (H := H) (locs := locs) (cells := k) (slots := n) (e := e) (below := below) (meth := meth) ⟨hx, hb, hml, hown, hts⟩ hMet ⟨va_cnB (Ts := lw_good) (ws := .code y2 c2 n2 none :: lw_good) (R := R) 0 hts hG rfl rfl rfl (hUs.1 _ hm rfl) (hts _ (lw_gd m2 rfl)) m5 hR, m4, hts _ (lw_gd m1 rfl)⟩
    ⟨ublind _ _, fun U hU hW => ⟨rfl, by rw [hU], by rw [hU]; exact hP, va_K.moved hW.alike hK, hD.weaken (fun _ _ _ _ => trivial), vNs.warm hW hNs, uNs.warm hW hUs, by rw [hU]; exact vSt.down hW.alike hSt hS.2.1 hF⟩⟩ rfl rfl hl.1 rfl (lv_room hst) hd ⟨Nat.le_trans h1 hce, Nat.le_trans h2 hsl⟩
  exact uafter hrun hD hS hA (fun ws' H1 locs1 hq hp1 hD1 hS1 => hq H1 locs1 la hp1 hD1 hS1 hl)
theorem U_callI {idx n2 mc2 ms2 h : Nat} {y2 : MethodName} {c2 : ByteArray} (hX : Cx G (d + 1) y cc nL rt X) (hU : uN X) (hC : uC X mc ms) (hm : Cond.methodLink y.cls idx y2 ∈ lw_tbl) (hi : uMI y2 c2 n2) (hQ : UCall G d y2 c2 n2 mc2 ms2 [.ref h] ws (fun ws' => U G nL X (k + mc2) (n + ms2) (pc + 3) ls st ws')) (h1 : k + mc2 ≤ mc) (h2 : n + ms2 ≤ ms) (hst : (st.map fun v => v.category).sum ≤ 8) (hd : decode cc pc = .ok (.invokespecial idx, 3)) : U G nL X k n pc ls (.ref h :: st) ws := by
  obtain ⟨p, l, e, R, s, m, args, below, meth, c, A, cells, slots, Qf⟩ := X
  obtain ⟨hx, hb, hr, hlk, hml, hown, hts, hNs, hK, hSt, hA, hfr, hlo, hce, hsl⟩ := hX
  intro H locs la hP hD hS hl
  obtain ⟨hC1, hC2⟩ := hC
  subst hC1; subst hC2
  have hUs : uNs s := hU
  obtain ⟨m1, m2, m3, m4, m5, m6, m7, m8⟩ := hi
  have hF := uself hD hS hA
  have hMet := ucall_met l H.size hQ m6 m4 m8
  have hG : GoodIn lw_good (.code y2 c2 n2 none :: lw_good) := vgood (ws := []) (fun w hw => absurd hw List.not_mem_nil) m3
  have hR : (uroom d mc2 ms2).frames + 1 ≤ R.frames ∧ 8 + (n2 + 11) + (uroom d mc2 ms2).locals ≤ R.locals := ⟨hfr, by show 8 + (n2 + 11) + 60 * d ≤ R.locals; omega⟩
  have hrun := va_runI (g := F0 m pc la (.ref h :: st)) (b := h) (As := []) (rest := st) (H := H) (locs := locs) (cells := k) (slots := n) (e := e) (below := below) (meth := meth) ⟨hx, hb, hml, hown, hts⟩ hMet (cwI (R := R) 0 hts hG rfl rfl rfl (hts _ (lw_gd m2 rfl)) (hts _ (lw_gd hm rfl)) (hts _ (lw_gd m1 rfl)) m4 m5 hR)
    ⟨ublind _ _, fun U hU hW => ⟨rfl, by rw [hU], by rw [hU]; exact hP, va_K.moved hW.alike hK, hD.weaken (fun _ _ _ _ => trivial), vNs.warm hW hNs, uNs.warm hW hUs, by rw [hU]; exact vSt.down hW.alike hSt hS.2.1 hF⟩⟩ rfl rfl hl.1 rfl (lv_room hst) hd ⟨Nat.le_trans h1 hce, Nat.le_trans h2 hsl⟩
  exact uafter hrun hD hS hA (fun ws' H1 locs1 hq hp1 hD1 hS1 => hq H1 locs1 la hp1 hD1 hS1 hl)
theorem U_ret (hX : Cx G d y cc nL rt X) (hC : uC X mc ms) (hrt : rt = none) (h1 : k ≤ mc) (h2 : n ≤ ms) (hd : decode cc pc = .ok (.return_, 1)) (kk : URet G X ws) : U G nL X k n pc ls [] ws := by
  obtain ⟨p, l, e, R, s, m, args, below, meth, c, A, cells, slots, Qf⟩ := X
  obtain ⟨hx, hb, hr, hlk, hml, hown, hts, hNs, hK, hSt, hA, hfr, hlo, hce, hsl⟩ := hX
  intro H locs la hP hD hS hl
  obtain ⟨hC1, hC2⟩ := hC
  subst hC1; subst hC2
  obtain ⟨Q, hQ, hq⟩ := kk
  subst hQ; subst hrt
  refine W.widen h1 h2 ?_
  exact W.vret hx hb hr (fun t ht hW => ⟨⟨ws, rfl, hq, by rw [ht]; exact hP, hD⟩, hS.F ht⟩) hS.2.2 hd hlk
end UR
