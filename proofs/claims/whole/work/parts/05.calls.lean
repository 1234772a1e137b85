theorem vroom_frames (d : Nat) : (vroom d).frames = d := rfl
theorem vlen_sl (vs : List Value) : (lg_sl vs).length = (vs.map fun v => v.category).sum := by
  induction vs with
  | nil => rfl
  | cons v vs ih =>
    have h : lg_sl (v :: vs) = lg_sl [v] ++ lg_sl vs := by simp [lg_sl]
    rw [h, List.length_append, ih]
    cases v <;> rfl
theorem vsum_re (ad : Nat → Nat) (vs : List Value) : ((vs.map (vre ad)).map fun v => v.category).sum = (vs.map fun v => v.category).sum := by
  rw [List.map_map]
  congr 1
  apply List.map_congr_left
  intro v _
  exact vre_cat ad v
/-- a method's contract out of its walk -/
theorem call_met {G : VG} {d : Nat} {y : MethodName} {cc : ByteArray} {nL : Nat} {rt : Option FieldType} {av : List Value} {μ : VS} {Q : Option Value → VS → Prop} (l : Launch) (sz : Nat) (hC : Call G d y cc nL rt av μ Q) (hy : plainName y.cls = true) (hn : (av.map fun v => v.category).sum ≤ nL) :
    Met l y (.code y cc nL rt :: lw_good) (vroom d) (va_Pc (av.map (vre G.2.1)) (fun U => U.heap.size = sz ∧ va_P G.1 vwCl (vW G μ) U.heap ∧ va_K G.1 vwCl (vTys G) U ∧ va_D (fun _ => True) (vW G μ) ∧ vNs U ∧ vSt G (va_A (vW G μ) sz) U U.heap)) (vQc G (va_A (vW G μ) sz) Q) 0 0 (va_A (vW G μ) sz) := by
  refine Met.ofW (cc := cc) (maxL := nL) (ret := rt) hy rfl ?_
  intro p e s m args below meth c s₁ B hml hv
  obtain ⟨rfl, hsz, hP, hK, hD0, hNs, hSt⟩ := hv
  have hts := atoms_spec (ws := .code y cc nL rt :: lw_good) B.pre
  have hown : s.vm.findClass y.cls = some m.cls := findClass_of_methodNamed B.named
  subst hsz
  have h1 := hC (p, l, e, (headSpec (.code y cc nL rt :: lw_good) (vroom d)).room, s, m, (av.map (vre G.2.1)).toArray, below, meth, c, va_A (vW G μ) s.heap.size, 0, 0, MQ below (vQc G (va_A (vW G μ) s.heap.size) Q) (av.map (vre G.2.1)).toArray s 0 0 (va_A (vW G μ) s.heap.size))
    ⟨B.exec, B.bytes, B.returns, B.notSynchronized, hml, hown, fun w h => hts w (List.mem_cons_of_mem _ h), hNs, hK, hSt, fun q h => Or.inr h, Nat.le_refl _, Nat.le_refl _, Nat.zero_le _, Nat.zero_le _⟩
    (fun r μ' h => ⟨Q, rfl, h⟩)
  rw [lg_entry_eq]
  refine h1 s.heap [] _ hP hD0.self va_S.rf ?_
  rw [← vrl_args]
  exact lv_entry (av.map (vre G.2.1)) (by rw [vlen_sl, vsum_re]; exact hn)
/-- what a call leaves on the stack -/
def vpush (r : Option Value) (st : List Value) : List Value := match r with
  | some v => v :: st
  | none => st
section VC
variable {G : VG} {d nL pc : Nat} {y : MethodName} {cc : ByteArray} {rt : Option FieldType} {X : VX} {ls : VL} {st : List Value} {μ : VS}
theorem vSt.down {A B : Nat → Prop} {s U : State} {H0 H : Heap} (hvm : s.vm.Alike U.vm) (h : vSt G A s H0) (hk : ∀ q : Nat, q < H0.size → ¬ A q → H[q]? = H0[q]?) (hAB : ∀ q, B q → A q) : vSt G B U H :=
  ⟨⟨((h.1.1.moved hvm).kept hk).narrow hAB, ((h.1.2.moved hvm).kept hk).narrow hAB⟩, ⟨((h.2.1.moved hvm).kept hk).narrow hAB, ((h.2.2.moved hvm).kept hk).narrow hAB⟩⟩
theorem vblind (av : List Value) (sz : Nat) : FrameBlind (va_Pc av (fun U => U.heap.size = sz ∧ va_P G.1 vwCl (vW G μ) U.heap ∧ va_K G.1 vwCl (vTys G) U ∧ va_D (fun _ => True) (vW G μ) ∧ vNs U ∧ vSt G (va_A (vW G μ) sz) U U.heap)) := by
  intro a U g mk q
  obtain ⟨q0, q1, qP, qK, qD, qN, qS⟩ := q
  exact ⟨q0, q1, qP, va_K.moved (u := U) (U := U.calling g mk a) (Vm.Alike.refl U.vm) qK, qD, vNs.same (s := U) (U := U.calling g mk a) rfl qN, vSt.down (s := U) (U := U.calling g mk a) (H0 := U.heap) (H := U.heap) (Vm.Alike.refl U.vm) qS (fun _ _ _ => rfl) (fun _ h => h)⟩
theorem vself {A : Nat → Prop} {H0 H : Heap} {locs : List Loc} (hD : va_D A (vW G μ)) (hS : va_S A H0 H locs) (hA : ∀ q, H0.size ≤ q → A q) : ∀ q, va_A (vW G μ) H.size q → A q := by
  intro q h
  rcases h with ⟨k, e, h⟩ | h
  · exact hD.2 k (q, e) h
  · exact hA q (Nat.le_trans hS.1 h)
/-- behind any call: the world as the callee left it -/
theorem vafter {p : Program} {l : Launch} {e : Env} {R : Room} {s : State} {m : MethodId} {args : Array Value} {below : List Frame} {meth : Method} {c : Code} {H : Heap} {locs : List Loc} {cells slots : Nat} {Qf : State → Prop} {la : Array Slot} {A : Nat → Prop} {st0 : List Value} {a : Array Value} {Q : Option Value → VS → Prop}
    (hr : va_Run p l e R s m args below meth c H locs cells slots 0 0 (F0 m pc la st0) (st.map (vre G.2.1)) (vQc G (va_A (vW G μ) H.size) Q a) (va_A (vW G μ) H.size))
    (hD : va_D A (vW G μ)) (hS : va_S A s.heap H locs) (hA : ∀ q, s.heap.size ≤ q → A q)
    (kk : ∀ (r : Option Value) (μ' : VS) (H1 : Heap) (locs1 : List Loc), Q r μ' → va_P G.1 vwCl (vW G μ') H1 → va_S A s.heap H1 locs1 → W p l e R s m args below meth c H1 locs1 cells slots Qf (F0 m (pc + 3) la ((vpush r st).map (vre G.2.1)))) :
    W p l e R s m args below meth c H locs cells slots Qf (F0 m pc la st0) := by
  have hF := vself hD hS hA
  intro T hT Z
  obtain ⟨v, st₀, t, T', L, h0, X', hL, e1, e2, ⟨⟨r, μ', hv, hq, hp⟩, hz, hk⟩, go⟩ := hr T hT Z
  cases hv
  rw [h0] at hz hk
  obtain ⟨t2, a1, b1⟩ := kk r μ' T'.heap (locs ++ L) hq (by rw [e1]; exact hp)
    ⟨Nat.le_trans hS.1 (by rw [e1]; exact hz), fun q h1 h2 => by rw [e1, hk q (Nat.lt_of_lt_of_le h1 hS.1) (fun z => h2 (hF q z))]; exact hS.2.1 q h1 h2, fun q hq => by
      rcases List.mem_append.mp hq with h | h
      · exact hS.2.2 q h
      · exact hF _ (hL q h)⟩ T' rfl X'
  refine ⟨t2, go t2 ?_, b1⟩
  have e3 : (r.map (vre G.2.1)).toList ++ st.map (vre G.2.1) = (vpush r st).map (vre G.2.1) := by cases r <;> rfl
  rw [e3]
  exact a1
theorem vD_any {A : Nat → Prop} {μ' : VS} (h : va_D A (vW G μ)) : va_D A (vW G μ') := by
  have key : ∀ (i : Nat) (q : Nat × va_E), (vW G μ')[i]? = some q → ∃ q', (vW G μ)[i]? = some q' ∧ q'.1 = q.1 := by
    intro i q hq
    have hi : i < 87 := by
      have := (List.getElem?_eq_some_iff.mp hq).1
      rw [vW_len] at this
      exact this
    rw [vW_at G μ' hi] at hq
    cases hq
    exact ⟨_, vW_at G μ hi, rfl⟩
  refine ⟨fun i j p q hp hq hpq => ?_, fun k q hq => ?_⟩
  · obtain ⟨p', hp', ep⟩ := key i p hp
    obtain ⟨q', hq', eq⟩ := key j q hq
    exact h.1 i j p' q' hp' hq' (by rw [ep, eq]; exact hpq)
  · obtain ⟨q', hq', eq⟩ := key k q hq
    rw [← eq]
    exact h.2 k q' hq'
/-- what a call by pool entry n of cls asks: of the callee y2 with its code -/
def vMS (cls : String) (n : Nat) (y2 : MethodName) (c2 : ByteArray) (n2 : Nat) (r2 : Option FieldType) (na : Nat) : Prop :=
  Cond.methodLink cls n y2 ∈ lw_tbl ∧ Cond.static y2 ∈ lw_tbl ∧ Cond.initialized y2.cls ∈ lw_tbl ∧ Cond.code y2 c2 n2 r2 ∈ lw_tbl ∧ (y2.cls ≠ "java/lang/invoke/MethodHandle" ∧ y2.cls ≠ "java/lang/invoke/VarHandle" ∧ (parseMethodDescriptor y2.desc).map (fun d => d.parameters.length) = some na) ∧ plainName y2.cls = true ∧ n2 ≤ 40
def vMV (cls : String) (n ci : Nat) (y2 : MethodName) (c2 : ByteArray) (n2 : Nat) (r2 : Option FieldType) (na : Nat) : Prop :=
  Cond.methodLink cls n y2 ∈ lw_tbl ∧ Cond.instanceMethod y2 ∈ lw_tbl ∧ Cond.selects y2.cls y2 y2 ∈ lw_tbl ∧ Cond.initialized y2.cls ∈ lw_tbl ∧ Cond.code y2 c2 n2 r2 ∈ lw_tbl ∧ (y2.cls ≠ "java/lang/invoke/MethodHandle" ∧ y2.cls ≠ "java/lang/invoke/VarHandle" ∧ (parseMethodDescriptor y2.desc).map (fun d => d.parameters.length) = some na) ∧ plainName y2.cls = true ∧ n2 ≤ 40 ∧ ci < 9 ∧ (vwCl[ci]?).map (fun q => q.1) = some y2.cls
def vMU (cls : String) (n ci : Nat) (C owner : String) (x2 y2 : MethodName) (c2 : ByteArray) (n2 : Nat) (r2 : Option FieldType) (na : Nat) : Prop :=
  Cond.methodLink cls n x2 ∈ lw_tbl ∧ Cond.sameMethod x2.cls owner x2.name x2.desc ∈ lw_tbl ∧ Cond.selects C x2 y2 ∈ lw_tbl ∧ Cond.instanceMethod y2 ∈ lw_tbl ∧ Cond.initialized y2.cls ∈ lw_tbl ∧ Cond.code y2 c2 n2 r2 ∈ lw_tbl ∧ (owner ≠ "java/lang/invoke/MethodHandle" ∧ owner ≠ "java/lang/invoke/VarHandle" ∧ (parseMethodDescriptor x2.desc).map (fun d => d.parameters.length) = some na) ∧ plainName y2.cls = true ∧ n2 ≤ 40 ∧ ci < 9 ∧ (vwCl[ci]?).map (fun q => q.1) = some C ∧ (y2 = ⟨owner, x2.name, x2.desc⟩ ∨ Cond.declares ⟨owner, x2.name, x2.desc⟩ ∈ lw_tbl)
theorem vgood {ws : List Cond} {y2 : MethodName} {c2 : ByteArray} {n2 : Nat} {r2 : Option FieldType} (h : ∀ w ∈ ws, w ∈ lw_tbl ∧ goodWord w = true) (hc : Cond.code y2 c2 n2 r2 ∈ lw_tbl) : GoodIn lw_good (ws ++ (.code y2 c2 n2 r2 :: lw_good)) := by
  intro w hw
  rcases List.mem_append.mp hw with q | q
  · exact ⟨lw_gd (h w q).1 (h w q).2, good_of_word (h w q).2⟩
  · rcases List.mem_cons.mp q with e | e
    · subst e; exact ⟨lw_gd hc rfl, good_of_word rfl⟩
    · exact ⟨e, good_of_word (List.mem_filter.mp e).2⟩
theorem V_callS {n na n2 : Nat} {y2 : MethodName} {c2 : ByteArray} {r2 : Option FieldType} {As : List Value} (hX : Cx G (d + 1) y cc nL rt X) (hm : vMS y.cls n y2 c2 n2 r2 na) (hC : Call G d y2 c2 n2 r2 As μ (fun r μ' => V G nL X (pc + 3) ls (vpush r st) μ')) (hn : As.length = na) (hw : (As.map fun v => v.category).sum ≤ n2) (hst : (st.map fun v => v.category).sum ≤ 8) (hd : decode cc pc = .ok (.invokestatic n, 3)) : V G nL X pc ls (As.reverse ++ st) μ := by
  obtain ⟨p, l, e, R, s, m, args, below, meth, c, A, cells, slots, Qf⟩ := X
  obtain ⟨hx, hb, hr, hlk, hml, hown, hts, hNs, hK, hSt, hA, hfr, hlo, hce, hsl⟩ := hX
  intro H locs la hP hD hS hl
  obtain ⟨m1, m2, m3, m4, m5, m6, m7⟩ := hm
  have hF := vself hD hS hA
  have hMet := call_met l H.size hC m6 hw
  have hG : GoodIn lw_good (va_wsS y.cls n y2 (.code y2 c2 n2 r2 :: lw_good)) := vgood (ws := [.methodLink y.cls n y2, .static y2, .initialized y2.cls]) (by
    intro w hw
    simp only [List.mem_cons, List.not_mem_nil, or_false] at hw
    rcases hw with rfl | rfl | rfl
    · exact ⟨m1, rfl⟩
    · exact ⟨m2, rfl⟩
    · exact ⟨m3, rfl⟩) m4
  have hrun := va_runS (g := F0 m pc la ((As.reverse ++ st).map (vre G.2.1))) (As := As.map (vre G.2.1)) (rest := st.map (vre G.2.1)) (H := H) (locs := locs) (cells := cells) (slots := slots) (e := e) (below := below) (meth := meth) ⟨hx, hb, hml, hown, hts⟩ hMet (va_cwS (R := R) na hts hG rfl rfl rfl m5 ⟨hfr, by show 8 + (n2 + 11) + 60 * d ≤ R.locals; omega⟩)
    ⟨vblind _ _, fun U hU hW => ⟨rfl, by rw [hU], by rw [hU]; exact hP, va_K.moved hW.alike hK, hD.weaken (fun _ _ _ _ => trivial), vNs.warm hW hNs, by rw [hU]; exact vSt.down hW.alike hSt hS.2.1 hF⟩⟩ rfl (by rw [List.length_map]; exact hn) hl.1 (by show (As.reverse ++ st).map _ = _; rw [List.map_append, List.map_reverse]) (lv_room (by rw [vsum_re]; exact hst)) hd ⟨hce, hsl⟩
  exact vafter hrun hD hS hA (fun r μ' H1 locs1 hq hp1 hS1 => hq H1 locs1 la hp1 (vD_any hD) hS1 hl)
theorem V_callV {n na n2 i ci : Nat} {y2 : MethodName} {c2 : ByteArray} {r2 : Option FieldType} {As : List Value} (hX : Cx G (d + 1) y cc nL rt X) (hm : vMV y.cls n ci y2 c2 n2 r2 na) (hk : vk i = (ci, 0)) (hC : Call G d y2 c2 n2 r2 (.ref i :: As) μ (fun r μ' => V G nL X (pc + 3) ls (vpush r st) μ')) (hn : As.length = na) (hw : ((.ref i :: As).map fun v => v.category).sum ≤ n2) (hst : (st.map fun v => v.category).sum ≤ 8) (hd : decode cc pc = .ok (.invokevirtual n, 3)) : V G nL X pc ls (As.reverse ++ .ref i :: st) μ := by
  obtain ⟨p, l, e, R, s, m, args, below, meth, c, A, cells, slots, Qf⟩ := X
  obtain ⟨hx, hb, hr, hlk, hml, hown, hts, hNs, hK, hSt, hA, hfr, hlo, hce, hsl⟩ := hX
  intro H locs la hP hD hS hl
  obtain ⟨m1, m2, m3, m4, m5, m6, m7, m8, m9, m10⟩ := hm
  have hF := vself hD hS hA
  have hMet := call_met l H.size hC m7 hw
  obtain ⟨q, hq1, hq2⟩ := Option.map_eq_some_iff.mp m10
  have hG : GoodIn lw_good (wsV y.cls n y2.cls y2 (.code y2 c2 n2 r2 :: lw_good)) := vgood (ws := [.methodLink y.cls n y2, .instanceMethod y2, .selects y2.cls y2 y2, .initialized y2.cls]) (by
    intro w hw
    simp only [List.mem_cons, List.not_mem_nil, or_false] at hw
    rcases hw with rfl | rfl | rfl | rfl
    · exact ⟨m1, rfl⟩
    · exact ⟨m2, rfl⟩
    · exact ⟨m3, rfl⟩
    · exact ⟨m4, rfl⟩) m5
  have hrecv := va_recv hK hP (ci := ci) (q0 := i) hq1 (by rw [vW_at G μ (vk_lt hk (by omega)), vE_obj G μ hk m9])
  rw [hq2] at hrecv
  have hrun := va_runV (g := F0 m pc la ((As.reverse ++ .ref i :: st).map (vre G.2.1))) (b := G.2.1 i) (As := As.map (vre G.2.1)) (rest := st.map (vre G.2.1)) (H := H) (locs := locs) (cells := cells) (slots := slots) (e := e) (below := below) (meth := meth) ⟨hx, hb, hml, hown, hts⟩ hMet (cwV (R := R) na hts hG rfl rfl rfl ⟨rfl, m6⟩ ⟨hfr, by show 8 + (n2 + 11) + 60 * d ≤ R.locals; omega⟩)
    ⟨vblind _ _, hrecv, fun U hU hW => ⟨rfl, by rw [hU], by rw [hU]; exact hP, va_K.moved hW.alike hK, hD.weaken (fun _ _ _ _ => trivial), vNs.warm hW hNs, by rw [hU]; exact vSt.down hW.alike hSt hS.2.1 hF⟩⟩ rfl (by rw [List.length_map]; exact hn) hl.1 (by show (As.reverse ++ .ref i :: st).map _ = _; rw [List.map_append, List.map_reverse]; rfl) (lv_room (by rw [vsum_re]; exact hst)) hd ⟨hce, hsl⟩
  exact vafter hrun hD hS hA (fun r μ' H1 locs1 hq hp1 hS1 => hq H1 locs1 la hp1 (vD_any hD) hS1 hl)
theorem V_callU {n na n2 i ci : Nat} {C owner : String} {x2 y2 : MethodName} {c2 : ByteArray} {r2 : Option FieldType} {As : List Value} (hX : Cx G (d + 1) y cc nL rt X) (hm : vMU y.cls n ci C owner x2 y2 c2 n2 r2 na) (hk : vk i = (ci, 0)) (hC : Call G d y2 c2 n2 r2 (.ref i :: As) μ (fun r μ' => V G nL X (pc + 3) ls (vpush r st) μ')) (hn : As.length = na) (hw : ((.ref i :: As).map fun v => v.category).sum ≤ n2) (hst : (st.map fun v => v.category).sum ≤ 8) (hd : decode cc pc = .ok (.invokevirtual n, 3)) : V G nL X pc ls (As.reverse ++ .ref i :: st) μ := by
  obtain ⟨p, l, e, R, s, m, args, below, meth, c, A, cells, slots, Qf⟩ := X
  obtain ⟨hx, hb, hr, hlk, hml, hown, hts, hNs, hK, hSt, hA, hfr, hlo, hce, hsl⟩ := hX
  intro H locs la hP hD hS hl
  obtain ⟨m1, m1b, m3, m2, m4, m5, m6, m7, m8, m9, m10, m11⟩ := hm
  have hF := vself hD hS hA
  have hMet := call_met l H.size hC m7 hw
  obtain ⟨q, hq1, hq2⟩ := Option.map_eq_some_iff.mp m10
  have hG : GoodIn lw_good (va_wsU y.cls n C owner x2 y2 (.code y2 c2 n2 r2 :: lw_good)) := vgood (ws := [.methodLink y.cls n x2, .sameMethod x2.cls owner x2.name x2.desc, .selects C x2 y2, .instanceMethod y2, .initialized y2.cls]) (by
    intro w hw
    simp only [List.mem_cons, List.not_mem_nil, or_false] at hw
    rcases hw with rfl | rfl | rfl | rfl | rfl
    · exact ⟨m1, rfl⟩
    · exact ⟨m1b, rfl⟩
    · exact ⟨m3, rfl⟩
    · exact ⟨m2, rfl⟩
    · exact ⟨m4, rfl⟩) m5
  have hrecv := va_recv hK hP (ci := ci) (q0 := i) hq1 (by rw [vW_at G μ (vk_lt hk (by omega)), vE_obj G μ hk m9])
  rw [hq2] at hrecv
  have hR : (vroom d).frames + 1 ≤ R.frames ∧ 8 + (n2 + 11) + (vroom d).locals ≤ R.locals := ⟨hfr, by show 8 + (n2 + 11) + 60 * d ≤ R.locals; omega⟩
  have cw : va_CU R s args y.cls C owner n x2 y2 c2 n2 r2 (.code y2 c2 n2 r2 :: lw_good) (vroom d) 0 0 na := by
    rcases m11 with h | h
    · exact va_cwU na hts hG rfl rfl rfl h m6 hR
    · exact va_cwA na hts hG rfl rfl rfl (hNs _ h rfl) m6 hR
  have hrun := va_runU (g := F0 m pc la ((As.reverse ++ .ref i :: st).map (vre G.2.1))) (b := G.2.1 i) (As := As.map (vre G.2.1)) (rest := st.map (vre G.2.1)) (H := H) (locs := locs) (cells := cells) (slots := slots) (e := e) (below := below) (meth := meth) ⟨hx, hb, hml, hown, hts⟩ hMet cw
    ⟨vblind _ _, hrecv, fun U hU hW => ⟨rfl, by rw [hU], by rw [hU]; exact hP, va_K.moved hW.alike hK, hD.weaken (fun _ _ _ _ => trivial), vNs.warm hW hNs, by rw [hU]; exact vSt.down hW.alike hSt hS.2.1 hF⟩⟩ rfl (by rw [List.length_map]; exact hn) hl.1 (by show (As.reverse ++ .ref i :: st).map _ = _; rw [List.map_append, List.map_reverse]; rfl) (lv_room (by rw [vsum_re]; exact hst)) hd ⟨hce, hsl⟩
  exact vafter hrun hD hS hA (fun r μ' H1 locs1 hq hp1 hS1 => hq H1 locs1 la hp1 (vD_any hD) hS1 hl)
theorem V_copy {n i1 i2 n1 n2 : Nat} {a b z : Int32} (hX : Cx G (d + 1) y cc nL rt X) (hm : Cond.methodLink y.cls n arraycopyName ∈ lw_tbl) (h1 : Cond.native arraycopyName ∈ lw_tbl) (h2 : Cond.static arraycopyName ∈ lw_tbl) (h3 : Cond.initialized "java/lang/System" ∈ lw_tbl) (hk1 : vk i1 = (9, n1)) (hk2 : vk i2 = (9, n2)) (ha : ¬ a < 0) (hb0 : ¬ b < 0) (hz : ¬ z < 0) (h4 : a.toNatClampNeg + z.toNatClampNeg ≤ n1) (h5 : b.toNatClampNeg + z.toNatClampNeg ≤ n2) (hst : (st.map fun v => v.category).sum ≤ 8) (hd : decode cc pc = .ok (.invokestatic n, 3)) (k : V G nL X (pc + 3) ls st (vrow μ.1 i2 (va_cpy (μ.1 i1) (μ.1 i2) a.toNatClampNeg b.toNatClampNeg z.toNatClampNeg), μ.2)) : V G nL X pc ls (.int z :: .int b :: .ref i2 :: .int a :: .ref i1 :: st) μ := by
  obtain ⟨p, l, e, R, s, m, args, below, meth, c, A, cells, slots, Qf⟩ := X
  obtain ⟨hx, hb, hr, hlk, hml, hown, hts, hNs, hK, hSt, hA, hfr, hlo, hce, hsl⟩ := hX
  intro H locs la hP hD hS hl
  have e1 : nativeFrameWords "java/lang/System" "arraycopy" 5 = 7 := by decide
  have e2 : ((st.map (vre G.2.1)).map fun v => v.category).sum + (nativeFrameWords "java/lang/System" "arraycopy" 5 + 11) ≤ R.locals := by rw [e1, vsum_re]; omega
  refine va_copyi (rest := st.map (vre G.2.1)) hx hb (hml.trans hl.1.symm) hown (hts _ (lw_gd hm rfl)) (hts _ (lw_gd h1 rfl)) (hts _ (lw_gd h2 rfl)) (hts _ (lw_gd h3 rfl)) hK hP hD hS i1 i2 0 0 (by rw [vW_at G μ (vk_lt hk1 (by omega)), vE_int G μ hk1]) (by rw [vW_at G μ (vk_lt hk2 (by omega)), vE_int G μ hk2]) rfl rfl rfl ha hb0 hz h4 h5 (fun _ _ => rfl) (by omega) e2 hd (fun H1 locs1 hP1 hD1 hS1 => ?_)
  rw [vW_row hk2] at hP1 hD1
  exact k H1 locs1 la hP1 hD1 hS1 hl
theorem V_mmax {n : Nat} {a b : Int32} (hX : Cx G (d + 1) y cc nL rt X) (hm : Cond.methodLink y.cls n Lib.Math.max.name ∈ lw_tbl) (h1 : Cond.static Lib.Math.max.name ∈ lw_tbl) (h2 : Cond.initialized "java/lang/Math" ∈ lw_tbl) (h3 : Cond.code Lib.Math.max.name Lib.Math.max.code 2 (some .int) ∈ lw_tbl) (hst : (st.map fun v => v.category).sum ≤ 8) (hd : decode cc pc = .ok (.invokestatic n, 3)) (k : V G nL X (pc + 3) ls (.int (if a < b then b else a) :: st) μ) : V G nL X pc ls (.int b :: .int a :: st) μ := by
  obtain ⟨p, l, e, R, s, m, args, below, meth, c, A, cells, slots, Qf⟩ := X
  obtain ⟨hx, hb, hr, hlk, hml, hown, hts, hNs, hK, hSt, hA, hfr, hlo, hce, hsl⟩ := hX
  intro H locs la hP hD hS hl
  have e2 : ((st.map (vre G.2.1)).map fun v => v.category).sum + 13 ≤ R.locals := by rw [vsum_re]; omega
  exact va_mmax (rest := st.map (vre G.2.1)) hx hb (hml.trans hl.1.symm) hown (hts _ (lw_gd hm rfl)) (hts _ (lw_gd h1 rfl)) (hts _ (lw_gd h2 rfl)) (hts _ (lw_gd h3 rfl)) (by omega) e2 hce hsl hd (k H locs la hP hD hS hl)
theorem V_mmin {n : Nat} {a b : Int32} (hX : Cx G (d + 1) y cc nL rt X) (hm : Cond.methodLink y.cls n Lib.Math.min.name ∈ lw_tbl) (h1 : Cond.static Lib.Math.min.name ∈ lw_tbl) (h2 : Cond.initialized "java/lang/Math" ∈ lw_tbl) (h3 : Cond.code Lib.Math.min.name Lib.Math.min.code 2 (some .int) ∈ lw_tbl) (hst : (st.map fun v => v.category).sum ≤ 8) (hd : decode cc pc = .ok (.invokestatic n, 3)) (k : V G nL X (pc + 3) ls (.int (if b < a then b else a) :: st) μ) : V G nL X pc ls (.int b :: .int a :: st) μ := by
  obtain ⟨p, l, e, R, s, m, args, below, meth, c, A, cells, slots, Qf⟩ := X
  obtain ⟨hx, hb, hr, hlk, hml, hown, hts, hNs, hK, hSt, hA, hfr, hlo, hce, hsl⟩ := hX
  intro H locs la hP hD hS hl
  have e2 : ((st.map (vre G.2.1)).map fun v => v.category).sum + 13 ≤ R.locals := by rw [vsum_re]; omega
  exact va_mmin (rest := st.map (vre G.2.1)) hx hb (hml.trans hl.1.symm) hown (hts _ (lw_gd hm rfl)) (hts _ (lw_gd h1 rfl)) (hts _ (lw_gd h2 rfl)) (hts _ (lw_gd h3 rfl)) (by omega) e2 hce hsl hd (k H locs la hP hD hS hl)
/-- a walk with more room than is asked -/
theorem Cx.less {d2 : Nat} (h : d2 ≤ d) (hX : Cx G d y cc nL rt X) : Cx G d2 y cc nL rt X := by
  obtain ⟨p, l, e, R, s, m, args, below, meth, c, A, cells, slots, Qf⟩ := X
  obtain ⟨hx, hb, hr, hlk, hml, hown, hts, hNs, hK, hSt, hA, hfr, hlo, hce, hsl⟩ := hX
  exact ⟨hx, hb, hr, hlk, hml, hown, hts, hNs, hK, hSt, hA, Nat.le_trans h hfr, Nat.le_trans (Nat.mul_le_mul_left 60 h) hlo, hce, hsl⟩
theorem Call.more {d2 : Nat} {av : List Value} {Q : Option Value → VS → Prop} (h : d ≤ d2) (hC : Call G d y cc nL rt av μ Q) : Call G d2 y cc nL rt av μ Q := fun X hX hR => hC X (hX.less h) hR
theorem Call.post {av : List Value} {Q Q2 : Option Value → VS → Prop} (hC : Call G d y cc nL rt av μ Q) (h : ∀ r μ', Q r μ' → Q2 r μ') : Call G d y cc nL rt av μ Q2 := fun X hX hR => hC X hX (fun r μ' hq => hR r μ' (h r μ' hq))
end VC
