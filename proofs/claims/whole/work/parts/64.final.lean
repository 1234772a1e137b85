/-! THE CLAIM OUT OF ONE WALK OF THE LAW'S BODY. Your part is whole_start (and what it stands on); all else here is the same for every law, but numbers. -/
def R_law : String := "NodTaxLaw"
def lw_P (b : Addr) (xs : List Int32) (args : Array Value) (s : State) : Prop := args = #[.ref b] ∧ s.IntsAt b xs ∧ xs.length ≤ 3584 ∧ (Jvm.Cond.and given_1 narrow_1).before args s = true
def lw_Q (_ : Array Value) (s : State) (o : Outcome) (t : State) : Prop := o = .returned (some (.int 1)) ∧ Framed s o t [] 600000 7302250
def lw_Z (below : List Frame) (a : Array Value) (s : State) : State → Prop := fun t => ∃ o, t.status = .running ∧ Ended t below o ∧ lw_Q a s o t
/-- the law's own end, with 1 on the stack, nothing written that was there before, its room as the claim has it -/
theorem lw_ret {p : Program} {l : Launch} {e : Env} {s : State} {m : MethodId} {below : List Frame} {meth : Method} {c : Code} {b : Nat} (hx : p.tables.exec = Jvm.exec) (hb : c.code = code) (hr : meth.sig.returnType = ret) (hlocks : meth.locks = false) {pc : Nat} {H : Heap} {ls : Array Slot} (hdg : decode code pc = .ok (.ireturn, 1)) : W p l e room_1 s m #[Value.ref b] below meth c H [] 600000 7302250 (lw_Z below #[Value.ref b] s) (F0 m pc ls [.int 1]) := by
  intro T hT X
  obtain ⟨fs, hret, hrun, hended, hW, hframe⟩ := X.leave (v := some (.int 1)) (hlocks := hlocks) (fun h => by rw [hr] at h; cases h)
  have hmeth' : T.vm.method? m = some meth := X.method'
  refine ⟨T.setFrames fs, ?_, .returned (some (.int 1)), hrun, hended, rfl, ⟨_, rfl⟩, hW, hframe⟩
  jvm_step X.here [X.here.top, hx, hb, hdg, hmeth', hr, ret, narrow_b1]
  (try refine ⟨rfl, ?_⟩); (try refine ⟨rfl, ?_⟩)
  first | (intro acts; rw [hret _ acts rfl rfl rfl]) | rw [hret _ _ rfl rfl rfl]
  exact Steps.refl _
/-- what holds at the law's entry: the machine, the code, the tables' words (any of lw_tbl by 'hts w (by decide +kernel)'), the script of L ints xs at the cell b, what the Statement gives of the start (any of its parts by flat_of_before) -/
def lw_At (p : Program) (s : State) (m : MethodId) (meth : Method) (c : Code) (b L : Nat) (xs : Nat → Int32) : Prop :=
  p.tables.exec = Jvm.exec ∧ c.code = code ∧ meth.sig.returnType = ret ∧ c.maxLocals = 4 ∧ s.vm.findClass R_law = some m.cls ∧ (∀ w ∈ lw_tbl, w.before #[Value.ref b] s = true) ∧ va_X b L xs s s.heap ∧ b < s.heap.size ∧ meth.locks = false ∧ (Jvm.Cond.and given_1 narrow_1).before #[Value.ref b] s = true
theorem us_BY_CODE : Cond.laysStatic "NodTax" "BY_CODE" "[C" ∈ lw_tbl := List.mem_of_getElem? (i := 429) (by decide +kernel)
theorem us_BY_DRAW : Cond.laysStatic "NodTax" "BY_DRAW" "[C" ∈ lw_tbl := List.mem_of_getElem? (i := 775) (by decide +kernel)
theorem nest_on {w : Cond} (h : vnest w = true) : w.onTables = true := by
  cases w <;> first | rfl | (exact absurd h Bool.false_ne_true)
theorem nest_onU {w : Cond} (h : unest w = true) : w.onTables = true := by
  cases w <;> first | rfl | (exact absurd h Bool.false_ne_true)
set_option maxHeartbeats 8000000 in
set_option maxRecDepth 100000 in
/-- THE LAW, from its entry -/
theorem whole_start {p : Program} {e : Env} {s : State} {m : MethodId} {below : List Frame} {meth : Method} {c : Code} (l : Launch) {b L : Nat} {xs : Nat → Int32} (hL : L ≤ 3584) (C0 : lw_At p s m meth c b L xs) : W p l e room_1 s m #[Value.ref b] below meth c s.heap [] 0 0 (lw_Z below #[Value.ref b] s) (entryFrame m ([Value.ref b] : List Value).toArray 4) := by
  obtain ⟨hx, hb, hr, hml, hown, hts, hX, hbl, hlocks, hgv⟩ := id C0
  have hts2 : ∀ w ∈ lw_good, w.before #[Value.ref b] s = true := fun w h => hts w (List.mem_filter.mp h).1
  have hs := flat_of_before _ hgv
  have hnA : ∀ a : Nat, a < s.heap.size → ¬ (fun q : Nat => s.heap.size ≤ q) a := fun a h => Nat.not_le.mpr h
  obtain ⟨c0_, i0_, hk0⟩ := u_known (C := RX0) (T := TX0) (N := 7) (n := 7) hts2 ginX0 (hts2 _ (lw_gd un_X0 rfl))
  obtain ⟨c1_, i1_, hk1⟩ := u_known (C := RX1) (T := TX1) (N := 6) (n := 6) hts2 ginX1 (hts2 _ (lw_gd un_X1 rfl))
  obtain ⟨c2_, i2_, hk2⟩ := u_known (C := RX3) (T := TX3) (N := 2) (n := 2) hts2 ginX3 (hts2 _ (lw_gd un_X3 rfl))
  obtain ⟨c3_, i3_, hk3⟩ := u_known (C := RX4) (T := TX4) (N := 13) (n := 13) hts2 ginX4 (hts2 _ (lw_gd un_X4 rfl))
  obtain ⟨c4_, i4_, hk4⟩ := u_known (C := RX5) (T := TX5) (N := 3) (n := 3) hts2 ginX5 (hts2 _ (lw_gd un_X5 rfl))
  obtain ⟨c5_, i5_, hk5⟩ := u_known (C := RX6) (T := TX6) (N := 13) (n := 13) hts2 ginX6 (hts2 _ (lw_gd un_X6 rfl))
  obtain ⟨c6_, i6_, hk6⟩ := u_known (C := RX7) (T := TX7) (N := 4) (n := 4) hts2 ginX7 (hts2 _ (lw_gd un_X7 rfl))
  obtain ⟨c7_, i7_, hk7⟩ := u_known (C := RX8) (T := TX8) (N := 11) (n := 11) hts2 ginX8 (hts2 _ (lw_gd un_X8 rfl))
  obtain ⟨c8_, i8_, hk8⟩ := u_known (C := RX9) (T := TX9) (N := 37) (n := 37) hts2 ginX9 (hts2 _ (lw_gd un_X9 rfl))
  obtain ⟨aI, kI, oI_, f1, f2, f3⟩ := Cond.arrayClass_spec (hts _ ua_i)
  obtain ⟨aL, kL, oL_, g1, g2, g3⟩ := Cond.arrayClass_spec (hts _ ua_l)
  obtain ⟨aZ, kZ, oZ_, h1, h2, h3⟩ := Cond.arrayClass_spec (hts _ ua_z)
  obtain ⟨pc_, aP, kP, p1, p2, p3, p4, p5⟩ := Cond.arrayOver_spec (hts _ ua_p)
  obtain ⟨wc_, aW, kW, w1, w2, w3, w4, w5⟩ := Cond.arrayOver_spec (hts _ ua_w)
  obtain ⟨tC, hvtC, hTtC⟩ := va_Tof (tm := .static "NodTax" "BY_CODE" "[C") (ty := .char) (N := 7) (f := fun j => .int (vBC j)) (A := fun q : Nat => s.heap.size ≤ q) (by decide) (hs (Cond.arrayOf (.static "NodTax" "BY_CODE" "[C") .char) (by decide +kernel)) (va_eqt (hs (Cond.eq (.length (.static "NodTax" "BY_CODE" "[C")) (.int 7)) (by decide +kernel))) (by intro j hj; match j, hj with | 0, _ => exact va_eqt (hs (Cond.eq (.elem (.static "NodTax" "BY_CODE" "[C") (.int 0)) (.int 99)) (by decide +kernel)) | 1, _ => exact va_eqt (hs (Cond.eq (.elem (.static "NodTax" "BY_CODE" "[C") (.int 1)) (.int 104)) (by decide +kernel)) | 2, _ => exact va_eqt (hs (Cond.eq (.elem (.static "NodTax" "BY_CODE" "[C") (.int 2)) (.int 110)) (by decide +kernel)) | 3, _ => exact va_eqt (hs (Cond.eq (.elem (.static "NodTax" "BY_CODE" "[C") (.int 3)) (.int 111)) (by decide +kernel)) | 4, _ => exact va_eqt (hs (Cond.eq (.elem (.static "NodTax" "BY_CODE" "[C") (.int 4)) (.int 115)) (by decide +kernel)) | 5, _ => exact va_eqt (hs (Cond.eq (.elem (.static "NodTax" "BY_CODE" "[C") (.int 5)) (.int 119)) (by decide +kernel)) | 6, _ => exact va_eqt (hs (Cond.eq (.elem (.static "NodTax" "BY_CODE" "[C") (.int 6)) (.int 126)) (by decide +kernel))) hnA
  have hZtC := va_Zof (v := .ref tC) (A := fun q : Nat => s.heap.size ≤ q) (hts (.laysStatic "NodTax" "BY_CODE" "[C") us_BY_CODE) (hts _ ui_X8) hvtC hnA
  obtain ⟨tD, hvtD, hTtD⟩ := va_Tof (tm := .static "NodTax" "BY_DRAW" "[C") (ty := .char) (N := 7) (f := fun j => .int (vBD j)) (A := fun q : Nat => s.heap.size ≤ q) (by decide) (hs (Cond.arrayOf (.static "NodTax" "BY_DRAW" "[C") .char) (by decide +kernel)) (va_eqt (hs (Cond.eq (.length (.static "NodTax" "BY_DRAW" "[C")) (.int 7)) (by decide +kernel))) (by intro j hj; match j, hj with | 0, _ => exact va_eqt (hs (Cond.eq (.elem (.static "NodTax" "BY_DRAW" "[C") (.int 0)) (.int 119)) (by decide +kernel)) | 1, _ => exact va_eqt (hs (Cond.eq (.elem (.static "NodTax" "BY_DRAW" "[C") (.int 1)) (.int 104)) (by decide +kernel)) | 2, _ => exact va_eqt (hs (Cond.eq (.elem (.static "NodTax" "BY_DRAW" "[C") (.int 2)) (.int 111)) (by decide +kernel)) | 3, _ => exact va_eqt (hs (Cond.eq (.elem (.static "NodTax" "BY_DRAW" "[C") (.int 3)) (.int 110)) (by decide +kernel)) | 4, _ => exact va_eqt (hs (Cond.eq (.elem (.static "NodTax" "BY_DRAW" "[C") (.int 4)) (.int 99)) (by decide +kernel)) | 5, _ => exact va_eqt (hs (Cond.eq (.elem (.static "NodTax" "BY_DRAW" "[C") (.int 5)) (.int 115)) (by decide +kernel)) | 6, _ => exact va_eqt (hs (Cond.eq (.elem (.static "NodTax" "BY_DRAW" "[C") (.int 6)) (.int 126)) (by decide +kernel))) hnA
  have hZtD := va_Zof (v := .ref tD) (A := fun q : Nat => s.heap.size ≤ q) (hts (.laysStatic "NodTax" "BY_DRAW" "[C") us_BY_DRAW) (hts _ ui_X8) hvtD hnA
  obtain ⟨dC, dI, hKc⟩ : ∃ (dC : Nat → ClassId) (dI : Nat → Nat → Nat), ∀ (k : Nat) (q : vw_C), vwCl[k]? = some q → u_Kn s q.1 q.2.1 q.2.2 (dC k) (dI k) := by
    refine ⟨fun k => if k = 0 then c0_ else if k = 1 then c1_ else if k = 2 then c2_ else if k = 3 then c3_ else if k = 4 then c4_ else if k = 5 then c5_ else if k = 6 then c6_ else if k = 7 then c7_ else c8_, fun k => if k = 0 then i0_ else if k = 1 then i1_ else if k = 2 then i2_ else if k = 3 then i3_ else if k = 4 then i4_ else if k = 5 then i5_ else if k = 6 then i6_ else if k = 7 then i7_ else i8_, ?_⟩
    intro k q hq
    match k, hq with
    | 0, hq => cases hq; exact hk0
    | 1, hq => cases hq; exact hk1
    | 2, hq => cases hq; exact hk2
    | 3, hq => cases hq; exact hk3
    | 4, hq => cases hq; exact hk4
    | 5, hq => cases hq; exact hk5
    | 6, hq => cases hq; exact hk6
    | 7, hq => cases hq; exact hk7
    | 8, hq => cases hq; exact hk8
    | k + 9, hq => simp [vwCl] at hq
  obtain ⟨G, hG1, hG3⟩ : ∃ G : VG, G.1 = (dC, dI) ∧ G.2.2 9 = aI ∧ G.2.2 10 = aL ∧ G.2.2 11 = aZ ∧ G.2.2 12 = aP ∧ G.2.2 13 = aW ∧ G.2.1 1000 = tC ∧ G.2.1 1001 = tD ∧ G.2.1 2000 = b :=
    ⟨((dC, dI), fun i => if i = 1000 then tC else if i = 1001 then tD else b, fun k => if k = 9 then aI else if k = 10 then aL else if k = 11 then aZ else if k = 12 then aP else aW), rfl, rfl, rfl, rfl, rfl, rfl, rfl, rfl, rfl⟩
  obtain ⟨e9, e10, e11, e12, e13, eC, eD, eb⟩ := hG3
  have hK : va_K G.1 vwCl (vTys G) s := by
    refine ⟨by rw [hG1]; exact hKc, fun k q hk => ?_⟩
    match k, hk with
    | 0, hk => cases hk; rw [e9]; exact ⟨fun n z => ⟨fun k h => (by cases h), kI, f2, oI_, f3⟩, f1⟩
    | 1, hk => cases hk; rw [e10]; exact ⟨fun n z => ⟨fun k h => (by cases h), kL, g2, oL_, g3⟩, g1⟩
    | 2, hk => cases hk; rw [e11]; exact ⟨fun n z => ⟨fun k h => (by cases h), kZ, h2, oZ_, h3⟩, h1⟩
    | 3, hk => cases hk; rw [e12]; exact ⟨fun n z => ⟨fun k h => (by cases h), kP, p3, pc_, p4⟩, kP, pc_, p3, p4, p1, p5⟩
    | 4, hk => cases hk; rw [e13]; exact ⟨fun n z => ⟨fun k h => (by cases h), kW, w3, wc_, w4⟩, kW, wc_, w3, w4, w1, w5⟩
    | k + 5, hk => simp [vTys] at hk
  have hNs : vNs s := fun w hw hn => va_Nw.of (nest_on hn) (hts w hw)
  have hUs : uNs s := ⟨fun w hw hn => va_Nw.of (nest_onU hn) (hts w hw), va_AO.of (hts _ ua_p), va_AO.of (hts _ ua_w)⟩
  have hCx : ∀ ad : Nat → Nat, ad 1000 = tC → ad 1001 = tD → Cx (G.1, ad, G.2.2) (0 + 20) x code 4 ret (p, l, e, room_1, s, m, #[Value.ref b], below, meth, c, (fun q : Nat => s.heap.size ≤ q), 600000, 7302250, lw_Z below #[Value.ref b] s) := fun ad q1 q2 =>
    ⟨hx, hb, hr, hlocks, hml, hown, hts2, hNs, hK, ⟨⟨by show va_Z _ _ _ (.ref (ad 1000)) _ _ _; rw [q1]; exact hZtC, by show va_T _ (ad 1000) _ _ _ _ _; rw [q1]; exact hTtC⟩, ⟨by show va_Z _ _ _ (.ref (ad 1001)) _ _ _; rw [q2]; exact hZtD, by show va_T _ (ad 1001) _ _ _ _ _; rw [q2]; exact hTtD⟩⟩, fun q h => h, by decide, by decide, by decide, by decide⟩
  have hl := lv_entry ([.ref b]) (n := 4) (Nat.le_of_ble_eq_true rfl)
  rw [lg_entry_eq]
  have hU0 : U G 4 (p, l, e, room_1, s, m, #[Value.ref b], below, meth, c, (fun q : Nat => s.heap.size ≤ q), 600000, 7302250, lw_Z below #[Value.ref b] s) 0 0 0 [(0, .ref b)] [] [] := by
    refine law_start (d := 0) (hCx G.2.1 eC eD) hUs ⟨rfl, rfl⟩ ?_
    intros
    refine toV_ ⟨rfl, rfl⟩ eb ?_
    refine law_loop (d := 0) (L_ := L) (xs := xs) (hCx _ (by exact eC) (by exact eD)) ⟨by show va_X (G.2.1 2000) L xs s s.heap; rw [eb]; exact hX, by show G.2.1 2000 < _; rw [eb]; exact hbl, by show ¬ s.heap.size ≤ G.2.1 2000; rw [eb]; exact Nat.not_le.mpr hbl⟩ hL (fun ls μ => ?_) (L + 1) 0 P0 0 (fun _ => 0) (fun _ => 0) (fun _ => P0) mu0 (Nat.zero_le _) (by omega) ok_0 rc_0 rm_0
    intro H locs la hP hD hS hl
    refine va_forget hS.2.2 ?_
    exact lw_ret hx hb hr hlocks dL_law_940
  exact hU0 s.heap [] _ (fun k q h => by simp at h) ⟨fun i j p q h => by simp at h, fun k q h => by simp at h⟩ va_S.rf hl
theorem lw_htsX {args : Array Value} {s : State} (h : ∀ w ∈ k2_sels lw_privs ++ tables_1, w.before args s = true) : ∀ w ∈ lw_tbl, w.before args s = true := by
  have hq : ∀ w ∈ tables_1, w.before args s = true := fun w hw => h w (List.mem_append_right _ hw)
  have hm : ∀ w ∈ lw_more, w.before args s = true := by
    intro w hw
    have hp : (Cond.privateMethod ⟨"NodTax$Orders", "goOn", "(LNodTax$Parish;[LNodTax$Walk;I)V"⟩).before args s = true := hq _ (List.mem_of_getElem? (i := 507) (by decide +kernel))
    have hi : (Cond.instanceMethod ⟨"NodTax$Orders", "goOn", "(LNodTax$Parish;[LNodTax$Walk;I)V"⟩).before args s = true := hq _ (List.mem_of_getElem? (i := 508) (by decide +kernel))
    rcases List.mem_cons.mp hw with e | hw
    · rw [e]
      exact sel_priv (x := ⟨"NodTax$CheapestOrder", "goThrough", "(LNodTax$Parish;LNodTax$Pad;[LNodTax$Walk;)V"⟩) (z := ⟨"NodTax$Orders", "goThrough", "(LNodTax$Parish;LNodTax$Pad;[LNodTax$Walk;)V"⟩) ⟨by decide, by decide⟩ (hq (.selects "NodTax$CheapestOrder" ⟨"NodTax$CheapestOrder", "goThrough", "(LNodTax$Parish;LNodTax$Pad;[LNodTax$Walk;)V"⟩ ⟨"NodTax$Orders", "goThrough", "(LNodTax$Parish;LNodTax$Pad;[LNodTax$Walk;)V"⟩) (List.mem_of_getElem? (i := 500) (by decide +kernel))) rfl hp hi
    · rcases List.mem_cons.mp hw with e | hw
      · rw [e]
        exact sel_priv (x := ⟨"NodTax$FittingOrders", "keepAsFirst", "()V"⟩) (z := ⟨"NodTax$Orders", "keepAsFirst", "()V"⟩) ⟨by decide, by decide⟩ (hq (.selects "NodTax$FittingOrders" ⟨"NodTax$FittingOrders", "keepAsFirst", "()V"⟩ ⟨"NodTax$Orders", "keepAsFirst", "()V"⟩) (List.mem_of_getElem? (i := 533) (by decide +kernel))) rfl hp hi
      · exact absurd hw List.not_mem_nil
  intro w hw
  rcases List.mem_append.mp hw with hw | hw
  · exact h w (List.mem_append_left _ hw)
  · rcases List.mem_append.mp hw with hw | hw
    · exact hq w hw
    · exact hm w hw
set_option maxHeartbeats 4000000 in
theorem lw_walk (l : Launch) (b : Addr) (xs : List Int32) : MetFree l x (headSpec (Jvm.Cond.code x code maxLocals ret :: tables_1) room_1) (lw_P b xs) (fun _ _ _ _ _ => True) lw_Q := by
  refine MetFree.of_bodyS (code := code) (maxLocals := maxLocals) (ret := ret) (by decide) ?_ ?_
  · intro args s m h hn
    obtain ⟨meth, c, h1, h2, h3, h4, h5, h6, -, -⟩ := Cond.code_spec hn (atoms_spec (ws := Jvm.Cond.code x code maxLocals ret :: tables_1) h _ List.mem_cons_self)
    exact ⟨meth, c, h1, h2, h3, h4, h5, h6⟩
  · intro p e s m args below meth c s₁ B hml0 hP _
    obtain ⟨rfl, hx, hbd, hgv⟩ := hP
    obtain ⟨scr, harrAt, hlist, hof, hsmall⟩ := hx
    obtain ⟨hcb, hkn, -, -⟩ := State.arrayAt?_spec harrAt
    have hown : s.vm.findClass R_law = some m.cls := findClass_of_methodNamed B.named
    have hts0 : ∀ c ∈ (Jvm.Cond.code x code maxLocals ret :: tables_1), c.before #[Value.ref b] s = true := atoms_spec (ws := Jvm.Cond.code x code maxLocals ret :: tables_1) B.pre
    have hts : ∀ w ∈ lw_tbl, w.before #[Value.ref b] s = true := lw_htsX (k2_hts_sels lw_privs (fun w hw => hts0 w (List.mem_cons_of_mem _ hw)) lw_privs_ok)
    have hml : c.maxLocals = 4 := B.maxLocals_eq (hts0 _ List.mem_cons_self)
    have X₀ : Stand p l e room_1 s m #[Value.ref b] below meth c s₁ [] 0 0 := Stand.of_body B
    have hh0 : s₁.heap = s.heap := by rw [B.state]; rfl
    have hsz : scr.slots.size = xs.length := by rw [← Array.length_toList, hlist, List.length_map]
    have hval : ∀ j : Nat, j < xs.length → scr.slots[j]? = some (.int (xs.getD j 0)) := fun j hj => by
      rw [← Array.getElem?_toList, hlist]
      simp [hj]
    have hbl : b < s.heap.size := (Array.getElem?_eq_some_iff.mp hcb).1
    have hX : va_X b xs.length (fun j => xs.getD j 0) s s.heap := ⟨scr, hcb, hof, hkn, hsz, hval⟩
    have K : W p l e room_1 s m #[Value.ref b] below meth c s₁.heap [] 0 0 (lw_Z below #[Value.ref b] s) (entryFrame m ([Value.ref b] : List Value).toArray 4) := by
      rw [hh0]
      exact whole_start l hbd ⟨B.exec, B.bytes, B.returns, hml, hown, hts, hX, hbl, B.notSynchronized, hgv⟩
    obtain ⟨t, a1, o, b1, b2, b3⟩ := K s₁ rfl X₀
    exact ⟨t, o, a1, b1, b2, b3⟩
theorem lw_pre_spec {args : Array Value} {s : State} (h : (Jvm.Cond.and given_1 narrow_1).before args s = true) (hr : rest_1_c.before args s = true) : ∃ (b : Addr) (xs : List Int32), lw_P b xs args s := by
  have hs := flat_of_before _ h
  have hq := flat_of_before _ hr
  have hc : (Cond.count 1).before args s = true := hs _ (by decide +kernel)
  have harr : (Cond.arrayOf (.arg 0) .int).before args s = true := hs _ (by decide +kernel)
  have hle : (Cond.le (.length (.arg 0)) (.int 3584)).before args s = true := hs _ (by decide +kernel)
  have hlen : (Cond.isInt (.length (.arg 0))).before args s = true := hq _ (by decide +kernel)
  have hall : (Cond.all (.arg 0) (.isInt (.elem (.arg 0) (.index 0)))).before args s = true := hq _ (by decide +kernel)
  obtain ⟨b, xs, hb, hx⟩ := State.ints_of_pre rfl harr hlen hall
  have hsm : xs.length < 2 ^ 31 := hx.choose_spec.2.2.2
  have hev : (Term.length (.arg 0)).eval args s none [] s = some (.int xs.length.toInt32) := hx.length_eval hb
  have hv := Cond.le_ints hev (show (Term.int 3584).eval args s none [] s = some (.int 3584) from rfl)
  have hd : xs.length.toInt32 ≤ 3584 := by
    simpa [Cond.before, Cond.holds, hv] using hle
  have hN : xs.length ≤ 3584 := (Int32.ofNat_le_ofNat hsm (by decide)).mp (show Int32.ofNat xs.length ≤ Int32.ofNat 3584 from hd)
  exact ⟨b, xs, Cond.one_arg hc (show args[0]? = some (.ref b) from hb), hx, hN, h⟩
theorem lw_comes (l : Launch) : Comes l x (Jvm.Cond.code x code maxLocals ret :: tables_1) room_1 (fun tb e args s => Calls_1 tb e args s ∧ rest_1 tb e args s ∧ Pre_1 tb e args s)
    (fun _ _ args s o t => lw_Q args s o t) := by
  intro p e ha hc hk s m args below hf hfit hheap happ hpre
  obtain ⟨b, xs, hP⟩ := lw_pre_spec hpre.2.2 hpre.2.1
  obtain ⟨k, o, h1, h2, h3, hQ⟩ := lw_walk l b xs p e ha hc hk s m args below hf ((Spec.applies_iff_loose hf).mp happ).1 hP trivial
  exact ⟨k, o, h1, h2, h3, hQ⟩
theorem lw_frame {s t : State} {o : Outcome} {args : Array Value} (h : Framed s o t [] 600000 7302250) :
    Framed s o t (fieldLocs frame_1_writes args s ++ arrayLocs frame_1_arrays args s ++ staticLocs frame_1_statics s) 600000 7302250 := h
theorem lw_limb (L : Cond) (hL : ∀ (args : Array Value) (s t : State), L.after args s (.returned (some (.int 1))) t = true) :
    ArmFor flags0 classFile x code maxLocals ret World_1 tables_1 room_1 Calls_1 rest_1 Pre_1
      (fun tb e a s o t => postC L tb e a s o t ∧ Framed s o t (fieldLocs frame_1_writes a s ++ arrayLocs frame_1_arrays a s ++ staticLocs frame_1_statics s) 600000 7302250) := by
  intro l _ _ _ p e ha hc hk s m args below hf hfit hheap happ hpre
  obtain ⟨k, o, h1, h2, h3, rfl, hF⟩ := lw_comes l p e ha hc hk s m args below hf hfit hheap happ hpre
  exact ⟨k, _, h1, h2, h3, hL args s _, lw_frame hF⟩
theorem i_vc : Claimed_1_1 ∧ Claimed_1_2 := ⟨lw_limb limb_1_1 (fun args s t => by simp [limb_1_1, Cond.after, Cond.holds, Cond.value]), lw_limb limb_1_2 (fun args s t => Cond.after_iff.mpr (by
  first | (rw [show limb_1_2 = Cond.eq .result (.int 1) from rfl, Cond.eq_ints (x := 1) (y := 1) rfl rfl]; simp; done) | (simp [limb_1_2, Cond.value, Term.eval]; done)))⟩
