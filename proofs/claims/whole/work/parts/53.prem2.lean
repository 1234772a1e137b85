theorem fitG_bd {P : PC} {n : Nat} (a : FA) (T : Nat → Nat) : (fitG P n a T).1 ≤ a.1 + 1 := by
  unfold fitG
  split
  · exact Nat.le_refl _
  · omega
theorem p7 {L : Nat} (h : L ≤ 6) : 7 ^ L ≤ 117649 := Nat.pow_le_pow_right (n := 7) (by decide) h
theorem fitO_bd {P : PC} {L : Nat} {S : Nat → Nat} (h : L ≤ 6) : (fitO P L S).1 ≤ 117649 := by
  have h1 := dfs_bd (bd := fun a : FA => a.1) (may := noM) (arr := fitG P L) fitG_bd L 0 S (fun k => cv S (kc k) 0 L) (0, fun _ => false, S)
  have h2 := p7 h
  have h3 : (fitO P L S).1 ≤ 0 + 7 ^ L := h1
  omega
set_option maxRecDepth 100000 in
set_option maxHeartbeats 4000000 in
theorem preM_body {G : VG} {d : Nat} {μ : VS} {X : VX} {P : PC} {L : Nat} {S κ : Nat → Nat} {I : Nat → PC} (hX : Cx G (d + 6) yX9_layPreached cX9_layPreached 4 (some .int) X) (hok : okP P) (hL7 : L ≤ 7) (T U_ : Nat → Nat) (a : FA) (ha31 : a.1 < 1000000) (hTU : ∀ i, i < L → T i = U_ i) (hg : sgs T L) (hN : (fun (T : Nat → Nat) (a : FA) => ∀ μ1, pI P L S κ I μ μ1 T a → (0 < a.1 → ∀ i, i < L → a.2.2 i < 1000) → V G 4 X 125 [(0, .ref 69), (1, .int (nI a.1))] [] μ1) T (fitG P L a U_)) : (fun (T : Nat → Nat) (a : FA) => ∀ μ1, pI P L S κ I μ μ1 T a → (0 < a.1 → ∀ i, i < L → a.2.2 i < 1000) → V G 4 X 21 [(0, .ref 69), (1, .int (nI a.1))] [] μ1) T a := by
  intro μ1 hI hab
  show V G 4 X 21 [(0, .ref 69), (1, .int (nI a.1))] [] μ1
  refine V_aload_n hX dX9_layPreached_21 0 rfl ?_
  refine V_callV (As := []) (st := []) hX mX9_188 rfl (kM_isCounted (μ0 := μ) (U_ := U_) hI.1 hok hL7 hTU hg (fun μ2 hO2 hm2 => ?_)) rfl (Nat.le_of_ble_eq_true rfl) (Nat.le_of_ble_eq_true rfl) dX9_layPreached_22
  show V G 4 X 25 [(0, .ref 69), (1, .int (nI a.1))] [.int (bI (fitB P U_ L (P 0 6) = true))] μ2
  have h33 : μ2.1 69 33 = nI (sm (fun i => i) a.2.1 L) := by rw [hm2.1 69 33 (by unfold mScr; omega)]; exact hI.2.1
  have h83 : 0 < a.1 → ∀ i, i < L → μ2.1 83 i = nI (a.2.2 i) := fun z i hi => by rw [hm2.1 83 i (by unfold mScr; omega)]; exact hI.2.2 z i hi
  refine V_if_eqB (tgt := 125) hX dX9_layPreached_25 (by decide) (fun c25 => ?_) (fun c25 => ?_)
  · have ha : fitG P L a U_ = a := if_neg c25
    rw [ha] at hN
    exact hN μ2 ⟨hO2, h33, h83⟩ hab
  · refine V_iconst (v := nI 0) hX dX9_layPreached_28 (by decide) ?_
    refine V_istore_n (ls' := [(0, .ref 69), (1, .int (nI a.1)), (3, .int (nI 0))]) hX dX9_layPreached_29 (by decide) rfl ?_
    have ha : fitG P L a U_ = fitA a U_ := if_pos c25
    rw [ha] at hN
    have hOU : oInv P L S κ I μ μ2 U_ := ⟨hO2.1, hO2.2.1, hO2.2.2.1, hO2.2.2.2.1, fun q hq => by rw [← hTU q hq]; exact hO2.2.2.2.2.1 q hq, hO2.2.2.2.2.2⟩
    have hJ0 : pkJ a U_ L 0 μ2 μ2 := ⟨⟨fun _ _ _ => rfl, fun _ _ => rfl, rfl⟩, by rw [pkF_0]; exact h33, fun i hi => absurd hi (by omega), fun _ _ => rfl⟩
    have hend : ∀ μ3, pkJ a U_ L L μ2 μ3 → pI P L S κ I μ μ3 T (fitA a U_) := fun μ3 hJ => ⟨hO2.pk hJ.1, by rw [hJ.2.1, pkF_n]; rfl, fun _ i hi => hJ.2.2.1 i hi⟩
    have hab2 : 0 < (fitA a U_).1 → ∀ i, i < L → (fitA a U_).2.2 i < 1000 := fun _ i hi => by
      show faF a U_ i < 1000
      unfold faF
      split
      · rw [← hTU i hi]; exact sg_lt (hg i hi)
      · exact hab (by omega) i hi
    by_cases h0 : a.1 = 0
    · rw [h0]
      refine lpM_fit0 (μ := μ2) hX hL7 hOU (fun i hi => by rw [← hTU i hi]; exact sg_lt (hg i hi)) (by omega) h0 h83 (fun μ3 hJ => ?_) (L + 1) 0 μ2 (by omega) (by omega) hJ0
      refine V_iincN (n := 1) (ls' := [(0, .ref 69), (1, .int (nI 1))]) hX dX9_layPreached_122 1 rfl (by decide) rfl ?_
      have h9 := hN μ3 (hend μ3 hJ) hab2
      rw [show (fitA a U_).1 = 0 + 1 from by show a.1 + 1 = _; rw [h0]] at h9
      exact h9
    · refine lpM_fit1 (μ := μ2) hX hL7 hOU (fun i hi => by rw [← hTU i hi]; exact sg_lt (hg i hi)) (by omega) h0 (hab (by omega)) h83 (fun μ3 hJ => ?_) (L + 1) 0 μ2 (by omega) (by omega) hJ0
      refine V_iincN (n := 1) (ls' := [(0, .ref 69), (1, .int (nI (a.1 + 1)))]) hX dX9_layPreached_122 1 rfl (by decide) rfl ?_
      have h9 := hN μ3 (hend μ3 hJ) hab2
      exact h9
set_option maxRecDepth 100000 in
set_option maxHeartbeats 4000000 in
theorem preM_next {G : VG} {d : Nat} {μ : VS} {X : VX} {P : PC} {L : Nat} {S κ : Nat → Nat} {I : Nat → PC} (hX : Cx G (d + 6) yX9_layPreached cX9_layPreached 4 (some .int) X) (hL7 : L ≤ 7) (T : Nat → Nat) (a : FA) (m : Nat) (hm : m + 1 < L) (hup : T m < T (m + 1)) (hd : dsc T (m + 1) L) (hg : sgs T L) (hN : ∀ T2, nx L m T T2 → (fun (T : Nat → Nat) (a : FA) => ∀ μ1, pI P L S κ I μ μ1 T a → (0 < a.1 → ∀ i, i < L → a.2.2 i < 1000) → V G 4 X 21 [(0, .ref 69), (1, .int (nI a.1))] [] μ1) T2 a) : (fun (T : Nat → Nat) (a : FA) => ∀ μ1, pI P L S κ I μ μ1 T a → (0 < a.1 → ∀ i, i < L → a.2.2 i < 1000) → V G 4 X 125 [(0, .ref 69), (1, .int (nI a.1))] [] μ1) T a := by
  intro μ1 hI hab
  show V G 4 X 125 [(0, .ref 69), (1, .int (nI a.1))] [] μ1
  refine V_aload_n hX dX9_layPreached_125 0 rfl ?_
  refine V_callV (As := []) (st := []) hX mX9_180 rfl (kM_goOnT (n_ := L) (T_ := T) (m_ := m) hI.1.2.2.2.1 hI.1.2.2.2.2.1 (by omega) (fun i hi => sg_lt (hg i hi)) hm hup hd (fun μ2 T2 hK2 hs2 hnx => ?_)) rfl (Nat.le_of_ble_eq_true rfl) (Nat.le_of_ble_eq_true rfl) dX9_layPreached_126
  show V G 4 X 129 [(0, .ref 69), (1, .int (nI a.1))] [.int (nI 1)] μ2
  refine V_istore_n (ls' := [(0, .ref 69), (1, .int (nI a.1)), (2, .int (nI 1))]) hX dX9_layPreached_129 (by decide) rfl ?_
  refine V_goto (tgt := 17) hX dX9_layPreached_130 (by decide) ?_
  refine V_iload_n hX dX9_layPreached_17 2 rfl ?_
  refine V_if_eqN (tgt := 133) hX dX9_layPreached_18 (by decide) (by omega) (fun c18 => ?_) (fun c18 => ?_)
  · exact absurd c18 (by decide)
  · exact V_sub [0, 1] rfl (hN T2 hnx μ2 ⟨hI.1.ser hK2 hs2, by rw [hK2.1 69 (by decide)]; exact hI.2.1, fun z i hi => by rw [hK2.1 83 (by decide)]; exact hI.2.2 z i hi⟩ hab)
set_option maxRecDepth 100000 in
set_option maxHeartbeats 4000000 in
theorem preM_end {G : VG} {d : Nat} {μ : VS} {Q : Option Value → VS → Prop} {X : VX} {P : PC} {L : Nat} {S κ : Nat → Nat} {I : Nat → PC} (hX : Cx G (d + 6) yX9_layPreached cX9_layPreached 4 (some .int) X) (hR : ∀ r μ', Q r μ' → Ret G X r μ') (hL7 : L ≤ 7) (T : Nat → Nat) (hd : dsc T 0 L) (hg : sgs T L) (hQ : ∀ μ', RM μ' P L S κ I → keepC μ μ' → μ'.1 69 33 = nI (sm (fun i => i) (fitO P L S).2.1 L) → (0 < (fitO P L S).1 → ∀ i, i < L → μ'.1 83 i = nI ((fitO P L S).2.2 i)) → Q (some (.int (nI (fitO P L S).1))) μ') : (fun (T : Nat → Nat) (a : FA) => ∀ μ1, pI P L S κ I μ μ1 T a → (0 < a.1 → ∀ i, i < L → a.2.2 i < 1000) → V G 4 X 125 [(0, .ref 69), (1, .int (nI a.1))] [] μ1) T (fitO P L S) := by
  intro μ1 hI hab
  show V G 4 X 125 [(0, .ref 69), (1, .int (nI ((fitO P L S).1)))] [] μ1
  refine V_aload_n hX dX9_layPreached_125 0 rfl ?_
  refine V_callV (As := []) (st := []) hX mX9_180 rfl (kM_goOnF (n_ := L) (T_ := T) hI.1.2.2.2.1 hI.1.2.2.2.2.1 (by omega) (fun i hi => sg_lt (hg i hi)) hd ?_) rfl (Nat.le_of_ble_eq_true rfl) (Nat.le_of_ble_eq_true rfl) dX9_layPreached_126
  show V G 4 X 129 [(0, .ref 69), (1, .int (nI ((fitO P L S).1)))] [.int (nI 0)] μ1
  refine V_istore_n (ls' := [(0, .ref 69), (1, .int (nI ((fitO P L S).1))), (2, .int (nI 0))]) hX dX9_layPreached_129 (by decide) rfl ?_
  refine V_goto (tgt := 17) hX dX9_layPreached_130 (by decide) ?_
  refine V_iload_n hX dX9_layPreached_17 2 rfl ?_
  refine V_if_eqN (tgt := 133) hX dX9_layPreached_18 (by decide) (by omega) (fun c18 => ?_) (fun c18 => ?_)
  · refine V_iload_n hX dX9_layPreached_133 1 rfl ?_
    refine V_iret hX rfl dX9_layPreached_134 ?_
    exact hR _ _ (hQ μ1 hI.1.1 hI.1.2.1 hI.2.1 hI.2.2)
  · exact absurd c18 (by decide)
set_option maxRecDepth 100000 in
set_option maxHeartbeats 4000000 in
theorem kM_layPreached {G : VG} {d : Nat} {μ : VS} {Q : Option Value → VS → Prop} {P : PC} {L : Nat} {S κ : Nat → Nat} {I : Nat → PC} (hRM : RM μ P L S κ I) (hok : okP P) (hpd : okPad L S) (hgS : sgs S L) (hL6 : L ≤ 6) (hQ : ∀ μ', RM μ' P L S κ I → keepC μ μ' → μ'.1 69 33 = nI (sm (fun i => i) (fitO P L S).2.1 L) → (0 < (fitO P L S).1 → ∀ i, i < L → μ'.1 83 i = nI ((fitO P L S).2.2 i)) → Q (some (.int (nI (fitO P L S).1))) μ') : Call G (d + 6) yX9_layPreached cX9_layPreached 4 (some .int) [.ref 69] μ Q := by
  intro X hX hR
  have hM := hRM.1
  have hL := hRM.2.1
  have hS := hpd.2
  have hL60 := hpd.1
  have hP4 := hok.2.2.2.2.1
  have h4 := hP4
  show V G 4 X 0 [(0, .ref 69)] [] μ
  refine V_aload_n hX dX9_layPreached_0 0 rfl ?_
  refine V_callV (As := []) (st := []) hX mX9_160 rfl (kM_lay hM hL hL60 (fun μ1 hLy hK1 => ?_)) rfl (Nat.le_of_ble_eq_true rfl) (Nat.le_of_ble_eq_true rfl) dX9_layPreached_1
  show V G 4 X 4 [(0, .ref 69)] [] μ1
  have hR1 := hRM.keep hK1
  have hO1 : oInv P L S κ I μ μ1 S := ⟨hR1, hK1.C, hLy.1, hLy.2.1, hLy.2.2.1, hLy.2.2.2⟩
  refine V_aload_n hX dX9_layPreached_4 0 rfl ?_
  refine V_callV (As := []) (st := []) hX mX9_176 rfl (kM_sort (n_ := L) (T_ := S) hLy.2.1 hLy.2.2.1 (by omega) (fun i hi => sg_lt (hgS i hi)) (fun μ2 T0 hK2 hs2 ha2 hc2 => ?_)) rfl (Nat.le_of_ble_eq_true rfl) (Nat.le_of_ble_eq_true rfl) dX9_layPreached_5
  show V G 4 X 8 [(0, .ref 69)] [] μ2
  refine V_iconst (v := nI 0) hX dX9_layPreached_8 (by decide) ?_
  refine V_istore_n (ls' := [(0, .ref 69), (1, .int (nI 0))]) hX dX9_layPreached_9 (by decide) rfl ?_
  refine V_aload_n hX dX9_layPreached_10 0 rfl ?_
  refine V_iconst (v := nI 0) hX dX9_layPreached_11 (by decide) ?_
  refine V_puti hX fX9_185 fw_8_33 rfl dX9_layPreached_12 ?_
  show V G 4 X 15 [(0, .ref 69), (1, .int (nI 0))] [] (vup μ2.1 69 33 (nI 0), μ2.2)
  refine V_iconst (v := nI 1) hX dX9_layPreached_15 (by decide) ?_
  refine V_istore_n (ls' := [(0, .ref 69), (1, .int (nI 0)), (2, .int (nI 1))]) hX dX9_layPreached_16 (by decide) rfl ?_
  refine V_iload_n hX dX9_layPreached_17 2 rfl ?_
  refine V_if_eqN (tgt := 133) hX dX9_layPreached_18 (by decide) (by omega) (fun c18 => ?_) (fun c18 => ?_)
  · exact absurd c18 (by decide)
  · refine V_sub [0, 1] rfl ?_
    have hO2 := hO1.ser hK2 hs2
    have hpk : pK μ2 (vup μ2.1 69 33 (nI 0), μ2.2) := ⟨fun a _ h2 => vup_row _ _ _ h2, fun k hk => by dsimp only; exact vup_ne hk, rfl⟩
    have hF := perm_fold (σ := FA) (arr := fitG P L) (n := L) (C := fun v => cv S v 0 L) (Hd := fun (T : Nat → Nat) (a : FA) => ∀ μ1, pI P L S κ I μ μ1 T a → (0 < a.1 → ∀ i, i < L → a.2.2 i < 1000) → V G 4 X 21 [(0, .ref 69), (1, .int (nI a.1))] [] μ1) (Gn := fun (T : Nat → Nat) (a : FA) => ∀ μ1, pI P L S κ I μ μ1 T a → (0 < a.1 → ∀ i, i < L → a.2.2 i < 1000) → V G 4 X 125 [(0, .ref 69), (1, .int (nI a.1))] [] μ1) (fun a => a.1) (0 + 7 ^ L) fitG_bd (fun T U_ a z0 z1 z2 z3 z4 => preM_body hX hok (by omega) T U_ a (by have := p7 hL6; omega) z1 z3 z4) (fun T a m z1 z2 z3 z4 z5 z6 => preM_next hX (by omega) T a m z1 z2 z3 z5 z6) L 0 (by omega) T0 S (fun k => cv S (kc k) 0 L) (0, fun _ => false, S) (fun i hi => absurd hi (by omega)) (fun k _ => hc2 (kc k)) hc2 (sgs_cv hgS hc2) ha2 (Nat.le_refl _) (fun T1 z1 z2 z3 z4 z5 => preM_end hX hR (by omega) T1 z5 z4 hQ)
    exact hF (vup μ2.1 69 33 (nI 0), μ2.2) ⟨hO2.pk hpk, by rw [show sm (fun i => i) (fun _ => false) L = 0 from sm0_iff.mpr (fun z => by obtain ⟨h, _, z2⟩ := anyB_iff.mp z; exact Bool.false_ne_true z2)]; dsimp only; exact vup_same _ _ _ _, fun z => absurd z (Nat.lt_irrefl _)⟩ (fun z => absurd z (Nat.lt_irrefl _))
set_option maxRecDepth 100000 in
set_option maxHeartbeats 4000000 in
theorem kM_preached {G : VG} {d : Nat} {μ : VS} {Q : Option Value → VS → Prop} {P : PC} {L : Nat} {S κ : Nat → Nat} {I : Nat → PC} {q_ : Int32} (hRM : RM μ P L S κ I) (hok : okP P) (hpd : okPad L S) (hQ : ∀ μ', RM μ' P L S κ I → keepC μ μ' → Q (some (.int (preS P L S q_))) μ') : Call G (d + 7) yX9_preached cX9_preached 3 (some .int) [.ref 69, .int q_] μ Q := by
  intro X hX hR
  have hM := hRM.1
  have hL := hRM.2.1
  have hS := hpd.2
  have hL60 := hpd.1
  have hP4 := hok.2.2.2.2.1
  have h4 := hP4
  show V G 3 X 0 [(0, .ref 69), (1, .int q_)] [] μ
  refine V_aload_n hX dX9_preached_0 0 rfl ?_
  refine V_callV (As := []) (st := []) hX mX9_109 rfl (kM_faultOf hL hS hL60 ?_) rfl (Nat.le_of_ble_eq_true rfl) (Nat.le_of_ble_eq_true rfl) dX9_preached_1
  show V G 3 X 4 [(0, .ref 69), (1, .int q_)] [.int (fltU S L)] μ
  refine V_if_lt (tgt := 10) hX dX9_preached_4 (by decide) (fun c4 => ?_) (fun c4 => ?_)
  · refine V_aload_n hX dX9_preached_10 0 rfl ?_
    refine V_getN (x := nI L) hX fX9_103 rfl hL.1 dX9_preached_11 ?_
    refine V_bipush (v := nI 6) hX dX9_preached_14 (by decide) ?_
    refine V_icmp_leN (tgt := 22) hX dX9_preached_16 (by decide) (by omega) (by omega) (fun c16 => ?_) (fun c16 => ?_)
    · have hf := flt_neg L (by omega) c4
      have hgS : sgs S L := flt_all L hf (by omega)
      have hbd := fitO_bd (P := P) (S := S) (L := L) (by omega)
      refine V_aload_n hX dX9_preached_22 0 rfl ?_
      refine V_callV (As := []) (st := []) hX mX9_191 rfl (kM_layPreached hRM hok hpd hgS (by omega) (fun μ2 hR2 hC2 h33 h83 => ?_)) rfl (Nat.le_of_ble_eq_true rfl) (Nat.le_of_ble_eq_true rfl) dX9_preached_23
      show V G 3 X 26 [(0, .ref 69), (1, .int q_)] [.int (nI ((fitO P L S).1))] μ2
      refine V_istore_n (ls' := [(0, .ref 69), (1, .int q_), (2, .int (nI ((fitO P L S).1)))]) hX dX9_preached_26 (by decide) rfl ?_
      refine V_iload_n hX dX9_preached_27 1 rfl ?_
      refine V_iconst (v := (-1)) hX dX9_preached_28 (by decide) ?_
      refine V_icmp_ne (tgt := 34) hX dX9_preached_29 (by decide) (fun c29 => ?_) (fun c29 => ?_)
      · refine V_iload_n hX dX9_preached_34 2 rfl ?_
        refine V_if_leN (tgt := 61) hX dX9_preached_35 (by decide) (by omega) (fun c35 => ?_) (fun c35 => ?_)
        · refine V_bipush (v := (-6)) hX dX9_preached_61 (by decide) ?_
          refine V_iret hX rfl dX9_preached_63 ?_
          have h9 := hQ μ2
          rw [show preS P L S q_ = _ from (if_pos hf).trans ((if_neg (by omega)).trans ((if_neg c29).trans (if_neg (fun z => by omega))))] at h9
          exact hR _ _ (h9 hR2 hC2)
        · refine V_iload_n hX dX9_preached_38 1 rfl ?_
          refine V_iconst (v := nI 0) hX dX9_preached_39 (by decide) ?_
          refine V_aload_n hX dX9_preached_40 0 rfl ?_
          refine V_getN (x := nI L) hX fX9_103 rfl hR2.2.1.1 dX9_preached_41 ?_
          refine V_iconst (v := nI 1) hX dX9_preached_44 (by decide) ?_
          refine V_isub hX dX9_preached_45 ?_
          refine V_callS (As := [.int q_, .int (nI 0), .int ((nI L) - (nI 1))]) (st := []) hX mX9_75 (k_in ?_) rfl (Nat.le_of_ble_eq_true rfl) (Nat.le_of_ble_eq_true rfl) dX9_preached_46
          show V G 3 X 49 [(0, .ref 69), (1, .int q_), (2, .int (nI ((fitO P L S).1)))] [.int (bI (nI 0 ≤ q_ ∧ q_ ≤ (nI L) - (nI 1)))] μ2
          refine V_if_eqB (tgt := 61) hX dX9_preached_49 (by decide) (fun c49 => ?_) (fun c49 => ?_)
          · refine V_bipush (v := (-6)) hX dX9_preached_61 (by decide) ?_
            refine V_iret hX rfl dX9_preached_63 ?_
            have h9 := hQ μ2
            rw [show preS P L S q_ = _ from (if_pos hf).trans ((if_neg (by omega)).trans ((if_neg c29).trans (if_neg (fun z => c49 z.2))))] at h9
            exact hR _ _ (h9 hR2 hC2)
          · obtain ⟨r_, hr, rfl⟩ := inM_nat (by omega) c49
            refine V_aload_n hX dX9_preached_52 0 rfl ?_
            refine V_getr (j := 83) hX fX9_59 rfl rfl dX9_preached_53 ?_
            refine V_iload_n hX dX9_preached_56 1 rfl ?_
            refine V_ialdN (x := nI ((fitO P L S).2.2 r_)) hX rfl (by omega) (by decide) (h83 (by omega) _ (by omega)) dX9_preached_57 ?_
            refine V_goto (tgt := 63) hX dX9_preached_58 (by decide) ?_
            refine V_iret hX rfl dX9_preached_63 ?_
            have h9 := hQ μ2
            rw [show preS P L S (nI r_) = _ from (if_pos hf).trans ((if_neg (by omega)).trans ((if_neg c29).trans (if_pos ⟨by omega, c49⟩))), nI_clamp (by omega)] at h9
            exact hR _ _ (h9 hR2 hC2)
      · refine V_iload_n hX dX9_preached_32 2 rfl ?_
        refine V_iret hX rfl dX9_preached_33 ?_
        have h9 := hQ μ2
        rw [show preS P L S q_ = _ from (if_pos hf).trans ((if_neg (by omega)).trans (if_pos c29))] at h9
        exact hR _ _ (h9 hR2 hC2)
    · refine V_bipush (v := (-4)) hX dX9_preached_19 (by decide) ?_
      refine V_iret hX rfl dX9_preached_21 ?_
      have h9 := hQ μ
      rw [show preS P L S q_ = _ from (if_pos (flt_neg L (by omega) c4)).trans (if_pos (by omega))] at h9
      exact hR _ _ (h9 hRM (keepC.rf μ))
  · refine V_bipush (v := (-5)) hX dX9_preached_7 (by decide) ?_
    refine V_iret hX rfl dX9_preached_9 ?_
    have h9 := hQ μ
    rw [show preS P L S q_ = _ from if_neg (flt_ge hL60 c4)] at h9
    exact hR _ _ (h9 hRM (keepC.rf μ))
set_option maxRecDepth 100000 in
set_option maxHeartbeats 4000000 in
theorem kM_surely {G : VG} {d : Nat} {μ : VS} {Q : Option Value → VS → Prop} {P : PC} {L : Nat} {S κ : Nat → Nat} {I : Nat → PC} (hRM : RM μ P L S κ I) (hok : okP P) (hpd : okPad L S) (hQ : ∀ μ', RM μ' P L S κ I → keepC μ μ' → Q (some (.int (surS P L S))) μ') : Call G (d + 7) yX9_surely cX9_surely 1 (some .int) [.ref 69] μ Q := by
  intro X hX hR
  have hM := hRM.1
  have hL := hRM.2.1
  have hS := hpd.2
  have hL60 := hpd.1
  have hP4 := hok.2.2.2.2.1
  have h4 := hP4
  show V G 1 X 0 [(0, .ref 69)] [] μ
  refine V_aload_n hX dX9_surely_0 0 rfl ?_
  refine V_callV (As := []) (st := []) hX mX9_109 rfl (kM_faultOf hL hS hL60 ?_) rfl (Nat.le_of_ble_eq_true rfl) (Nat.le_of_ble_eq_true rfl) dX9_surely_1
  show V G 1 X 4 [(0, .ref 69)] [.int (fltU S L)] μ
  refine V_if_lt (tgt := 10) hX dX9_surely_4 (by decide) (fun c4 => ?_) (fun c4 => ?_)
  · refine V_aload_n hX dX9_surely_10 0 rfl ?_
    refine V_getN (x := nI L) hX fX9_103 rfl hL.1 dX9_surely_11 ?_
    refine V_bipush (v := nI 6) hX dX9_surely_14 (by decide) ?_
    refine V_icmp_leN (tgt := 22) hX dX9_surely_16 (by decide) (by omega) (by omega) (fun c16 => ?_) (fun c16 => ?_)
    · have hf := flt_neg L (by omega) c4
      have hgS : sgs S L := flt_all L hf (by omega)
      have hbd := fitO_bd (P := P) (S := S) (L := L) (by omega)
      refine V_aload_n hX dX9_surely_22 0 rfl ?_
      refine V_callV (As := []) (st := []) hX mX9_191 rfl (kM_layPreached hRM hok hpd hgS (by omega) (fun μ2 hR2 hC2 h33 h83 => ?_)) rfl (Nat.le_of_ble_eq_true rfl) (Nat.le_of_ble_eq_true rfl) dX9_surely_23
      show V G 1 X 26 [(0, .ref 69)] [.int (nI ((fitO P L S).1))] μ2
      refine V_if_neN (tgt := 33) hX dX9_surely_26 (by decide) (by omega) (fun c26 => ?_) (fun c26 => ?_)
      · refine V_aload_n hX dX9_surely_33 0 rfl ?_
        refine V_getN (x := nI (sm (fun i => i) (fitO P L S).2.1 L)) hX fX9_185 rfl h33 dX9_surely_34 ?_
        refine V_iret hX rfl dX9_surely_37 ?_
        have h9 := hQ μ2
        rw [show surS P L S = _ from (if_pos hf).trans ((if_neg (by omega)).trans (congrArg nI (if_neg c26)))] at h9
        exact hR _ _ (h9 hR2 hC2)
      · refine V_iconst (v := nI 0) hX dX9_surely_29 (by decide) ?_
        refine V_goto (tgt := 37) hX dX9_surely_30 (by decide) ?_
        refine V_iret hX rfl dX9_surely_37 ?_
        have h9 := hQ μ2
        rw [show surS P L S = _ from (if_pos hf).trans ((if_neg (by omega)).trans (congrArg nI (if_pos c26)))] at h9
        exact hR _ _ (h9 hR2 hC2)
    · refine V_bipush (v := (-4)) hX dX9_surely_19 (by decide) ?_
      refine V_iret hX rfl dX9_surely_21 ?_
      have h9 := hQ μ
      rw [show surS P L S = _ from (if_pos (flt_neg L (by omega) c4)).trans (if_pos (by omega))] at h9
      exact hR _ _ (h9 hRM (keepC.rf μ))
  · refine V_bipush (v := (-5)) hX dX9_surely_7 (by decide) ?_
    refine V_iret hX rfl dX9_surely_9 ?_
    have h9 := hQ μ
    rw [show surS P L S = _ from if_neg (flt_ge hL60 c4)] at h9
    exact hR _ _ (h9 hRM (keepC.rf μ))
