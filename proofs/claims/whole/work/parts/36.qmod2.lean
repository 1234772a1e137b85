def fD (f : Nat → Bool) (k L : Nat) (v : Int32) : Prop := (∃ i, k ≤ i ∧ i < L ∧ f i = true ∧ (∀ q, k ≤ q → q < i → ¬ f q = true) ∧ v = nI i) ∨ ((∀ i, k ≤ i → i < L → ¬ f i = true) ∧ v = -6)
theorem fD.end {f : Nat → Bool} {L : Nat} {v : Int32} (hL : L < 1000) (h : fD f 0 L v) : fstU f L = v := by
  rcases h with ⟨i, -, h2, h3, h4, rfl⟩ | ⟨h1, rfl⟩
  · exact fst_at L h2 hL (fun q hq => h4 q (Nat.zero_le _) hq) h3
  · exact fst_none L (fun i hi => h1 i (Nat.zero_le _) hi)
theorem fD.yes {f : Nat → Bool} {k L : Nat} (hk : k < L) (h : f k = true) : fD f k L (nI k) := Or.inl ⟨k, Nat.le_refl _, hk, h, fun q h1 h2 => absurd h2 (by omega), rfl⟩
theorem fD.no {f : Nat → Bool} {k L : Nat} {v : Int32} (h0 : fD f (k + 1) L v) (h : ¬ f k = true) : fD f k L v := by
  rcases h0 with ⟨i, h1, h2, h3, h4, h5⟩ | ⟨h1, h5⟩
  · refine Or.inl ⟨i, by omega, h2, h3, fun q q1 q2 => ?_, h5⟩
    by_cases e : q = k
    · rw [e]; exact h
    · exact h4 q (by omega) q2
  · refine Or.inr ⟨fun i i1 i2 => ?_, h5⟩
    by_cases e : i = k
    · rw [e]; exact h
    · exact h1 i (by omega) i2
set_option maxRecDepth 100000 in
set_option maxHeartbeats 4000000 in
theorem lpM_first0 {G : VG} {d : Nat} {Q : Option Value → VS → Prop} {X : VX} {P : PC} {L : Nat} {S : Nat → Nat} {μ1 μ2 : VS} (hX : Cx G (d + 5) yX9_first cX9_first 4 (some .int) X) (hR : ∀ r μ', Q r μ' → Ret G X r μ') (hpd : okPad L S) (hp : prR P S noC μ1 μ2 L) (hQ : Q (some (.int (fstU (evB P S 0) L))) μ2) : ∀ (k_ : Nat) (fv_ : Int32), k_ ≤ L → fD (evB P S 0) k_ L fv_ → V G 4 X 44 [(0, .ref 69), (1, .int (nI 0)), (2, .int fv_), (3, .int (zI ((k_ : Int) - 1)))] [] μ2 := by
  have hL60 := hpd.1
  intro k_
  induction k_ with
  | zero =>
    intro fv_ h1 hfD
    refine V_iload_n hX dX9_first_44 3 rfl ?_
    refine V_if_lt (tgt := 82) hX dX9_first_45 (by decide) (fun c45 => ?_) (fun c45 => ?_)
    · refine V_iload_n hX dX9_first_82 2 rfl ?_
      refine V_iret hX rfl dX9_first_83 ?_
      exact hR _ _ (by rw [hfD.end (by omega)] at hQ; exact hQ)
    · exact absurd (by decide) c45
  | succ q_ ih =>
    intro fv_ h1 hfD
    refine V_iload_n hX dX9_first_44 3 rfl ?_
    refine V_if_lt (tgt := 82) hX dX9_first_45 (by decide) (fun c45 => ?_) (fun c45 => ?_)
    · exact absurd c45 (by rw [show zI (((q_ + 1 : Nat) : Int) - 1) = nI q_ from by rw [zI_nat]; congr 1; omega]; exact nI_pos (by omega))
    · rw [show zI (((q_ + 1 : Nat) : Int) - 1) = nI q_ from by rw [zI_nat]; congr 1; omega]
      refine V_iload_n hX dX9_first_48 1 rfl ?_
      refine V_if_neN (tgt := 61) hX dX9_first_49 (by decide) (by first | omega | (have := sm_lt8 (nodF P (lAt P S q_)) (n := 8) (by decide); omega) | (have := sm_lt8 (snoF P (nodF P (lAt P S q_))) (n := 8) (by decide); omega)) (fun c49 => ?_) (fun c49 => ?_)
      · exact absurd c49 (by decide)
      · refine V_aload_n hX dX9_first_52 0 rfl ?_
        refine V_getr (j := 79) hX fX9_47 rfl rfl dX9_first_53 ?_
        refine V_iload_n hX dX9_first_56 3 rfl ?_
        refine V_ialdN (x := nI (sm (fun h => h) (nodF P (lAt P S q_)) 8)) hX rfl (by first | omega | (have := sm_lt8 (nodF P (lAt P S q_)) (n := 8) (by decide); omega) | (have := sm_lt8 (snoF P (nodF P (lAt P S q_))) (n := 8) (by decide); omega)) (by decide) (hp.2.2.2.2.1 q_ (by omega)).1 dX9_first_57 ?_
        refine V_goto (tgt := 67) hX dX9_first_58 (by decide) ?_
        refine V_if_eqN (tgt := 74) hX dX9_first_67 (by decide) (by first | omega | (have := sm_lt8 (nodF P (lAt P S q_)) (n := 8) (by decide); omega) | (have := sm_lt8 (snoF P (nodF P (lAt P S q_))) (n := 8) (by decide); omega)) (fun c67 => ?_) (fun c67 => ?_)
        · refine V_iload_n hX dX9_first_74 2 rfl ?_
          refine V_istore_n (ls' := [(0, .ref 69), (1, .int (nI 0)), (2, .int fv_), (3, .int (nI q_))]) hX dX9_first_75 (by decide) rfl ?_
          refine V_iinc (v := -1) (ls' := [(0, .ref 69), (1, .int (nI 0)), (2, .int fv_), (3, .int ((nI q_) + (-1)))]) hX dX9_first_76 3 rfl (by decide) (by decide) rfl ?_
          refine V_goto (tgt := 44) hX dX9_first_79 (by decide) ?_
          have h9 := ih fv_ (by omega) (hfD.no (sm0_iff.mp c67))
          rw [show zI ((q_ : Int) - 1) = nI q_ + (-1) from by rw [zI_nat, show (-1 : Int32) = zI (-1) from rfl, zI_add]; rfl] at h9
          exact h9
        · refine V_iload_n hX dX9_first_70 3 rfl ?_
          refine V_goto (tgt := 75) hX dX9_first_71 (by decide) ?_
          refine V_istore_n (ls' := [(0, .ref 69), (1, .int (nI 0)), (2, .int (nI q_)), (3, .int (nI q_))]) hX dX9_first_75 (by decide) rfl ?_
          refine V_iinc (v := -1) (ls' := [(0, .ref 69), (1, .int (nI 0)), (2, .int (nI q_)), (3, .int ((nI q_) + (-1)))]) hX dX9_first_76 3 rfl (by decide) (by decide) rfl ?_
          refine V_goto (tgt := 44) hX dX9_first_79 (by decide) ?_
          have h9 := ih (nI q_) (by omega) (fD.yes (by omega) (Decidable.not_not.mp (fun z => c67 (sm0_iff.mpr z))))
          rw [show zI ((q_ : Int) - 1) = nI q_ + (-1) from by rw [zI_nat, show (-1 : Int32) = zI (-1) from rfl, zI_add]; rfl] at h9
          exact h9
set_option maxRecDepth 100000 in
set_option maxHeartbeats 4000000 in
theorem kM_first0 {G : VG} {d : Nat} {μ : VS} {Q : Option Value → VS → Prop} {P : PC} {L : Nat} {S κ : Nat → Nat} {I : Nat → PC} (hRM : RM μ P L S κ I) (hok : okP P) (hpd : okPad L S) (hQ : ∀ μ', RM μ' P L S κ I → keepC μ μ' → Q (some (.int (firstS P L S (nI 0)))) μ') : Call G (d + 6) yX9_first cX9_first 4 (some .int) [.ref 69, .int (nI 0)] μ Q := by
  intro X hX hR
  have hM := hRM.1
  have hL := hRM.2.1
  have hS := hpd.2
  have hL60 := hpd.1
  have hP4 := hok.2.2.2.2.1
  have h4 := hP4
  show V G 4 X 0 [(0, .ref 69), (1, .int (nI 0))] [] μ
  refine V_iload_n hX dX9_first_0 1 rfl ?_
  refine V_iconst (v := nI 0) hX dX9_first_1 (by decide) ?_
  refine V_iconst (v := nI 1) hX dX9_first_2 (by decide) ?_
  refine V_callS (As := [.int (nI 0), .int (nI 0), .int (nI 1)]) (st := []) hX mX9_75 (k_in ?_) rfl (Nat.le_of_ble_eq_true rfl) (Nat.le_of_ble_eq_true rfl) dX9_first_3
  show V G 4 X 6 [(0, .ref 69), (1, .int (nI 0))] [.int (bI (nI 0 ≤ nI 0 ∧ nI 0 ≤ nI 1))] μ
  refine V_if_neB (tgt := 12) hX dX9_first_6 (by decide) (fun c6 => ?_) (fun c6 => ?_)
  · refine V_aload_n hX dX9_first_12 0 rfl ?_
    refine V_callV (As := []) (st := []) hX mX9_109 rfl (kM_faultOf hL hS hL60 ?_) rfl (Nat.le_of_ble_eq_true rfl) (Nat.le_of_ble_eq_true rfl) dX9_first_13
    show V G 4 X 16 [(0, .ref 69), (1, .int (nI 0))] [.int (fltU S L)] μ
    refine V_if_lt (tgt := 22) hX dX9_first_16 (by decide) (fun c16 => ?_) (fun c16 => ?_)
    · refine V_aload_n hX dX9_first_22 0 rfl ?_
      refine V_callV (As := []) (st := []) hX mX9_160 rfl (kM_lay hM hL hL60 (fun μ1 hLy hK1 => ?_)) rfl (Nat.le_of_ble_eq_true rfl) (Nat.le_of_ble_eq_true rfl) dX9_first_23
      show V G 4 X 26 [(0, .ref 69), (1, .int (nI 0))] [] μ1
      have hR1 := hRM.keep hK1
      refine V_aload_n hX dX9_first_26 0 rfl ?_
      refine V_aload_n hX dX9_first_27 0 rfl ?_
      refine V_getN (x := nI L) hX fX9_103 rfl hR1.2.1.1 dX9_first_28 ?_
      refine V_callV (As := [.int (nI L)]) (st := []) hX mX9_163 rfl (kM_preach (sg_ := S) (cb_ := noC) (cm_ := 0) hLy.1 hok hLy.2.2.2 (by omega) (fun i hi => hLy.2.2.1 i (by omega)) (fun i hi => by have := hS i (by omega); omega) (fun i _ => Or.inr ⟨rfl, rfl⟩) (fun μ2 hp => ?_)) rfl (Nat.le_of_ble_eq_true rfl) (Nat.le_of_ble_eq_true rfl) dX9_first_31
      show V G 4 X 34 [(0, .ref 69), (1, .int (nI 0))] [] μ2
      have hR2 := hR1.keep hp.1.keep
      have hC2 : keepC μ μ2 := (hK1.tr hp.1.keep).C
      refine V_bipush (v := (-6)) hX dX9_first_34 (by decide) ?_
      refine V_istore_n (ls' := [(0, .ref 69), (1, .int (nI 0)), (2, .int (-6))]) hX dX9_first_36 (by decide) rfl ?_
      refine V_aload_n hX dX9_first_37 0 rfl ?_
      refine V_getN (x := nI L) hX fX9_103 rfl hR2.2.1.1 dX9_first_38 ?_
      refine V_iconst (v := nI 1) hX dX9_first_41 (by decide) ?_
      refine V_isub hX dX9_first_42 ?_
      refine V_istore_n (ls' := [(0, .ref 69), (1, .int (nI 0)), (2, .int (-6)), (3, .int ((nI L) - (nI 1)))]) hX dX9_first_43 (by decide) rfl ?_
      have h8 := lpM_first0 (μ1 := μ1) hX hR hpd hp (by have h9 := hQ μ2; rw [show firstS P L S (nI 0) = _ from (if_pos c6).trans (if_pos (flt_neg L (by omega) c16)), show (nI 0).toNatClampNeg = 0 from nI_clamp (by decide)] at h9; exact h9 hR2 hC2) L (-6) (by omega) (Or.inr ⟨fun i i1 i2 => absurd i2 (by omega), rfl⟩)
      rw [← sub1_z] at h8
      exact h8
    · refine V_bipush (v := (-5)) hX dX9_first_19 (by decide) ?_
      refine V_iret hX rfl dX9_first_21 ?_
      have h9 := hQ μ
      rw [show firstS P L S (nI 0) = -5 from (if_pos c6).trans (if_neg (flt_ge hL60 c16))] at h9
      exact hR _ _ (h9 hRM (keepC.rf μ))
  · refine V_bipush (v := (-2)) hX dX9_first_9 (by decide) ?_
    refine V_iret hX rfl dX9_first_11 ?_
    exact absurd (by decide) c6
set_option maxRecDepth 100000 in
set_option maxHeartbeats 4000000 in
theorem lpM_first1 {G : VG} {d : Nat} {Q : Option Value → VS → Prop} {X : VX} {P : PC} {L : Nat} {S : Nat → Nat} {μ1 μ2 : VS} (hX : Cx G (d + 5) yX9_first cX9_first 4 (some .int) X) (hR : ∀ r μ', Q r μ' → Ret G X r μ') (hpd : okPad L S) (hp : prR P S noC μ1 μ2 L) (hQ : Q (some (.int (fstU (evB P S 1) L))) μ2) : ∀ (k_ : Nat) (fv_ : Int32), k_ ≤ L → fD (evB P S 1) k_ L fv_ → V G 4 X 44 [(0, .ref 69), (1, .int (nI 1)), (2, .int fv_), (3, .int (zI ((k_ : Int) - 1)))] [] μ2 := by
  have hL60 := hpd.1
  intro k_
  induction k_ with
  | zero =>
    intro fv_ h1 hfD
    refine V_iload_n hX dX9_first_44 3 rfl ?_
    refine V_if_lt (tgt := 82) hX dX9_first_45 (by decide) (fun c45 => ?_) (fun c45 => ?_)
    · refine V_iload_n hX dX9_first_82 2 rfl ?_
      refine V_iret hX rfl dX9_first_83 ?_
      exact hR _ _ (by rw [hfD.end (by omega)] at hQ; exact hQ)
    · exact absurd (by decide) c45
  | succ q_ ih =>
    intro fv_ h1 hfD
    refine V_iload_n hX dX9_first_44 3 rfl ?_
    refine V_if_lt (tgt := 82) hX dX9_first_45 (by decide) (fun c45 => ?_) (fun c45 => ?_)
    · exact absurd c45 (by rw [show zI (((q_ + 1 : Nat) : Int) - 1) = nI q_ from by rw [zI_nat]; congr 1; omega]; exact nI_pos (by omega))
    · rw [show zI (((q_ + 1 : Nat) : Int) - 1) = nI q_ from by rw [zI_nat]; congr 1; omega]
      refine V_iload_n hX dX9_first_48 1 rfl ?_
      refine V_if_neN (tgt := 61) hX dX9_first_49 (by decide) (by first | omega | (have := sm_lt8 (nodF P (lAt P S q_)) (n := 8) (by decide); omega) | (have := sm_lt8 (snoF P (nodF P (lAt P S q_))) (n := 8) (by decide); omega)) (fun c49 => ?_) (fun c49 => ?_)
      · refine V_aload_n hX dX9_first_61 0 rfl ?_
        refine V_getr (j := 81) hX fX9_53 rfl rfl dX9_first_62 ?_
        refine V_iload_n hX dX9_first_65 3 rfl ?_
        refine V_ialdN (x := nI (sm (fun h => h) (snoF P (nodF P (lAt P S q_))) 8)) hX rfl (by first | omega | (have := sm_lt8 (nodF P (lAt P S q_)) (n := 8) (by decide); omega) | (have := sm_lt8 (snoF P (nodF P (lAt P S q_))) (n := 8) (by decide); omega)) (by decide) (hp.2.2.2.2.1 q_ (by omega)).2.2 dX9_first_66 ?_
        refine V_if_eqN (tgt := 74) hX dX9_first_67 (by decide) (by first | omega | (have := sm_lt8 (nodF P (lAt P S q_)) (n := 8) (by decide); omega) | (have := sm_lt8 (snoF P (nodF P (lAt P S q_))) (n := 8) (by decide); omega)) (fun c67 => ?_) (fun c67 => ?_)
        · refine V_iload_n hX dX9_first_74 2 rfl ?_
          refine V_istore_n (ls' := [(0, .ref 69), (1, .int (nI 1)), (2, .int fv_), (3, .int (nI q_))]) hX dX9_first_75 (by decide) rfl ?_
          refine V_iinc (v := -1) (ls' := [(0, .ref 69), (1, .int (nI 1)), (2, .int fv_), (3, .int ((nI q_) + (-1)))]) hX dX9_first_76 3 rfl (by decide) (by decide) rfl ?_
          refine V_goto (tgt := 44) hX dX9_first_79 (by decide) ?_
          have h9 := ih fv_ (by omega) (hfD.no (sm0_iff.mp c67))
          rw [show zI ((q_ : Int) - 1) = nI q_ + (-1) from by rw [zI_nat, show (-1 : Int32) = zI (-1) from rfl, zI_add]; rfl] at h9
          exact h9
        · refine V_iload_n hX dX9_first_70 3 rfl ?_
          refine V_goto (tgt := 75) hX dX9_first_71 (by decide) ?_
          refine V_istore_n (ls' := [(0, .ref 69), (1, .int (nI 1)), (2, .int (nI q_)), (3, .int (nI q_))]) hX dX9_first_75 (by decide) rfl ?_
          refine V_iinc (v := -1) (ls' := [(0, .ref 69), (1, .int (nI 1)), (2, .int (nI q_)), (3, .int ((nI q_) + (-1)))]) hX dX9_first_76 3 rfl (by decide) (by decide) rfl ?_
          refine V_goto (tgt := 44) hX dX9_first_79 (by decide) ?_
          have h9 := ih (nI q_) (by omega) (fD.yes (by omega) (Decidable.not_not.mp (fun z => c67 (sm0_iff.mpr z))))
          rw [show zI ((q_ : Int) - 1) = nI q_ + (-1) from by rw [zI_nat, show (-1 : Int32) = zI (-1) from rfl, zI_add]; rfl] at h9
          exact h9
      · exact absurd c49 (by decide)
set_option maxRecDepth 100000 in
set_option maxHeartbeats 4000000 in
theorem kM_first1 {G : VG} {d : Nat} {μ : VS} {Q : Option Value → VS → Prop} {P : PC} {L : Nat} {S κ : Nat → Nat} {I : Nat → PC} (hRM : RM μ P L S κ I) (hok : okP P) (hpd : okPad L S) (hQ : ∀ μ', RM μ' P L S κ I → keepC μ μ' → Q (some (.int (firstS P L S (nI 1)))) μ') : Call G (d + 6) yX9_first cX9_first 4 (some .int) [.ref 69, .int (nI 1)] μ Q := by
  intro X hX hR
  have hM := hRM.1
  have hL := hRM.2.1
  have hS := hpd.2
  have hL60 := hpd.1
  have hP4 := hok.2.2.2.2.1
  have h4 := hP4
  show V G 4 X 0 [(0, .ref 69), (1, .int (nI 1))] [] μ
  refine V_iload_n hX dX9_first_0 1 rfl ?_
  refine V_iconst (v := nI 0) hX dX9_first_1 (by decide) ?_
  refine V_iconst (v := nI 1) hX dX9_first_2 (by decide) ?_
  refine V_callS (As := [.int (nI 1), .int (nI 0), .int (nI 1)]) (st := []) hX mX9_75 (k_in ?_) rfl (Nat.le_of_ble_eq_true rfl) (Nat.le_of_ble_eq_true rfl) dX9_first_3
  show V G 4 X 6 [(0, .ref 69), (1, .int (nI 1))] [.int (bI (nI 0 ≤ nI 1 ∧ nI 1 ≤ nI 1))] μ
  refine V_if_neB (tgt := 12) hX dX9_first_6 (by decide) (fun c6 => ?_) (fun c6 => ?_)
  · refine V_aload_n hX dX9_first_12 0 rfl ?_
    refine V_callV (As := []) (st := []) hX mX9_109 rfl (kM_faultOf hL hS hL60 ?_) rfl (Nat.le_of_ble_eq_true rfl) (Nat.le_of_ble_eq_true rfl) dX9_first_13
    show V G 4 X 16 [(0, .ref 69), (1, .int (nI 1))] [.int (fltU S L)] μ
    refine V_if_lt (tgt := 22) hX dX9_first_16 (by decide) (fun c16 => ?_) (fun c16 => ?_)
    · refine V_aload_n hX dX9_first_22 0 rfl ?_
      refine V_callV (As := []) (st := []) hX mX9_160 rfl (kM_lay hM hL hL60 (fun μ1 hLy hK1 => ?_)) rfl (Nat.le_of_ble_eq_true rfl) (Nat.le_of_ble_eq_true rfl) dX9_first_23
      show V G 4 X 26 [(0, .ref 69), (1, .int (nI 1))] [] μ1
      have hR1 := hRM.keep hK1
      refine V_aload_n hX dX9_first_26 0 rfl ?_
      refine V_aload_n hX dX9_first_27 0 rfl ?_
      refine V_getN (x := nI L) hX fX9_103 rfl hR1.2.1.1 dX9_first_28 ?_
      refine V_callV (As := [.int (nI L)]) (st := []) hX mX9_163 rfl (kM_preach (sg_ := S) (cb_ := noC) (cm_ := 0) hLy.1 hok hLy.2.2.2 (by omega) (fun i hi => hLy.2.2.1 i (by omega)) (fun i hi => by have := hS i (by omega); omega) (fun i _ => Or.inr ⟨rfl, rfl⟩) (fun μ2 hp => ?_)) rfl (Nat.le_of_ble_eq_true rfl) (Nat.le_of_ble_eq_true rfl) dX9_first_31
      show V G 4 X 34 [(0, .ref 69), (1, .int (nI 1))] [] μ2
      have hR2 := hR1.keep hp.1.keep
      have hC2 : keepC μ μ2 := (hK1.tr hp.1.keep).C
      refine V_bipush (v := (-6)) hX dX9_first_34 (by decide) ?_
      refine V_istore_n (ls' := [(0, .ref 69), (1, .int (nI 1)), (2, .int (-6))]) hX dX9_first_36 (by decide) rfl ?_
      refine V_aload_n hX dX9_first_37 0 rfl ?_
      refine V_getN (x := nI L) hX fX9_103 rfl hR2.2.1.1 dX9_first_38 ?_
      refine V_iconst (v := nI 1) hX dX9_first_41 (by decide) ?_
      refine V_isub hX dX9_first_42 ?_
      refine V_istore_n (ls' := [(0, .ref 69), (1, .int (nI 1)), (2, .int (-6)), (3, .int ((nI L) - (nI 1)))]) hX dX9_first_43 (by decide) rfl ?_
      have h8 := lpM_first1 (μ1 := μ1) hX hR hpd hp (by have h9 := hQ μ2; rw [show firstS P L S (nI 1) = _ from (if_pos c6).trans (if_pos (flt_neg L (by omega) c16)), show (nI 1).toNatClampNeg = 1 from nI_clamp (by decide)] at h9; exact h9 hR2 hC2) L (-6) (by omega) (Or.inr ⟨fun i i1 i2 => absurd i2 (by omega), rfl⟩)
      rw [← sub1_z] at h8
      exact h8
    · refine V_bipush (v := (-5)) hX dX9_first_19 (by decide) ?_
      refine V_iret hX rfl dX9_first_21 ?_
      have h9 := hQ μ
      rw [show firstS P L S (nI 1) = -5 from (if_pos c6).trans (if_neg (flt_ge hL60 c16))] at h9
      exact hR _ _ (h9 hRM (keepC.rf μ))
  · refine V_bipush (v := (-2)) hX dX9_first_9 (by decide) ?_
    refine V_iret hX rfl dX9_first_11 ?_
    exact absurd (by decide) c6
set_option maxRecDepth 100000 in
set_option maxHeartbeats 4000000 in
theorem kM_first2 {G : VG} {d : Nat} {μ : VS} {Q : Option Value → VS → Prop} {P : PC} {L : Nat} {S κ : Nat → Nat} {I : Nat → PC} {w_ : Int32} (hw : ¬ inZ w_ 0 1) (hRM : RM μ P L S κ I) (hok : okP P) (hpd : okPad L S) (hQ : ∀ μ', RM μ' P L S κ I → keepC μ μ' → Q (some (.int (firstS P L S w_))) μ') : Call G (d + 6) yX9_first cX9_first 4 (some .int) [.ref 69, .int w_] μ Q := by
  intro X hX hR
  have hM := hRM.1
  have hL := hRM.2.1
  have hS := hpd.2
  have hL60 := hpd.1
  have hP4 := hok.2.2.2.2.1
  have h4 := hP4
  show V G 4 X 0 [(0, .ref 69), (1, .int w_)] [] μ
  refine V_iload_n hX dX9_first_0 1 rfl ?_
  refine V_iconst (v := nI 0) hX dX9_first_1 (by decide) ?_
  refine V_iconst (v := nI 1) hX dX9_first_2 (by decide) ?_
  refine V_callS (As := [.int w_, .int (nI 0), .int (nI 1)]) (st := []) hX mX9_75 (k_in ?_) rfl (Nat.le_of_ble_eq_true rfl) (Nat.le_of_ble_eq_true rfl) dX9_first_3
  show V G 4 X 6 [(0, .ref 69), (1, .int w_)] [.int (bI (nI 0 ≤ w_ ∧ w_ ≤ nI 1))] μ
  refine V_if_neB (tgt := 12) hX dX9_first_6 (by decide) (fun c6 => ?_) (fun c6 => ?_)
  · exact absurd c6 hw
  · refine V_bipush (v := (-2)) hX dX9_first_9 (by decide) ?_
    refine V_iret hX rfl dX9_first_11 ?_
    have h9 := hQ μ
    rw [show firstS P L S w_ = -2 from if_neg hw] at h9
    exact hR _ _ (h9 hRM (keepC.rf μ))
theorem kM_first {G : VG} {d : Nat} {μ : VS} {Q : Option Value → VS → Prop} {P : PC} {L : Nat} {S κ : Nat → Nat} {I : Nat → PC} {w_ : Int32} (hRM : RM μ P L S κ I) (hok : okP P) (hpd : okPad L S)  (hQ : ∀ μ', RM μ' P L S κ I → keepC μ μ' → Q (some (.int (firstS P L S w_))) μ') : Call G (d + 6) yX9_first cX9_first 4 (some .int) [.ref 69, .int w_] μ Q := by
  by_cases hw : inZ w_ 0 1
  · obtain ⟨j, -, hj, rfl⟩ := nat_of_in (by decide) (by decide) hw
    rcases (by omega : j = 0 ∨ j = 1) with e | e <;> subst e
    · exact kM_first0 hRM hok hpd hQ
    · exact kM_first1 hRM hok hpd hQ
  · exact kM_first2 hw hRM hok hpd hQ
