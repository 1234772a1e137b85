theorem sm0_iff {s : Nat → Nat} {f : Nat → Bool} {n : Nat} : sm s f n = 0 ↔ ¬ anyB f n = true := by
  constructor
  · intro e z
    obtain ⟨h, h1, h2⟩ := anyB_iff.mp z
    exact sm0_no e h1 h2
  · intro z
    apply Nat.eq_of_testBit_eq
    intro i
    rw [Nat.zero_testBit]
    cases q : (sm s f n).testBit i with
    | false => rfl
    | true =>
      obtain ⟨h, h1, h2, -⟩ := sm_iff.mp q
      exact absurd (anyB_iff.mpr ⟨h, h1, h2⟩) z
set_option maxRecDepth 100000 in
set_option maxHeartbeats 4000000 in
theorem lpC_first0 {G : VG} {d : Nat} {μ : VS} {Q : Option Value → VS → Prop} {X : VX} {P : PC} {L : Nat} {S κ : Nat → Nat} {I : Nat → PC} (hX : Cx G (d + 4) yX8_first cX8_first 4 (some .int) X) (hR : ∀ r μ', Q r μ' → Ret G X r μ') (hok : okP P) (hpd : okPad L S)  (hQ : ∀ μ', RC μ' P L S κ I → keepM μ μ' → Q (some (.int (fstU (evB P S 0) L))) μ') : ∀ (j k_ : Nat) (μ1 : VS), k_ ≤ L → L + 1 ≤ k_ + j → RC μ1 P L S κ I → keepM μ μ1 → isW μ1 34 (uAt P S k_) → (∀ i, i < k_ → ¬ evB P S 0 i = true) → V G 4 X 33 [(0, .ref 0), (1, .int (nI 0)), (2, .ref 34), (3, .int (nI k_))] [] μ1 := by
  have hS := hpd.2
  have hL60 := hpd.1
  have h12 : ∀ h, h < 8 → P 1 h < 12 := fun h hh => (hok.2.2.2.2.2.2.2.1 h hh).1
  intro j
  induction j with
  | zero =>
    intro k_ μ1 h1 h2
    exact absurd h2 (by omega)
  | succ j ih =>
    intro k_ μ1 h1 h2 hR1 hM1 hU1 hno
    have hLx := hR1.2.1
    refine V_iload_n hX dX8_first_33 3 rfl ?_
    refine V_aload_n hX dX8_first_34 0 rfl ?_
    refine V_getr (j := 31) hX fX8_30 rfl rfl dX8_first_35 ?_
    refine V_getN (x := nI L) hX fX8_128 rfl hLx.1 dX8_first_38 ?_
    refine V_icmp_geN (tgt := 88) hX dX8_first_41 (by decide) (by first | omega | (have := sm_lt12 h12 (nodF P (lAt P S k_)) (n := 8) (by decide); omega) | (have := sm_lt12 h12 (snoF P (nodF P (lAt P S k_))) (n := 8) (by decide); omega)) (by first | omega | (have := sm_lt12 h12 (nodF P (lAt P S k_)) (n := 8) (by decide); omega) | (have := sm_lt12 h12 (snoF P (nodF P (lAt P S k_))) (n := 8) (by decide); omega)) (fun c41 => ?_) (fun c41 => ?_)
    · refine V_bipush (v := (-6)) hX dX8_first_88 (by decide) ?_
      refine V_iret hX rfl dX8_first_90 ?_
      exact hR _ _ (by have h9 := hQ μ1 hR1 hM1; rw [fst_none L (fun i hi => hno i (by omega))] at h9; exact h9)
    · refine V_aload_n hX dX8_first_44 2 rfl ?_
      refine V_aload_n hX dX8_first_45 0 rfl ?_
      refine V_getr (j := 1) hX fX8_10 rfl rfl dX8_first_46 ?_
      refine V_aload_n hX dX8_first_49 0 rfl ?_
      refine V_getr (j := 31) hX fX8_30 rfl rfl dX8_first_50 ?_
      refine V_getr (j := 32) hX fX8_131 rfl rfl dX8_first_53 ?_
      refine V_iload_n hX dX8_first_56 3 rfl ?_
      refine V_ialdN (x := nI (S k_)) hX rfl (by first | omega | (have := sm_lt12 h12 (nodF P (lAt P S k_)) (n := 8) (by decide); omega) | (have := sm_lt12 h12 (snoF P (nodF P (lAt P S k_))) (n := 8) (by decide); omega)) (by decide) (hLx.2 _ (by omega)) dX8_first_57 ?_
      refine V_iconst (v := nI 0) hX dX8_first_58 (by decide) ?_
      show V G 4 X 59 [(0, .ref 0), (1, .int (nI 0)), (2, .ref 34), (3, .int (nI k_))] [.int (bI (false = true)), .int (nI (S k_)), .ref 1, .ref 34] μ1
      refine V_callV (As := [.ref 1, .int (nI (S k_)), .int (bI (false = true))]) (st := []) hX mX8_155 rfl (k_pass (cold_ := false) (P := P) rfl rfl hR1.1 hok (by have := hS k_ (by omega); omega) hU1 (mwR_ok hok (mw0_ok hok) k_) (by omega) (fun μ3 a3 b3 c3 d3 => ?_)) rfl (Nat.le_of_ble_eq_true rfl) (Nat.le_of_ble_eq_true rfl) dX8_first_59
      show V G 4 X 62 [(0, .ref 0), (1, .int (nI 0)), (2, .ref 34), (3, .int (nI k_))] [] μ3
      have hR3 : RC μ3 P L S κ I := hR1.frame (fun a ha => a3 a (by omega) (by omega))
      have hM3 : keepM μ μ3 := hM1.tr (fun a ha => a3 a (by omega) (by omega))
      have hLx := hR3.2.1
      refine V_iload_n hX dX8_first_62 1 rfl ?_
      refine V_if_neN (tgt := 73) hX dX8_first_63 (by decide) (by first | omega | (have := sm_lt12 h12 (nodF P (lAt P S k_)) (n := 8) (by decide); omega) | (have := sm_lt12 h12 (snoF P (nodF P (lAt P S k_))) (n := 8) (by decide); omega)) (fun c63 => ?_) (fun c63 => ?_)
      · exact absurd c63 (by decide)
      · refine V_aload_n hX dX8_first_66 2 rfl ?_
        refine V_getN (x := nI (sm (P 1) (nodF P (lAt P S k_)) 8)) hX fX8_159 rfl c3.2.1 dX8_first_67 ?_
        refine V_goto (tgt := 77) hX dX8_first_70 (by decide) ?_
        refine V_if_eqN (tgt := 82) hX dX8_first_77 (by decide) (by first | omega | (have := sm_lt12 h12 (nodF P (lAt P S k_)) (n := 8) (by decide); omega) | (have := sm_lt12 h12 (snoF P (nodF P (lAt P S k_))) (n := 8) (by decide); omega)) (fun c77 => ?_) (fun c77 => ?_)
        · refine V_iincN (n := 1) (ls' := [(0, .ref 0), (1, .int (nI 0)), (2, .ref 34), (3, .int (nI (k_ + 1)))]) hX dX8_first_82 3 rfl (by decide) rfl ?_
          refine V_goto (tgt := 33) hX dX8_first_85 (by decide) ?_
          exact ih (k_ + 1) μ3 (by omega) (by omega) hR3 hM3 b3 (lt_s hno (sm0_iff.mp c77))
        · refine V_iload_n hX dX8_first_80 3 rfl ?_
          refine V_iret hX rfl dX8_first_81 ?_
          exact hR _ _ (by have h9 := hQ μ3 hR3 hM3; rw [fst_at L (by omega) (by omega) hno (Decidable.not_not.mp (fun z => c77 (sm0_iff.mpr z)))] at h9; exact h9)
set_option maxRecDepth 100000 in
set_option maxHeartbeats 4000000 in
theorem lpC_first1 {G : VG} {d : Nat} {μ : VS} {Q : Option Value → VS → Prop} {X : VX} {P : PC} {L : Nat} {S κ : Nat → Nat} {I : Nat → PC} (hX : Cx G (d + 4) yX8_first cX8_first 4 (some .int) X) (hR : ∀ r μ', Q r μ' → Ret G X r μ') (hok : okP P) (hpd : okPad L S)  (hQ : ∀ μ', RC μ' P L S κ I → keepM μ μ' → Q (some (.int (fstU (evB P S 1) L))) μ') : ∀ (j k_ : Nat) (μ1 : VS), k_ ≤ L → L + 1 ≤ k_ + j → RC μ1 P L S κ I → keepM μ μ1 → isW μ1 34 (uAt P S k_) → (∀ i, i < k_ → ¬ evB P S 1 i = true) → V G 4 X 33 [(0, .ref 0), (1, .int (nI 1)), (2, .ref 34), (3, .int (nI k_))] [] μ1 := by
  have hS := hpd.2
  have hL60 := hpd.1
  have h12 : ∀ h, h < 8 → P 1 h < 12 := fun h hh => (hok.2.2.2.2.2.2.2.1 h hh).1
  intro j
  induction j with
  | zero =>
    intro k_ μ1 h1 h2
    exact absurd h2 (by omega)
  | succ j ih =>
    intro k_ μ1 h1 h2 hR1 hM1 hU1 hno
    have hLx := hR1.2.1
    refine V_iload_n hX dX8_first_33 3 rfl ?_
    refine V_aload_n hX dX8_first_34 0 rfl ?_
    refine V_getr (j := 31) hX fX8_30 rfl rfl dX8_first_35 ?_
    refine V_getN (x := nI L) hX fX8_128 rfl hLx.1 dX8_first_38 ?_
    refine V_icmp_geN (tgt := 88) hX dX8_first_41 (by decide) (by first | omega | (have := sm_lt12 h12 (nodF P (lAt P S k_)) (n := 8) (by decide); omega) | (have := sm_lt12 h12 (snoF P (nodF P (lAt P S k_))) (n := 8) (by decide); omega)) (by first | omega | (have := sm_lt12 h12 (nodF P (lAt P S k_)) (n := 8) (by decide); omega) | (have := sm_lt12 h12 (snoF P (nodF P (lAt P S k_))) (n := 8) (by decide); omega)) (fun c41 => ?_) (fun c41 => ?_)
    · refine V_bipush (v := (-6)) hX dX8_first_88 (by decide) ?_
      refine V_iret hX rfl dX8_first_90 ?_
      exact hR _ _ (by have h9 := hQ μ1 hR1 hM1; rw [fst_none L (fun i hi => hno i (by omega))] at h9; exact h9)
    · refine V_aload_n hX dX8_first_44 2 rfl ?_
      refine V_aload_n hX dX8_first_45 0 rfl ?_
      refine V_getr (j := 1) hX fX8_10 rfl rfl dX8_first_46 ?_
      refine V_aload_n hX dX8_first_49 0 rfl ?_
      refine V_getr (j := 31) hX fX8_30 rfl rfl dX8_first_50 ?_
      refine V_getr (j := 32) hX fX8_131 rfl rfl dX8_first_53 ?_
      refine V_iload_n hX dX8_first_56 3 rfl ?_
      refine V_ialdN (x := nI (S k_)) hX rfl (by first | omega | (have := sm_lt12 h12 (nodF P (lAt P S k_)) (n := 8) (by decide); omega) | (have := sm_lt12 h12 (snoF P (nodF P (lAt P S k_))) (n := 8) (by decide); omega)) (by decide) (hLx.2 _ (by omega)) dX8_first_57 ?_
      refine V_iconst (v := nI 0) hX dX8_first_58 (by decide) ?_
      show V G 4 X 59 [(0, .ref 0), (1, .int (nI 1)), (2, .ref 34), (3, .int (nI k_))] [.int (bI (false = true)), .int (nI (S k_)), .ref 1, .ref 34] μ1
      refine V_callV (As := [.ref 1, .int (nI (S k_)), .int (bI (false = true))]) (st := []) hX mX8_155 rfl (k_pass (cold_ := false) (P := P) rfl rfl hR1.1 hok (by have := hS k_ (by omega); omega) hU1 (mwR_ok hok (mw0_ok hok) k_) (by omega) (fun μ3 a3 b3 c3 d3 => ?_)) rfl (Nat.le_of_ble_eq_true rfl) (Nat.le_of_ble_eq_true rfl) dX8_first_59
      show V G 4 X 62 [(0, .ref 0), (1, .int (nI 1)), (2, .ref 34), (3, .int (nI k_))] [] μ3
      have hR3 : RC μ3 P L S κ I := hR1.frame (fun a ha => a3 a (by omega) (by omega))
      have hM3 : keepM μ μ3 := hM1.tr (fun a ha => a3 a (by omega) (by omega))
      have hLx := hR3.2.1
      refine V_iload_n hX dX8_first_62 1 rfl ?_
      refine V_if_neN (tgt := 73) hX dX8_first_63 (by decide) (by first | omega | (have := sm_lt12 h12 (nodF P (lAt P S k_)) (n := 8) (by decide); omega) | (have := sm_lt12 h12 (snoF P (nodF P (lAt P S k_))) (n := 8) (by decide); omega)) (fun c63 => ?_) (fun c63 => ?_)
      · refine V_aload_n hX dX8_first_73 2 rfl ?_
        refine V_getN (x := nI (sm (P 1) (snoF P (nodF P (lAt P S k_))) 8)) hX fX8_162 rfl c3.2.2.2 dX8_first_74 ?_
        refine V_if_eqN (tgt := 82) hX dX8_first_77 (by decide) (by first | omega | (have := sm_lt12 h12 (nodF P (lAt P S k_)) (n := 8) (by decide); omega) | (have := sm_lt12 h12 (snoF P (nodF P (lAt P S k_))) (n := 8) (by decide); omega)) (fun c77 => ?_) (fun c77 => ?_)
        · refine V_iincN (n := 1) (ls' := [(0, .ref 0), (1, .int (nI 1)), (2, .ref 34), (3, .int (nI (k_ + 1)))]) hX dX8_first_82 3 rfl (by decide) rfl ?_
          refine V_goto (tgt := 33) hX dX8_first_85 (by decide) ?_
          exact ih (k_ + 1) μ3 (by omega) (by omega) hR3 hM3 b3 (lt_s hno (sm0_iff.mp c77))
        · refine V_iload_n hX dX8_first_80 3 rfl ?_
          refine V_iret hX rfl dX8_first_81 ?_
          exact hR _ _ (by have h9 := hQ μ3 hR3 hM3; rw [fst_at L (by omega) (by omega) hno (Decidable.not_not.mp (fun z => c77 (sm0_iff.mpr z)))] at h9; exact h9)
      · exact absurd c63 (by decide)
set_option maxRecDepth 100000 in
set_option maxHeartbeats 4000000 in
theorem kC_first0 {G : VG} {d : Nat} {μ : VS} {Q : Option Value → VS → Prop} {P : PC} {L : Nat} {S κ : Nat → Nat} {I : Nat → PC} (hRC : RC μ P L S κ I) (hok : okP P) (hpd : okPad L S) (hQ : ∀ μ', RC μ' P L S κ I → keepM μ μ' → Q (some (.int (firstS P L S (nI 0)))) μ') : Call G (d + 6) yX8_first cX8_first 4 (some .int) [.ref 0, .int (nI 0)] μ Q := by
  intro X hX hR
  have hP := hRC.1
  have hL := hRC.2.1
  have hS := hpd.2
  have hL60 := hpd.1
  have hP4 := hok.2.2.2.2.1
  show V G 4 X 0 [(0, .ref 0), (1, .int (nI 0))] [] μ
  refine V_iload_n hX dX8_first_0 1 rfl ?_
  refine V_iconst (v := nI 0) hX dX8_first_1 (by decide) ?_
  refine V_iconst (v := nI 1) hX dX8_first_2 (by decide) ?_
  refine V_callS (As := [.int (nI 0), .int (nI 0), .int (nI 1)]) (st := []) hX mX8_73 (k_isOutside ?_) rfl (Nat.le_of_ble_eq_true rfl) (Nat.le_of_ble_eq_true rfl) dX8_first_3
  show V G 4 X 6 [(0, .ref 0), (1, .int (nI 0))] [.int (bI (nI 0 < nI 0 ∨ nI 1 < nI 0))] μ
  refine V_if_eqB (tgt := 12) hX dX8_first_6 (by decide) (fun c6 => ?_) (fun c6 => ?_)
  · refine V_aload_n hX dX8_first_12 0 rfl ?_
    refine V_getr (j := 31) hX fX8_30 rfl rfl dX8_first_13 ?_
    refine V_callV (As := []) (st := []) hX mX8_137 rfl (kC_hasFault hL hS hL60 ?_) rfl (Nat.le_of_ble_eq_true rfl) (Nat.le_of_ble_eq_true rfl) dX8_first_16
    show V G 4 X 19 [(0, .ref 0), (1, .int (nI 0))] [.int (bI (¬ fltU S L = -6))] μ
    refine V_if_eqB (tgt := 25) hX dX8_first_19 (by decide) (fun c19 => ?_) (fun c19 => ?_)
    · refine V_aload_n hX dX8_first_25 0 rfl ?_
      refine V_iconst (v := nI 0) hX dX8_first_26 (by decide) ?_
      refine V_callV (As := [.int (nI 0)]) (st := []) hX mX8_141 rfl (k_goneThrough hP hok hL hS hL60 (by omega) (fun μ2 a2 b2 k2 d2 => ?_)) rfl (Nat.le_of_ble_eq_true rfl) (Nat.le_of_ble_eq_true rfl) dX8_first_27
      show V G 4 X 30 [(0, .ref 0), (1, .int (nI 0))] [.ref 34] μ2
      have hRC2 : RC μ2 P L S κ I := hRC.frame (fun a ha => a2 a (by omega) (by omega))
      have hkM : keepM μ μ2 := fun a ha => a2 a (by omega) (by omega)
      refine V_astore_n (ls' := [(0, .ref 0), (1, .int (nI 0)), (2, .ref 34)]) hX dX8_first_30 (by decide) rfl ?_
      refine V_iconst (v := nI 0) hX dX8_first_31 (by decide) ?_
      refine V_istore_n (ls' := [(0, .ref 0), (1, .int (nI 0)), (2, .ref 34), (3, .int (nI 0))]) hX dX8_first_32 (by decide) rfl ?_
      exact lpC_first0 (μ := μ) hX hR hok hpd (fun μ' q1 q2 => by have h9 := hQ μ'; rw [show firstS P L S (nI 0) = _ from (if_pos (in_of_not_out c6)).trans (if_pos (Decidable.not_not.mp c19)), show (nI 0).toNatClampNeg = 0 from nI_clamp (by decide)] at h9; exact h9 q1 q2) (L + 1) 0 μ2 (by omega) (by omega) hRC2 hkM b2 (fun i hi => absurd hi (by omega))
    · refine V_bipush (v := (-5)) hX dX8_first_22 (by decide) ?_
      refine V_iret hX rfl dX8_first_24 ?_
      have h9 := hQ μ
      rw [show firstS P L S (nI 0) = -5 from (if_pos (in_of_not_out c6)).trans (if_neg c19)] at h9
      exact hR _ _ (h9 hRC (keepM.rf μ))
  · refine V_bipush (v := (-2)) hX dX8_first_9 (by decide) ?_
    refine V_iret hX rfl dX8_first_11 ?_
    exact absurd c6 (by decide)
set_option maxRecDepth 100000 in
set_option maxHeartbeats 4000000 in
theorem kC_first1 {G : VG} {d : Nat} {μ : VS} {Q : Option Value → VS → Prop} {P : PC} {L : Nat} {S κ : Nat → Nat} {I : Nat → PC} (hRC : RC μ P L S κ I) (hok : okP P) (hpd : okPad L S) (hQ : ∀ μ', RC μ' P L S κ I → keepM μ μ' → Q (some (.int (firstS P L S (nI 1)))) μ') : Call G (d + 6) yX8_first cX8_first 4 (some .int) [.ref 0, .int (nI 1)] μ Q := by
  intro X hX hR
  have hP := hRC.1
  have hL := hRC.2.1
  have hS := hpd.2
  have hL60 := hpd.1
  have hP4 := hok.2.2.2.2.1
  show V G 4 X 0 [(0, .ref 0), (1, .int (nI 1))] [] μ
  refine V_iload_n hX dX8_first_0 1 rfl ?_
  refine V_iconst (v := nI 0) hX dX8_first_1 (by decide) ?_
  refine V_iconst (v := nI 1) hX dX8_first_2 (by decide) ?_
  refine V_callS (As := [.int (nI 1), .int (nI 0), .int (nI 1)]) (st := []) hX mX8_73 (k_isOutside ?_) rfl (Nat.le_of_ble_eq_true rfl) (Nat.le_of_ble_eq_true rfl) dX8_first_3
  show V G 4 X 6 [(0, .ref 0), (1, .int (nI 1))] [.int (bI (nI 1 < nI 0 ∨ nI 1 < nI 1))] μ
  refine V_if_eqB (tgt := 12) hX dX8_first_6 (by decide) (fun c6 => ?_) (fun c6 => ?_)
  · refine V_aload_n hX dX8_first_12 0 rfl ?_
    refine V_getr (j := 31) hX fX8_30 rfl rfl dX8_first_13 ?_
    refine V_callV (As := []) (st := []) hX mX8_137 rfl (kC_hasFault hL hS hL60 ?_) rfl (Nat.le_of_ble_eq_true rfl) (Nat.le_of_ble_eq_true rfl) dX8_first_16
    show V G 4 X 19 [(0, .ref 0), (1, .int (nI 1))] [.int (bI (¬ fltU S L = -6))] μ
    refine V_if_eqB (tgt := 25) hX dX8_first_19 (by decide) (fun c19 => ?_) (fun c19 => ?_)
    · refine V_aload_n hX dX8_first_25 0 rfl ?_
      refine V_iconst (v := nI 0) hX dX8_first_26 (by decide) ?_
      refine V_callV (As := [.int (nI 0)]) (st := []) hX mX8_141 rfl (k_goneThrough hP hok hL hS hL60 (by omega) (fun μ2 a2 b2 k2 d2 => ?_)) rfl (Nat.le_of_ble_eq_true rfl) (Nat.le_of_ble_eq_true rfl) dX8_first_27
      show V G 4 X 30 [(0, .ref 0), (1, .int (nI 1))] [.ref 34] μ2
      have hRC2 : RC μ2 P L S κ I := hRC.frame (fun a ha => a2 a (by omega) (by omega))
      have hkM : keepM μ μ2 := fun a ha => a2 a (by omega) (by omega)
      refine V_astore_n (ls' := [(0, .ref 0), (1, .int (nI 1)), (2, .ref 34)]) hX dX8_first_30 (by decide) rfl ?_
      refine V_iconst (v := nI 0) hX dX8_first_31 (by decide) ?_
      refine V_istore_n (ls' := [(0, .ref 0), (1, .int (nI 1)), (2, .ref 34), (3, .int (nI 0))]) hX dX8_first_32 (by decide) rfl ?_
      exact lpC_first1 (μ := μ) hX hR hok hpd (fun μ' q1 q2 => by have h9 := hQ μ'; rw [show firstS P L S (nI 1) = _ from (if_pos (in_of_not_out c6)).trans (if_pos (Decidable.not_not.mp c19)), show (nI 1).toNatClampNeg = 1 from nI_clamp (by decide)] at h9; exact h9 q1 q2) (L + 1) 0 μ2 (by omega) (by omega) hRC2 hkM b2 (fun i hi => absurd hi (by omega))
    · refine V_bipush (v := (-5)) hX dX8_first_22 (by decide) ?_
      refine V_iret hX rfl dX8_first_24 ?_
      have h9 := hQ μ
      rw [show firstS P L S (nI 1) = -5 from (if_pos (in_of_not_out c6)).trans (if_neg c19)] at h9
      exact hR _ _ (h9 hRC (keepM.rf μ))
  · refine V_bipush (v := (-2)) hX dX8_first_9 (by decide) ?_
    refine V_iret hX rfl dX8_first_11 ?_
    exact absurd c6 (by decide)
set_option maxRecDepth 100000 in
set_option maxHeartbeats 4000000 in
theorem kC_first2 {G : VG} {d : Nat} {μ : VS} {Q : Option Value → VS → Prop} {P : PC} {L : Nat} {S κ : Nat → Nat} {I : Nat → PC} {w_ : Int32} (hw : ¬ inZ w_ 0 1) (hRC : RC μ P L S κ I) (hok : okP P) (hpd : okPad L S) (hQ : ∀ μ', RC μ' P L S κ I → keepM μ μ' → Q (some (.int (firstS P L S w_))) μ') : Call G (d + 6) yX8_first cX8_first 4 (some .int) [.ref 0, .int w_] μ Q := by
  intro X hX hR
  have hP := hRC.1
  have hL := hRC.2.1
  have hS := hpd.2
  have hL60 := hpd.1
  have hP4 := hok.2.2.2.2.1
  show V G 4 X 0 [(0, .ref 0), (1, .int w_)] [] μ
  refine V_iload_n hX dX8_first_0 1 rfl ?_
  refine V_iconst (v := nI 0) hX dX8_first_1 (by decide) ?_
  refine V_iconst (v := nI 1) hX dX8_first_2 (by decide) ?_
  refine V_callS (As := [.int w_, .int (nI 0), .int (nI 1)]) (st := []) hX mX8_73 (k_isOutside ?_) rfl (Nat.le_of_ble_eq_true rfl) (Nat.le_of_ble_eq_true rfl) dX8_first_3
  show V G 4 X 6 [(0, .ref 0), (1, .int w_)] [.int (bI (w_ < nI 0 ∨ nI 1 < w_))] μ
  refine V_if_eqB (tgt := 12) hX dX8_first_6 (by decide) (fun c6 => ?_) (fun c6 => ?_)
  · exact absurd (in_of_not_out c6) hw
  · refine V_bipush (v := (-2)) hX dX8_first_9 (by decide) ?_
    refine V_iret hX rfl dX8_first_11 ?_
    have h9 := hQ μ
    rw [show firstS P L S w_ = -2 from if_neg hw] at h9
    exact hR _ _ (h9 hRC (keepM.rf μ))
theorem kC_first {G : VG} {d : Nat} {μ : VS} {Q : Option Value → VS → Prop} {P : PC} {L : Nat} {S κ : Nat → Nat} {I : Nat → PC} {w_ : Int32} (hRC : RC μ P L S κ I) (hok : okP P) (hpd : okPad L S)  (hQ : ∀ μ', RC μ' P L S κ I → keepM μ μ' → Q (some (.int (firstS P L S w_))) μ') : Call G (d + 6) yX8_first cX8_first 4 (some .int) [.ref 0, .int w_] μ Q := by
  by_cases hw : inZ w_ 0 1
  · obtain ⟨j, -, hj, rfl⟩ := nat_of_in (by decide) (by decide) hw
    rcases (by omega : j = 0 ∨ j = 1) with e | e <;> subst e
    · exact kC_first0 hRC hok hpd hQ
    · exact kC_first1 hRC hok hpd hQ
  · exact kC_first2 hw hRC hok hpd hQ
