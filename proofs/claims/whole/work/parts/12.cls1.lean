theorem vk_par {p : Nat} (h : vk p = (3, 0)) (j : Nat) (hj : j < 6) : vk (p + 1 + j) = (9, 8) := by
  have key : ∀ p, p < 87 → vk p = (3, 0) → ∀ j, j < 6 → vk (p + 1 + j) = (9, 8) := by decide +kernel
  exact key p (vk_lt h (by decide)) h j hj
theorem vk_wlk {p : Nat} (h : vk p = (5, 0)) : vk (p + 1) = (9, 8) := by
  have key : ∀ p, p < 87 → vk p = (5, 0) → vk (p + 1) = (9, 8) := by decide +kernel
  exact key p (vk_lt h (by decide)) h
theorem nat_of_lt {v : Int32} {b : Nat} (hb : b < 2 ^ 31) (c1 : ¬ v < 0) (c2 : ¬ nI b ≤ v) : ∃ j, j < b ∧ v = nI j := by
  obtain ⟨j, hj, rfl⟩ := nI_of c1
  exact ⟨j, Nat.not_le.mp (fun z => c2 ((nI_leI hb hj).mpr z)), rfl⟩
theorem shr_test0 {n j : Nat} (h : n >>> j &&& 1 = 0) : ¬ n.testBit j = true := by
  rw [← shr_test]; omega
theorem shr_test1 {n j : Nat} (h : ¬ n >>> j &&& 1 = 0) : n.testBit j = true := by
  rw [← shr_test]
  have := Nat.and_le_right (n := n >>> j) (m := 1)
  omega
theorem and1_lt (n j : Nat) : n >>> j &&& 1 < 2 ^ 31 := by
  have := Nat.and_le_right (n := n >>> j) (m := 1)
  omega
theorem sitK_none {P : PC} {s : Nat} : ∀ n, (∀ h, h < n → ¬ (pPres P h = true ∧ P 1 h = s)) → sitK P s n = -6
  | 0, _ => rfl
  | n + 1, h => by
    unfold sitK
    rw [if_neg (h n (by omega))]
    exact sitK_none n (fun g hg => h g (by omega))
theorem sitK_uniq {P : PC} {s k : Nat} : ∀ n, k < n → pPres P k = true → P 1 k = s → (∀ h, h < n → pPres P h = true → P 1 h = s → h = k) → sitK P s n = nI k
  | n + 1, hk, h1, h2, hu => by
    unfold sitK
    by_cases c : pPres P n = true ∧ P 1 n = s
    · rw [if_pos c, hu n (by omega) c.1 c.2]
    · rw [if_neg c]
      have hne : ¬ n = k := fun e => c (by rw [e]; exact ⟨h1, h2⟩)
      exact sitK_uniq n (by omega) h1 h2 (fun g hg => hu g (by omega))
set_option maxRecDepth 100000 in
set_option maxHeartbeats 4000000 in
theorem kC_isThere {G : VG} {d : Nat} {μ : VS} {Q : Option Value → VS → Prop} {p_ : Nat} {P : PC} {h_ : Int32} (hk : vk p_ = (3, 0)) (hP : isP μ p_ P) (h4 : P 0 4 < 256) (hQ : Q (some (.int (bI (thr P h_)))) μ) : Call G d yX4_isThere cX4_isThere 2 (some .boolean) [.ref p_, .int h_] μ Q := by
  intro X hX hR
  show V G 2 X 0 [(0, .ref p_), (1, .int h_)] [] μ
  refine V_iload_n hX dX4_isThere_0 1 rfl ?_
  refine V_if_lt (tgt := 25) hX dX4_isThere_1 (by decide) (fun c1 => ?_) (fun c1 => ?_)
  · refine V_iconst (v := nI 0) hX dX4_isThere_25 (by decide) ?_
    refine V_zret hX rfl rfl dX4_isThere_26 ?_
    exact hR _ _ (ret0 (fun z => absurd z.1.1 (Int32.not_le.mpr c1)) hQ)
  · refine V_iload_n hX dX4_isThere_4 1 rfl ?_
    refine V_bipush (v := nI 8) hX dX4_isThere_5 (by decide) ?_
    refine V_icmp_ge (tgt := 25) hX dX4_isThere_7 (by decide) (fun c7 => ?_) (fun c7 => ?_)
    · refine V_iconst (v := nI 0) hX dX4_isThere_25 (by decide) ?_
      refine V_zret hX rfl rfl dX4_isThere_26 ?_
      exact hR _ _ (ret0 (fun z => absurd (Int32.le_trans c7 z.1.2) (nI_ge (by decide) (by decide))) hQ)
    · obtain ⟨j_, hj7, rfl⟩ := nat_of_lt (by decide) c1 c7
      refine V_aload_n hX dX4_isThere_10 0 rfl ?_
      refine V_getN (x := nI (P 0 4)) hX fX4_24 hk (hP.1 4 (by decide)) dX4_isThere_11 ?_
      refine V_iload_n hX dX4_isThere_14 1 rfl ?_
      refine V_ishrN hX dX4_isThere_15 (by first | omega | exact and1_lt _ _) (by first | omega | exact and1_lt _ _) ?_
      refine V_iconst (v := nI 1) hX dX4_isThere_16 (by decide) ?_
      refine V_iandN hX dX4_isThere_17 ?_
      refine V_if_eqN (tgt := 25) hX dX4_isThere_18 (by decide) (by first | omega | exact and1_lt _ _) (fun c18 => ?_) (fun c18 => ?_)
      · refine V_iconst (v := nI 0) hX dX4_isThere_25 (by decide) ?_
        refine V_zret hX rfl rfl dX4_isThere_26 ?_
        exact hR _ _ (ret0 (thr_not (by omega) (shr_test0 c18)) hQ)
      · refine V_iconst (v := nI 1) hX dX4_isThere_21 (by decide) ?_
        refine V_goto (tgt := 26) hX dX4_isThere_22 (by decide) ?_
        refine V_zret hX rfl rfl dX4_isThere_26 ?_
        exact hR _ _ (ret1 (thr_of (by omega) (shr_test1 c18)) hQ)
set_option maxRecDepth 100000 in
set_option maxHeartbeats 4000000 in
theorem kC_isUpright {G : VG} {d : Nat} {μ : VS} {Q : Option Value → VS → Prop} {p_ : Nat} {P : PC} {h_ : Nat} (hk : vk p_ = (3, 0)) (hP : isP μ p_ P) (h5 : P 0 5 < 256) (hh : h_ < 8) (hQ : Q (some (.int (bI (pUpr P h_ = true)))) μ) : Call G d yX4_isUpright cX4_isUpright 2 (some .boolean) [.ref p_, .int (nI h_)] μ Q := by
  intro X hX hR
  show V G 2 X 0 [(0, .ref p_), (1, .int (nI h_))] [] μ
  refine V_aload_n hX dX4_isUpright_0 0 rfl ?_
  refine V_getN (x := nI (P 0 5)) hX fX4_27 hk (hP.1 5 (by decide)) dX4_isUpright_1 ?_
  refine V_iload_n hX dX4_isUpright_4 1 rfl ?_
  refine V_ishrN hX dX4_isUpright_5 (by first | omega | exact and1_lt _ _) (by first | omega | exact and1_lt _ _) ?_
  refine V_iconst (v := nI 1) hX dX4_isUpright_6 (by decide) ?_
  refine V_iandN hX dX4_isUpright_7 ?_
  refine V_if_eqN (tgt := 15) hX dX4_isUpright_8 (by decide) (by first | omega | exact and1_lt _ _) (fun c8 => ?_) (fun c8 => ?_)
  · refine V_iconst (v := nI 0) hX dX4_isUpright_15 (by decide) ?_
    refine V_zret hX rfl rfl dX4_isUpright_16 ?_
    exact hR _ _ (ret0 (shr_test0 c8) hQ)
  · refine V_iconst (v := nI 1) hX dX4_isUpright_11 (by decide) ?_
    refine V_goto (tgt := 16) hX dX4_isUpright_12 (by decide) ?_
    refine V_zret hX rfl rfl dX4_isUpright_16 ?_
    exact hR _ _ (ret1 (shr_test1 c8) hQ)
set_option maxRecDepth 100000 in
set_option maxHeartbeats 4000000 in
theorem kC_howMany {G : VG} {d : Nat} {μ : VS} {Q : Option Value → VS → Prop} {p_ : Nat} {P : PC} (hk : vk p_ = (3, 0)) (hP : isP μ p_ P) (h4 : P 0 4 < 256) (hQ : Q (some (.int (nI (popN (P 0 4) 8)))) μ) : Call G (d + 1) yX4_howMany cX4_howMany 1 (some .int) [.ref p_] μ Q := by
  intro X hX hR
  show V G 1 X 0 [(0, .ref p_)] [] μ
  refine V_aload_n hX dX4_howMany_0 0 rfl ?_
  refine V_getN (x := nI (P 0 4)) hX fX4_24 hk (hP.1 4 (by decide)) dX4_howMany_1 ?_
  refine V_callS (As := [.int (nI (P 0 4))]) (st := []) hX mX4_58 (k_bitCount8 (by omega) ?_) rfl (Nat.le_of_ble_eq_true rfl) (Nat.le_of_ble_eq_true rfl) dX4_howMany_4
  show V G 1 X 7 [(0, .ref p_)] [.int (nI (popN (P 0 4) 8))] μ
  refine V_iret hX rfl dX4_howMany_7 ?_
  exact hR _ _ hQ
set_option maxRecDepth 100000 in
set_option maxHeartbeats 4000000 in
theorem kC_seats {G : VG} {d : Nat} {μ : VS} {Q : Option Value → VS → Prop} {p_ : Nat} {P : PC} (hk : vk p_ = (3, 0)) (hP : isP μ p_ P) (hQ : Q (some (.int (nI (P 0 0 * 4)))) μ) : Call G d yX4_seats cX4_seats 1 (some .int) [.ref p_] μ Q := by
  intro X hX hR
  show V G 1 X 0 [(0, .ref p_)] [] μ
  refine V_aload_n hX dX4_seats_0 0 rfl ?_
  refine V_getN (x := nI (P 0 0)) hX fX4_9 hk (hP.1 0 (by decide)) dX4_seats_1 ?_
  refine V_iconst (v := nI 4) hX dX4_seats_4 (by decide) ?_
  refine V_imulN hX dX4_seats_5 ?_
  refine V_iret hX rfl dX4_seats_6 ?_
  exact hR _ _ hQ
set_option maxRecDepth 100000 in
set_option maxHeartbeats 4000000 in
theorem lpC_sitterAt {G : VG} {d : Nat} {μ : VS} {Q : Option Value → VS → Prop} {X : VX} {p_ s_ : Nat} {P : PC} (hX : Cx G (d + 1) yX4_sitterAt cX4_sitterAt 3 (some .int) X) (hR : ∀ r μ', Q r μ' → Ret G X r μ') (hk : vk p_ = (3, 0)) (hP : isP μ p_ P) (hok : okP P) (hs : s_ < 1000) (hQ : Q (some (.int (sitK P s_ 8))) μ) : ∀ (j k_ : Nat), k_ ≤ 8 → 9 ≤ k_ + j → (∀ h, h < k_ → ¬ (pPres P h = true ∧ P 1 h = s_)) → V G 3 X 2 [(0, .ref p_), (1, .int (nI s_)), (2, .int (nI k_))] [] μ := by
  have h4 := hok.2.2.2.2.1
  have h12 : ∀ h, h < 8 → P 1 h < 12 := fun h hh => (hok.2.2.2.2.2.2.2.1 h hh).1
  have hinj := hok.2.2.2.2.2.2.2.2.2.2
  intro j
  induction j with
  | zero =>
    intro k_ h1 h2
    exact absurd h2 (by omega)
  | succ j ih =>
    intro k_ h1 h2 hno
    refine V_iload_n hX dX4_sitterAt_2 2 rfl ?_
    refine V_bipush (v := nI 8) hX dX4_sitterAt_3 (by decide) ?_
    refine V_icmp_geN (tgt := 34) hX dX4_sitterAt_5 (by decide) (by first | omega | (have := h12 k_ (by omega); omega)) (by first | omega | (have := h12 k_ (by omega); omega)) (fun c5 => ?_) (fun c5 => ?_)
    · refine V_bipush (v := (-6)) hX dX4_sitterAt_34 (by decide) ?_
      refine V_iret hX rfl dX4_sitterAt_36 ?_
      exact hR _ _ (by rw [sitK_none 8 (fun g hg => hno g (by omega))] at hQ; exact hQ)
    · refine V_aload_n hX dX4_sitterAt_8 0 rfl ?_
      refine V_iload_n hX dX4_sitterAt_9 2 rfl ?_
      refine V_callV (As := [.int (nI k_)]) (st := []) hX mX4_64 hk (kC_isThere hk hP (by omega) ?_) rfl (Nat.le_of_ble_eq_true rfl) (Nat.le_of_ble_eq_true rfl) dX4_sitterAt_10
      show V G 3 X 13 [(0, .ref p_), (1, .int (nI s_)), (2, .int (nI k_))] [.int (bI (thr P (nI k_)))] μ
      refine V_if_eqB (tgt := 28) hX dX4_sitterAt_13 (by decide) (fun c13 => ?_) (fun c13 => ?_)
      · refine V_iincN (n := 1) (ls' := [(0, .ref p_), (1, .int (nI s_)), (2, .int (nI (k_ + 1)))]) hX dX4_sitterAt_28 2 rfl (by decide) rfl ?_
        refine V_goto (tgt := 2) hX dX4_sitterAt_31 (by decide) ?_
        exact ih (k_ + 1) (by omega) (by omega) (lt_s hno (fun z => c13 (thr_of (by omega) z.1)))
      · refine V_aload_n hX dX4_sitterAt_16 0 rfl ?_
        refine V_getr (j := p_ + 1) hX fX4_33 hk rfl dX4_sitterAt_17 ?_
        refine V_iload_n hX dX4_sitterAt_20 2 rfl ?_
        refine V_ialdN (x := nI (P 1 k_)) hX (vk_par hk 0 (by decide)) (by first | omega | (have := h12 k_ (by omega); omega)) (by decide) (hP.2 0 (by decide) _ (by omega)) dX4_sitterAt_21 ?_
        refine V_iload_n hX dX4_sitterAt_22 1 rfl ?_
        refine V_icmp_neN (tgt := 28) hX dX4_sitterAt_23 (by decide) (by first | omega | (have := h12 k_ (by omega); omega)) (by first | omega | (have := h12 k_ (by omega); omega)) (fun c23 => ?_) (fun c23 => ?_)
        · refine V_iincN (n := 1) (ls' := [(0, .ref p_), (1, .int (nI s_)), (2, .int (nI (k_ + 1)))]) hX dX4_sitterAt_28 2 rfl (by decide) rfl ?_
          refine V_goto (tgt := 2) hX dX4_sitterAt_31 (by decide) ?_
          exact ih (k_ + 1) (by omega) (by omega) (lt_s hno (fun z => c23 z.2))
        · refine V_iload_n hX dX4_sitterAt_26 2 rfl ?_
          refine V_iret hX rfl dX4_sitterAt_27 ?_
          obtain ⟨j2, hj2, ej2, hp2⟩ := thr_nat c13
          have e2 : k_ = j2 := (nI_eq (by omega) (by omega)).mp ej2
          subst e2
          exact hR _ _ (by rw [sitK_uniq 8 (by omega) hp2 c23 (fun g hg h1 h2 => hinj g hg k_ (by omega) h1 hp2 (by rw [h2, c23]))] at hQ; exact hQ)
set_option maxRecDepth 100000 in
set_option maxHeartbeats 4000000 in
theorem kC_sitterAt {G : VG} {d : Nat} {μ : VS} {Q : Option Value → VS → Prop} {p_ s_ : Nat} {P : PC} (hk : vk p_ = (3, 0)) (hP : isP μ p_ P) (hok : okP P) (hs : s_ < 1000) (hQ : Q (some (.int (sitK P s_ 8))) μ) : Call G (d + 1) yX4_sitterAt cX4_sitterAt 3 (some .int) [.ref p_, .int (nI s_)] μ Q := by
  intro X hX hR
  show V G 3 X 0 [(0, .ref p_), (1, .int (nI s_))] [] μ
  refine V_iconst (v := nI 0) hX dX4_sitterAt_0 (by decide) ?_
  refine V_istore_n (ls' := [(0, .ref p_), (1, .int (nI s_)), (2, .int (nI 0))]) hX dX4_sitterAt_1 (by decide) rfl ?_
  exact lpC_sitterAt hX hR hk hP hok hs hQ 9 0 (by decide) (by decide) (fun h hh => absurd hh (by omega))
set_option maxRecDepth 100000 in
set_option maxHeartbeats 4000000 in
theorem kC_rebuild {G : VG} {d : Nat} {μ : VS} {Q : Option Value → VS → Prop} {p_ n_ : Nat} (hk : vk p_ = (3, 0)) (hQ : Q none (vup (vup (vup (vup (vup μ.1 p_ 0 (nI n_)) p_ 3 (nI 0)) p_ 4 (nI 0)) p_ 5 (nI 0)) p_ 6 (nI 0), μ.2)) : Call G d yX4_rebuild cX4_rebuild 2 none [.ref p_, .int (nI n_)] μ Q := by
  intro X hX hR
  show V G 2 X 0 [(0, .ref p_), (1, .int (nI n_))] [] μ
  refine V_aload_n hX dX4_rebuild_0 0 rfl ?_
  refine V_iload_n hX dX4_rebuild_1 1 rfl ?_
  refine V_puti hX fX4_9 fw_3_0 hk dX4_rebuild_2 ?_
  show V G 2 X 5 [(0, .ref p_), (1, .int (nI n_))] [] (vup μ.1 p_ 0 (nI n_), μ.2)
  refine V_aload_n hX dX4_rebuild_5 0 rfl ?_
  refine V_iconst (v := nI 0) hX dX4_rebuild_6 (by decide) ?_
  refine V_puti hX fX4_21 fw_3_3 hk dX4_rebuild_7 ?_
  show V G 2 X 10 [(0, .ref p_), (1, .int (nI n_))] [] (vup (vup μ.1 p_ 0 (nI n_)) p_ 3 (nI 0), μ.2)
  refine V_aload_n hX dX4_rebuild_10 0 rfl ?_
  refine V_iconst (v := nI 0) hX dX4_rebuild_11 (by decide) ?_
  refine V_puti hX fX4_24 fw_3_4 hk dX4_rebuild_12 ?_
  show V G 2 X 15 [(0, .ref p_), (1, .int (nI n_))] [] (vup (vup (vup μ.1 p_ 0 (nI n_)) p_ 3 (nI 0)) p_ 4 (nI 0), μ.2)
  refine V_aload_n hX dX4_rebuild_15 0 rfl ?_
  refine V_iconst (v := nI 0) hX dX4_rebuild_16 (by decide) ?_
  refine V_puti hX fX4_27 fw_3_5 hk dX4_rebuild_17 ?_
  show V G 2 X 20 [(0, .ref p_), (1, .int (nI n_))] [] (vup (vup (vup (vup μ.1 p_ 0 (nI n_)) p_ 3 (nI 0)) p_ 4 (nI 0)) p_ 5 (nI 0), μ.2)
  refine V_aload_n hX dX4_rebuild_20 0 rfl ?_
  refine V_iconst (v := nI 0) hX dX4_rebuild_21 (by decide) ?_
  refine V_puti hX fX4_30 fw_3_6 hk dX4_rebuild_22 ?_
  show V G 2 X 25 [(0, .ref p_), (1, .int (nI n_))] [] (vup (vup (vup (vup (vup μ.1 p_ 0 (nI n_)) p_ 3 (nI 0)) p_ 4 (nI 0)) p_ 5 (nI 0)) p_ 6 (nI 0), μ.2)
  refine V_vret hX rfl dX4_rebuild_25 ?_
  exact hR _ _ hQ
set_option maxRecDepth 100000 in
set_option maxHeartbeats 4000000 in
theorem kC_changeReach {G : VG} {d : Nat} {μ : VS} {Q : Option Value → VS → Prop} {p_ n_ : Nat} {P : PC} (hk : vk p_ = (3, 0)) (hP : isP μ p_ P) (hQ : Q (some (.int (nI (P 0 1)))) (vup μ.1 p_ 1 (nI n_), μ.2)) : Call G d yX4_changeReach cX4_changeReach 3 (some .int) [.ref p_, .int (nI n_)] μ Q := by
  intro X hX hR
  show V G 3 X 0 [(0, .ref p_), (1, .int (nI n_))] [] μ
  refine V_aload_n hX dX4_changeReach_0 0 rfl ?_
  refine V_getN (x := nI (P 0 1)) hX fX4_15 hk (hP.1 1 (by decide)) dX4_changeReach_1 ?_
  refine V_istore_n (ls' := [(0, .ref p_), (1, .int (nI n_)), (2, .int (nI (P 0 1)))]) hX dX4_changeReach_4 (by decide) rfl ?_
  refine V_aload_n hX dX4_changeReach_5 0 rfl ?_
  refine V_iload_n hX dX4_changeReach_6 1 rfl ?_
  refine V_puti hX fX4_15 fw_3_1 hk dX4_changeReach_7 ?_
  show V G 3 X 10 [(0, .ref p_), (1, .int (nI n_)), (2, .int (nI (P 0 1)))] [] (vup μ.1 p_ 1 (nI n_), μ.2)
  refine V_iload_n hX dX4_changeReach_10 2 rfl ?_
  refine V_iret hX rfl dX4_changeReach_11 ?_
  exact hR _ _ hQ
set_option maxRecDepth 100000 in
set_option maxHeartbeats 4000000 in
theorem kC_changeRate {G : VG} {d : Nat} {μ : VS} {Q : Option Value → VS → Prop} {p_ n_ : Nat} {P : PC} (hk : vk p_ = (3, 0)) (hP : isP μ p_ P) (hQ : Q (some (.int (nI (P 0 2)))) (vup μ.1 p_ 2 (nI n_), μ.2)) : Call G d yX4_changeRate cX4_changeRate 3 (some .int) [.ref p_, .int (nI n_)] μ Q := by
  intro X hX hR
  show V G 3 X 0 [(0, .ref p_), (1, .int (nI n_))] [] μ
  refine V_aload_n hX dX4_changeRate_0 0 rfl ?_
  refine V_getN (x := nI (P 0 2)) hX fX4_18 hk (hP.1 2 (by decide)) dX4_changeRate_1 ?_
  refine V_istore_n (ls' := [(0, .ref p_), (1, .int (nI n_)), (2, .int (nI (P 0 2)))]) hX dX4_changeRate_4 (by decide) rfl ?_
  refine V_aload_n hX dX4_changeRate_5 0 rfl ?_
  refine V_iload_n hX dX4_changeRate_6 1 rfl ?_
  refine V_puti hX fX4_18 fw_3_2 hk dX4_changeRate_7 ?_
  show V G 3 X 10 [(0, .ref p_), (1, .int (nI n_)), (2, .int (nI (P 0 2)))] [] (vup μ.1 p_ 2 (nI n_), μ.2)
  refine V_iload_n hX dX4_changeRate_10 2 rfl ?_
  refine V_iret hX rfl dX4_changeRate_11 ?_
  exact hR _ _ hQ
set_option maxRecDepth 100000 in
set_option maxHeartbeats 4000000 in
theorem kC_changeInspector {G : VG} {d : Nat} {μ : VS} {Q : Option Value → VS → Prop} {p_ n_ : Nat} {P : PC} (hk : vk p_ = (3, 0)) (hP : isP μ p_ P) (hQ : Q (some (.int (nI (P 0 3)))) (vup μ.1 p_ 3 (nI n_), μ.2)) : Call G d yX4_changeInspector cX4_changeInspector 3 (some .int) [.ref p_, .int (nI n_)] μ Q := by
  intro X hX hR
  show V G 3 X 0 [(0, .ref p_), (1, .int (nI n_))] [] μ
  refine V_aload_n hX dX4_changeInspector_0 0 rfl ?_
  refine V_getN (x := nI (P 0 3)) hX fX4_21 hk (hP.1 3 (by decide)) dX4_changeInspector_1 ?_
  refine V_istore_n (ls' := [(0, .ref p_), (1, .int (nI n_)), (2, .int (nI (P 0 3)))]) hX dX4_changeInspector_4 (by decide) rfl ?_
  refine V_aload_n hX dX4_changeInspector_5 0 rfl ?_
  refine V_iload_n hX dX4_changeInspector_6 1 rfl ?_
  refine V_puti hX fX4_21 fw_3_3 hk dX4_changeInspector_7 ?_
  show V G 3 X 10 [(0, .ref p_), (1, .int (nI n_)), (2, .int (nI (P 0 3)))] [] (vup μ.1 p_ 3 (nI n_), μ.2)
  refine V_iload_n hX dX4_changeInspector_10 2 rfl ?_
  refine V_iret hX rfl dX4_changeInspector_11 ?_
  exact hR _ _ hQ
set_option maxRecDepth 100000 in
set_option maxHeartbeats 4000000 in
theorem kC_addSight {G : VG} {d : Nat} {μ : VS} {Q : Option Value → VS → Prop} {m_ n_ : Nat} {P : PC} (hP : isP μ 1 P) (h6 : P 0 6 < 8) (hQ : Q (some (.int (nI (P 0 6 + 1)))) (vup (vup (vup μ.1 6 (P 0 6) (nI m_)) 7 (P 0 6) (nI n_)) 1 6 (nI ((P 0 6) + 1)), μ.2)) : Call G d yX4_addSight cX4_addSight 3 (some .int) [.ref 1, .int (nI m_), .int (nI n_)] μ Q := by
  intro X hX hR
  show V G 3 X 0 [(0, .ref 1), (1, .int (nI m_)), (2, .int (nI n_))] [] μ
  refine V_aload_n hX dX4_addSight_0 0 rfl ?_
  refine V_getr (j := 6) hX fX4_46 rfl rfl dX4_addSight_1 ?_
  refine V_aload_n hX dX4_addSight_4 0 rfl ?_
  refine V_getN (x := nI (P 0 6)) hX fX4_30 rfl (hP.1 6 (by decide)) dX4_addSight_5 ?_
  refine V_iload_n hX dX4_addSight_8 1 rfl ?_
  refine V_iastN hX rfl (by omega) (by decide) dX4_addSight_9 ?_
  show V G 3 X 10 [(0, .ref 1), (1, .int (nI m_)), (2, .int (nI n_))] [] (vup μ.1 6 (P 0 6) (nI m_), μ.2)
  refine V_aload_n hX dX4_addSight_10 0 rfl ?_
  refine V_getr (j := 7) hX fX4_49 rfl rfl dX4_addSight_11 ?_
  refine V_aload_n hX dX4_addSight_14 0 rfl ?_
  refine V_getN (x := nI (P 0 6)) hX fX4_30 rfl (hP.1 6 (by decide)) dX4_addSight_15 ?_
  refine V_iload_n hX dX4_addSight_18 2 rfl ?_
  refine V_iastN hX rfl (by omega) (by decide) dX4_addSight_19 ?_
  show V G 3 X 20 [(0, .ref 1), (1, .int (nI m_)), (2, .int (nI n_))] [] (vup (vup μ.1 6 (P 0 6) (nI m_)) 7 (P 0 6) (nI n_), μ.2)
  refine V_aload_n hX dX4_addSight_20 0 rfl ?_
  refine V_dup hX dX4_addSight_21 rfl ?_
  refine V_getN (x := nI (P 0 6)) hX fX4_30 rfl (hP.1 6 (by decide)) dX4_addSight_22 ?_
  refine V_iconst (v := nI 1) hX dX4_addSight_25 (by decide) ?_
  refine V_iaddN hX dX4_addSight_26 ?_
  refine V_puti hX fX4_30 fw_3_6 rfl dX4_addSight_27 ?_
  show V G 3 X 30 [(0, .ref 1), (1, .int (nI m_)), (2, .int (nI n_))] [] (vup (vup (vup μ.1 6 (P 0 6) (nI m_)) 7 (P 0 6) (nI n_)) 1 6 (nI ((P 0 6) + 1)), μ.2)
  refine V_aload_n hX dX4_addSight_30 0 rfl ?_
  refine V_getN (x := nI ((P 0 6) + 1)) hX fX4_30 rfl rfl dX4_addSight_31 ?_
  refine V_iret hX rfl dX4_addSight_34 ?_
  exact hR _ _ hQ
