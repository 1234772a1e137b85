set_option maxRecDepth 100000 in
set_option maxHeartbeats 4000000 in
theorem kM_isThere {G : VG} {d : Nat} {μ : VS} {Q : Option Value → VS → Prop} {P : PC} {h_ : Int32} (hM : isM μ P) (h4 : P 0 4 < 256) (hQ : Q (some (.int (bI (thr P h_)))) μ) : Call G (d + 1) yX9_isThere cX9_isThere 2 (some .boolean) [.ref 69, .int h_] μ Q := by
  intro X hX hR
  show V G 2 X 0 [(0, .ref 69), (1, .int h_)] [] μ
  refine V_iload_n hX dX9_isThere_0 1 rfl ?_
  refine V_iconst (v := nI 0) hX dX9_isThere_1 (by decide) ?_
  refine V_bipush (v := nI 7) hX dX9_isThere_2 (by decide) ?_
  refine V_callS (As := [.int h_, .int (nI 0), .int (nI 7)]) (st := []) hX mX9_75 (k_in ?_) rfl (Nat.le_of_ble_eq_true rfl) (Nat.le_of_ble_eq_true rfl) dX9_isThere_4
  show V G 2 X 7 [(0, .ref 69), (1, .int h_)] [.int (bI (nI 0 ≤ h_ ∧ h_ ≤ nI 7))] μ
  refine V_if_eqB (tgt := 25) hX dX9_isThere_7 (by decide) (fun c7 => ?_) (fun c7 => ?_)
  · refine V_iconst (v := nI 0) hX dX9_isThere_25 (by decide) ?_
    refine V_zret hX rfl rfl dX9_isThere_26 ?_
    first | exact hR _ _ (ret0 (thr_not (by omega) c18) hQ) | exact hR _ _ (ret0 (fun z => c7 z.1) hQ)
  · obtain ⟨j, hj0, hj7, rfl⟩ := nat_of_in (by decide) (by decide) c7
    refine V_aload_n hX dX9_isThere_10 0 rfl ?_
    refine V_getN (x := nI (P 0 4)) hX fX9_72 rfl (hM.1 4 (by decide)) dX9_isThere_11 ?_
    refine V_iload_n hX dX9_isThere_14 1 rfl ?_
    refine V_callS (As := [.int (nI (P 0 4)), .int (nI j)]) (st := []) hX mX9_79 (k_has (by omega) (by omega) ?_) rfl (Nat.le_of_ble_eq_true rfl) (Nat.le_of_ble_eq_true rfl) dX9_isThere_15
    show V G 2 X 18 [(0, .ref 69), (1, .int (nI j))] [.int (bI ((P 0 4).testBit j = true))] μ
    refine V_if_eqB (tgt := 25) hX dX9_isThere_18 (by decide) (fun c18 => ?_) (fun c18 => ?_)
    · refine V_iconst (v := nI 0) hX dX9_isThere_25 (by decide) ?_
      refine V_zret hX rfl rfl dX9_isThere_26 ?_
      first | exact hR _ _ (ret0 (thr_not (by omega) c18) hQ) | exact hR _ _ (ret0 (fun z => c7 z.1) hQ)
    · refine V_iconst (v := nI 1) hX dX9_isThere_21 (by decide) ?_
      refine V_goto (tgt := 26) hX dX9_isThere_22 (by decide) ?_
      refine V_zret hX rfl rfl dX9_isThere_26 ?_
      exact hR _ _ (ret1 (thr_of (by omega) c18) hQ)
set_option maxRecDepth 100000 in
set_option maxHeartbeats 4000000 in
theorem lpM_whoSits {G : VG} {d : Nat} {X : VX} {μ : VS} {P : PC} {s : Nat} (hX : Cx G (d + 1) yX9_whoSits cX9_whoSits 4 (some .int) X) (hM : isM μ P) (h4 : P 0 4 < 256) (h12 : ∀ h, h < 8 → P 1 h < 12) (hs : s < 1000) (hE : V G 4 X 44 [(0, .ref 69), (1, .int (nI s)), (2, .int (sitK P s 8)), (3, .int (nI 8))] [] μ) : ∀ (j : Nat) (k : Nat), k ≤ 8 → 9 ≤ k + j → V G 4 X 5 [(0, .ref 69), (1, .int (nI s)), (2, .int (sitK P s k)), (3, .int (nI k))] [] μ := by
  intro j
  induction j with
  | zero =>
    intro k h1 h2
    exact absurd h2 (by omega)
  | succ j ih =>
    intro k h1 h2
    refine V_iload_n hX dX9_whoSits_5 3 rfl ?_
    refine V_bipush (v := nI 8) hX dX9_whoSits_6 (by decide) ?_
    refine V_icmp_geN (tgt := 44) hX dX9_whoSits_8 (by decide) (by first | omega | (have := h12 k (by omega); omega)) (by first | omega | (have := h12 k (by omega); omega)) (fun c8 => ?_) (fun c8 => ?_)
    · obtain rfl : k = 8 := by omega
      exact hE
    · refine V_aload_n hX dX9_whoSits_11 0 rfl ?_
      refine V_getN (x := nI (P 0 4)) hX fX9_72 rfl (hM.1 4 (by decide)) dX9_whoSits_12 ?_
      refine V_iload_n hX dX9_whoSits_15 3 rfl ?_
      refine V_callS (As := [.int (nI (P 0 4)), .int (nI k)]) (st := []) hX mX9_79 (k_has (by first | omega | (have := h12 k (by omega); omega)) (by first | omega | (have := h12 k (by omega); omega)) ?_) rfl (Nat.le_of_ble_eq_true rfl) (Nat.le_of_ble_eq_true rfl) dX9_whoSits_16
      show V G 4 X 19 [(0, .ref 69), (1, .int (nI s)), (2, .int (sitK P s k)), (3, .int (nI k))] [.int (bI ((P 0 4).testBit k = true))] μ
      refine V_if_eqB (tgt := 36) hX dX9_whoSits_19 (by decide) (fun c19 => ?_) (fun c19 => ?_)
      · refine V_iload_n hX dX9_whoSits_36 2 rfl ?_
        refine V_istore_n (ls' := [(0, .ref 69), (1, .int (nI s)), (2, .int (sitK P s k)), (3, .int (nI k))]) hX dX9_whoSits_37 (by decide) rfl ?_
        refine V_iincN (n := 1) (ls' := [(0, .ref 69), (1, .int (nI s)), (2, .int (sitK P s k)), (3, .int (nI (k + 1)))]) hX dX9_whoSits_38 3 rfl (by decide) rfl ?_
        refine V_goto (tgt := 5) hX dX9_whoSits_41 (by decide) ?_
        have h9 := ih (k + 1) (by omega) (by omega)
        rw [show sitK P s (k + 1) = sitK P s k from if_neg (fun z => c19 z.1)] at h9
        exact h9
      · refine V_aload_n hX dX9_whoSits_22 0 rfl ?_
        refine V_getr (j := 70) hX fX9_13 rfl rfl dX9_whoSits_23 ?_
        refine V_iload_n hX dX9_whoSits_26 3 rfl ?_
        refine V_ialdN (x := nI (P 1 k)) hX rfl (by first | omega | (have := h12 k (by omega); omega)) (by decide) (hM.2.1 0 (by decide) _ (by omega)) dX9_whoSits_27 ?_
        refine V_iload_n hX dX9_whoSits_28 1 rfl ?_
        refine V_icmp_neN (tgt := 36) hX dX9_whoSits_29 (by decide) (by first | omega | (have := h12 k (by omega); omega)) (by first | omega | (have := h12 k (by omega); omega)) (fun c29 => ?_) (fun c29 => ?_)
        · refine V_iload_n hX dX9_whoSits_36 2 rfl ?_
          refine V_istore_n (ls' := [(0, .ref 69), (1, .int (nI s)), (2, .int (sitK P s k)), (3, .int (nI k))]) hX dX9_whoSits_37 (by decide) rfl ?_
          refine V_iincN (n := 1) (ls' := [(0, .ref 69), (1, .int (nI s)), (2, .int (sitK P s k)), (3, .int (nI (k + 1)))]) hX dX9_whoSits_38 3 rfl (by decide) rfl ?_
          refine V_goto (tgt := 5) hX dX9_whoSits_41 (by decide) ?_
          have h9 := ih (k + 1) (by omega) (by omega)
          rw [show sitK P s (k + 1) = sitK P s k from if_neg (fun z => c29 z.2)] at h9
          exact h9
        · refine V_iload_n hX dX9_whoSits_32 3 rfl ?_
          refine V_goto (tgt := 37) hX dX9_whoSits_33 (by decide) ?_
          refine V_istore_n (ls' := [(0, .ref 69), (1, .int (nI s)), (2, .int (nI k)), (3, .int (nI k))]) hX dX9_whoSits_37 (by decide) rfl ?_
          refine V_iincN (n := 1) (ls' := [(0, .ref 69), (1, .int (nI s)), (2, .int (nI k)), (3, .int (nI (k + 1)))]) hX dX9_whoSits_38 3 rfl (by decide) rfl ?_
          refine V_goto (tgt := 5) hX dX9_whoSits_41 (by decide) ?_
          have h9 := ih (k + 1) (by omega) (by omega)
          rw [show sitK P s (k + 1) = nI k from if_pos ⟨c19, c29⟩] at h9
          exact h9
set_option maxRecDepth 100000 in
set_option maxHeartbeats 4000000 in
theorem kM_whoSits {G : VG} {d : Nat} {μ : VS} {Q : Option Value → VS → Prop} {P : PC} {s : Nat} (hM : isM μ P) (h4 : P 0 4 < 256) (h12 : ∀ h, h < 8 → P 1 h < 12) (hs : s < 1000) (hQ : Q (some (.int (sitK P s 8))) μ) : Call G (d + 1) yX9_whoSits cX9_whoSits 4 (some .int) [.ref 69, .int (nI s)] μ Q := by
  intro X hX hR
  show V G 4 X 0 [(0, .ref 69), (1, .int (nI s))] [] μ
  refine V_bipush (v := (-6)) hX dX9_whoSits_0 (by decide) ?_
  refine V_istore_n (ls' := [(0, .ref 69), (1, .int (nI s)), (2, .int (-6))]) hX dX9_whoSits_2 (by decide) rfl ?_
  refine V_iconst (v := nI 0) hX dX9_whoSits_3 (by decide) ?_
  refine V_istore_n (ls' := [(0, .ref 69), (1, .int (nI s)), (2, .int (-6)), (3, .int (nI 0))]) hX dX9_whoSits_4 (by decide) rfl ?_
  refine lpM_whoSits hX hM h4 h12 hs ?_ 9 0 (by decide) (by decide)
  refine V_iload_n hX dX9_whoSits_44 2 rfl ?_
  refine V_iret hX rfl dX9_whoSits_45 ?_
  exact hR _ _ hQ
