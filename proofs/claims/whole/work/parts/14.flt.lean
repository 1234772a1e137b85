abbrev isSg (n : Nat) : Prop := n = 99 ∨ n = 104 ∨ n = 110 ∨ n = 111 ∨ n = 115 ∨ n = 119 ∨ n = 126
def kindI (n : Nat) : Int32 := if n = 99 then nI 0 else if n = 104 then nI 1 else if n = 110 then nI 2 else if n = 111 then nI 3 else if n = 115 then nI 4 else if n = 119 then nI 5 else if n = 126 then nI 6 else -6
theorem kindI_no {n : Nat} (h : ¬ isSg n) : kindI n = -6 := by
  unfold kindI
  rw [if_neg (by omega), if_neg (by omega), if_neg (by omega), if_neg (by omega), if_neg (by omega), if_neg (by omega), if_neg (by omega)]
theorem kindI_yes {n : Nat} (h : isSg n) : ¬ kindI n = -6 := by
  rcases h with h | h | h | h | h | h | h <;> subst h <;> decide
/-- the place of the first fault among the first k signs -/
def fltU (S : Nat → Nat) : Nat → Int32
  | 0 => -6
  | k + 1 => if fltU S k = -6 ∧ ¬ isSg (S k) then nI k else fltU S k
theorem flt_none {S : Nat → Nat} : ∀ L, (∀ i, i < L → isSg (S i)) → fltU S L = -6
  | 0, _ => rfl
  | L + 1, h => by
    unfold fltU
    rw [if_neg (fun z => z.2 (h L (by omega)))]
    exact flt_none L (fun i hi => h i (by omega))
theorem flt_at {S : Nat → Nat} {k : Nat} : ∀ L, k < L → L < 1000 → (∀ i, i < k → isSg (S i)) → ¬ isSg (S k) → fltU S L = nI k
  | L + 1, hk, hL, h, hn => by
    unfold fltU
    rcases Nat.lt_or_ge k L with q | q
    · have e := flt_at L q (by omega) h hn
      rw [e, if_neg (fun z => absurd z.1 (by
        intro z2
        have := nI_pos (n := k) (by omega)
        rw [z2] at this
        exact this (by decide)))]
    · obtain rfl : k = L := by omega
      rw [if_pos ⟨flt_none k h, hn⟩]
theorem flt_all {S : Nat → Nat} : ∀ L, fltU S L = -6 → L < 1000 → ∀ i, i < L → isSg (S i)
  | 0, _, _ => fun i hi => absurd hi (by omega)
  | L + 1, h, hL => by
    unfold fltU at h
    by_cases c : fltU S L = -6 ∧ ¬ isSg (S L)
    · rw [if_pos c] at h
      have := nI_pos (n := L) (by omega)
      rw [h] at this
      exact absurd (by decide) this
    · rw [if_neg c] at h
      have hs : isSg (S L) := Decidable.not_not.mp (fun z => c ⟨h, z⟩)
      intro i hi
      rcases Nat.lt_or_ge i L with q | q
      · exact flt_all L h (by omega) i q
      · obtain rfl : i = L := by omega
        exact hs
theorem flt_neg {S : Nat → Nat} : ∀ L, L < 1000 → fltU S L < 0 → fltU S L = -6
  | 0, _, _ => rfl
  | L + 1, hL, h => by
    unfold fltU at h ⊢
    by_cases c : fltU S L = -6 ∧ ¬ isSg (S L)
    · rw [if_pos c] at h
      exact absurd h (nI_pos (by omega))
    · rw [if_neg c] at h ⊢
      exact flt_neg L (by omega) h
set_option maxRecDepth 100000 in
set_option maxHeartbeats 4000000 in
theorem k_isSign {G : VG} {d : Nat} {μ : VS} {Q : Option Value → VS → Prop} {n_ : Nat} (hn : n_ < 1000) (hQ : Q (some (.int (bI (isSg n_)))) μ) : Call G d yX9_isSign cX9_isSign 1 (some .boolean) [.int (nI n_)] μ Q := by
  intro X hX hR
  show V G 1 X 0 [(0, .int (nI n_))] [] μ
  refine V_iload_n hX dX9_isSign_0 0 rfl ?_
  refine V_bipush (v := nI 119) hX dX9_isSign_1 (by decide) ?_
  refine V_icmp_eqN (tgt := 42) hX dX9_isSign_3 (by decide) (by omega) (by omega) (fun c3 => ?_) (fun c3 => ?_)
  · refine V_iconst (v := nI 1) hX dX9_isSign_42 (by decide) ?_
    refine V_goto (tgt := 47) hX dX9_isSign_43 (by decide) ?_
    refine V_zret hX rfl rfl dX9_isSign_47 ?_
    exact hR _ _ (ret1 (by omega) hQ)
  · refine V_iload_n hX dX9_isSign_6 0 rfl ?_
    refine V_bipush (v := nI 104) hX dX9_isSign_7 (by decide) ?_
    refine V_icmp_eqN (tgt := 42) hX dX9_isSign_9 (by decide) (by omega) (by omega) (fun c9 => ?_) (fun c9 => ?_)
    · refine V_iconst (v := nI 1) hX dX9_isSign_42 (by decide) ?_
      refine V_goto (tgt := 47) hX dX9_isSign_43 (by decide) ?_
      refine V_zret hX rfl rfl dX9_isSign_47 ?_
      exact hR _ _ (ret1 (by omega) hQ)
    · refine V_iload_n hX dX9_isSign_12 0 rfl ?_
      refine V_bipush (v := nI 111) hX dX9_isSign_13 (by decide) ?_
      refine V_icmp_eqN (tgt := 42) hX dX9_isSign_15 (by decide) (by omega) (by omega) (fun c15 => ?_) (fun c15 => ?_)
      · refine V_iconst (v := nI 1) hX dX9_isSign_42 (by decide) ?_
        refine V_goto (tgt := 47) hX dX9_isSign_43 (by decide) ?_
        refine V_zret hX rfl rfl dX9_isSign_47 ?_
        exact hR _ _ (ret1 (by omega) hQ)
      · refine V_iload_n hX dX9_isSign_18 0 rfl ?_
        refine V_bipush (v := nI 110) hX dX9_isSign_19 (by decide) ?_
        refine V_icmp_eqN (tgt := 42) hX dX9_isSign_21 (by decide) (by omega) (by omega) (fun c21 => ?_) (fun c21 => ?_)
        · refine V_iconst (v := nI 1) hX dX9_isSign_42 (by decide) ?_
          refine V_goto (tgt := 47) hX dX9_isSign_43 (by decide) ?_
          refine V_zret hX rfl rfl dX9_isSign_47 ?_
          exact hR _ _ (ret1 (by omega) hQ)
        · refine V_iload_n hX dX9_isSign_24 0 rfl ?_
          refine V_bipush (v := nI 99) hX dX9_isSign_25 (by decide) ?_
          refine V_icmp_eqN (tgt := 42) hX dX9_isSign_27 (by decide) (by omega) (by omega) (fun c27 => ?_) (fun c27 => ?_)
          · refine V_iconst (v := nI 1) hX dX9_isSign_42 (by decide) ?_
            refine V_goto (tgt := 47) hX dX9_isSign_43 (by decide) ?_
            refine V_zret hX rfl rfl dX9_isSign_47 ?_
            exact hR _ _ (ret1 (by omega) hQ)
          · refine V_iload_n hX dX9_isSign_30 0 rfl ?_
            refine V_bipush (v := nI 115) hX dX9_isSign_31 (by decide) ?_
            refine V_icmp_eqN (tgt := 42) hX dX9_isSign_33 (by decide) (by omega) (by omega) (fun c33 => ?_) (fun c33 => ?_)
            · refine V_iconst (v := nI 1) hX dX9_isSign_42 (by decide) ?_
              refine V_goto (tgt := 47) hX dX9_isSign_43 (by decide) ?_
              refine V_zret hX rfl rfl dX9_isSign_47 ?_
              exact hR _ _ (ret1 (by omega) hQ)
            · refine V_iload_n hX dX9_isSign_36 0 rfl ?_
              refine V_bipush (v := nI 126) hX dX9_isSign_37 (by decide) ?_
              refine V_icmp_neN (tgt := 46) hX dX9_isSign_39 (by decide) (by omega) (by omega) (fun c39 => ?_) (fun c39 => ?_)
              · refine V_iconst (v := nI 0) hX dX9_isSign_46 (by decide) ?_
                refine V_zret hX rfl rfl dX9_isSign_47 ?_
                exact hR _ _ (ret0 (by omega) hQ)
              · refine V_iconst (v := nI 1) hX dX9_isSign_42 (by decide) ?_
                refine V_goto (tgt := 47) hX dX9_isSign_43 (by decide) ?_
                refine V_zret hX rfl rfl dX9_isSign_47 ?_
                exact hR _ _ (ret1 (by omega) hQ)
set_option maxRecDepth 100000 in
set_option maxHeartbeats 4000000 in
theorem k_kindOf {G : VG} {d : Nat} {μ : VS} {Q : Option Value → VS → Prop} {n_ : Nat} (hn : n_ < 1000) (hQ : Q (some (.int (kindI n_))) μ) : Call G d yX3_kindOf cX3_kindOf 2 (some .int) [.int (nI n_)] μ Q := by
  intro X hX hR
  show V G 2 X 0 [(0, .int (nI n_))] [] μ
  refine V_iconst (v := nI 0) hX dX3_kindOf_0 (by decide) ?_
  refine V_istore_n (ls' := [(0, .int (nI n_)), (1, .int (nI 0))]) hX dX3_kindOf_1 (by decide) rfl ?_
  show V G 2 X 2 [(0, .int (nI n_)), (1, .int (nI 0))] [] μ
  refine V_iload_n hX dX3_kindOf_2 1 rfl ?_
  refine V_bipush (v := nI 7) hX dX3_kindOf_3 (by decide) ?_
  refine V_icmp_geN (tgt := 25) hX dX3_kindOf_5 (by decide) (by omega) (by omega) (fun c5 => ?_) (fun c5 => ?_)
  · exact absurd c5 (by decide)
  · refine V_gets0N hX sX3_27 dX3_kindOf_8 ?_
    refine V_iload_n hX dX3_kindOf_11 1 rfl ?_
    refine V_cald0N (x := nI 99) hX (by omega) rfl dX3_kindOf_12 ?_
    refine V_iload_n hX dX3_kindOf_13 0 rfl ?_
    refine V_icmp_neN (tgt := 19) hX dX3_kindOf_14 (by decide) (by omega) (by omega) (fun c14 => ?_) (fun c14 => ?_)
    · refine V_iincN (n := 1) (ls' := [(0, .int (nI n_)), (1, .int (nI (0 + 1)))]) hX dX3_kindOf_19 1 rfl (by decide) rfl ?_
      refine V_goto (tgt := 2) hX dX3_kindOf_22 (by decide) ?_
      show V G 2 X 2 [(0, .int (nI n_)), (1, .int (nI 1))] [] μ
      refine V_iload_n hX dX3_kindOf_2 1 rfl ?_
      refine V_bipush (v := nI 7) hX dX3_kindOf_3 (by decide) ?_
      refine V_icmp_geN (tgt := 25) hX dX3_kindOf_5 (by decide) (by omega) (by omega) (fun c5 => ?_) (fun c5 => ?_)
      · exact absurd c5 (by decide)
      · refine V_gets0N hX sX3_27 dX3_kindOf_8 ?_
        refine V_iload_n hX dX3_kindOf_11 1 rfl ?_
        refine V_cald0N (x := nI 104) hX (by omega) rfl dX3_kindOf_12 ?_
        refine V_iload_n hX dX3_kindOf_13 0 rfl ?_
        refine V_icmp_neN (tgt := 19) hX dX3_kindOf_14 (by decide) (by omega) (by omega) (fun c14 => ?_) (fun c14 => ?_)
        · refine V_iincN (n := 1) (ls' := [(0, .int (nI n_)), (1, .int (nI (1 + 1)))]) hX dX3_kindOf_19 1 rfl (by decide) rfl ?_
          refine V_goto (tgt := 2) hX dX3_kindOf_22 (by decide) ?_
          show V G 2 X 2 [(0, .int (nI n_)), (1, .int (nI 2))] [] μ
          refine V_iload_n hX dX3_kindOf_2 1 rfl ?_
          refine V_bipush (v := nI 7) hX dX3_kindOf_3 (by decide) ?_
          refine V_icmp_geN (tgt := 25) hX dX3_kindOf_5 (by decide) (by omega) (by omega) (fun c5 => ?_) (fun c5 => ?_)
          · exact absurd c5 (by decide)
          · refine V_gets0N hX sX3_27 dX3_kindOf_8 ?_
            refine V_iload_n hX dX3_kindOf_11 1 rfl ?_
            refine V_cald0N (x := nI 110) hX (by omega) rfl dX3_kindOf_12 ?_
            refine V_iload_n hX dX3_kindOf_13 0 rfl ?_
            refine V_icmp_neN (tgt := 19) hX dX3_kindOf_14 (by decide) (by omega) (by omega) (fun c14 => ?_) (fun c14 => ?_)
            · refine V_iincN (n := 1) (ls' := [(0, .int (nI n_)), (1, .int (nI (2 + 1)))]) hX dX3_kindOf_19 1 rfl (by decide) rfl ?_
              refine V_goto (tgt := 2) hX dX3_kindOf_22 (by decide) ?_
              show V G 2 X 2 [(0, .int (nI n_)), (1, .int (nI 3))] [] μ
              refine V_iload_n hX dX3_kindOf_2 1 rfl ?_
              refine V_bipush (v := nI 7) hX dX3_kindOf_3 (by decide) ?_
              refine V_icmp_geN (tgt := 25) hX dX3_kindOf_5 (by decide) (by omega) (by omega) (fun c5 => ?_) (fun c5 => ?_)
              · exact absurd c5 (by decide)
              · refine V_gets0N hX sX3_27 dX3_kindOf_8 ?_
                refine V_iload_n hX dX3_kindOf_11 1 rfl ?_
                refine V_cald0N (x := nI 111) hX (by omega) rfl dX3_kindOf_12 ?_
                refine V_iload_n hX dX3_kindOf_13 0 rfl ?_
                refine V_icmp_neN (tgt := 19) hX dX3_kindOf_14 (by decide) (by omega) (by omega) (fun c14 => ?_) (fun c14 => ?_)
                · refine V_iincN (n := 1) (ls' := [(0, .int (nI n_)), (1, .int (nI (3 + 1)))]) hX dX3_kindOf_19 1 rfl (by decide) rfl ?_
                  refine V_goto (tgt := 2) hX dX3_kindOf_22 (by decide) ?_
                  show V G 2 X 2 [(0, .int (nI n_)), (1, .int (nI 4))] [] μ
                  refine V_iload_n hX dX3_kindOf_2 1 rfl ?_
                  refine V_bipush (v := nI 7) hX dX3_kindOf_3 (by decide) ?_
                  refine V_icmp_geN (tgt := 25) hX dX3_kindOf_5 (by decide) (by omega) (by omega) (fun c5 => ?_) (fun c5 => ?_)
                  · exact absurd c5 (by decide)
                  · refine V_gets0N hX sX3_27 dX3_kindOf_8 ?_
                    refine V_iload_n hX dX3_kindOf_11 1 rfl ?_
                    refine V_cald0N (x := nI 115) hX (by omega) rfl dX3_kindOf_12 ?_
                    refine V_iload_n hX dX3_kindOf_13 0 rfl ?_
                    refine V_icmp_neN (tgt := 19) hX dX3_kindOf_14 (by decide) (by omega) (by omega) (fun c14 => ?_) (fun c14 => ?_)
                    · refine V_iincN (n := 1) (ls' := [(0, .int (nI n_)), (1, .int (nI (4 + 1)))]) hX dX3_kindOf_19 1 rfl (by decide) rfl ?_
                      refine V_goto (tgt := 2) hX dX3_kindOf_22 (by decide) ?_
                      show V G 2 X 2 [(0, .int (nI n_)), (1, .int (nI 5))] [] μ
                      refine V_iload_n hX dX3_kindOf_2 1 rfl ?_
                      refine V_bipush (v := nI 7) hX dX3_kindOf_3 (by decide) ?_
                      refine V_icmp_geN (tgt := 25) hX dX3_kindOf_5 (by decide) (by omega) (by omega) (fun c5 => ?_) (fun c5 => ?_)
                      · exact absurd c5 (by decide)
                      · refine V_gets0N hX sX3_27 dX3_kindOf_8 ?_
                        refine V_iload_n hX dX3_kindOf_11 1 rfl ?_
                        refine V_cald0N (x := nI 119) hX (by omega) rfl dX3_kindOf_12 ?_
                        refine V_iload_n hX dX3_kindOf_13 0 rfl ?_
                        refine V_icmp_neN (tgt := 19) hX dX3_kindOf_14 (by decide) (by omega) (by omega) (fun c14 => ?_) (fun c14 => ?_)
                        · refine V_iincN (n := 1) (ls' := [(0, .int (nI n_)), (1, .int (nI (5 + 1)))]) hX dX3_kindOf_19 1 rfl (by decide) rfl ?_
                          refine V_goto (tgt := 2) hX dX3_kindOf_22 (by decide) ?_
                          show V G 2 X 2 [(0, .int (nI n_)), (1, .int (nI 6))] [] μ
                          refine V_iload_n hX dX3_kindOf_2 1 rfl ?_
                          refine V_bipush (v := nI 7) hX dX3_kindOf_3 (by decide) ?_
                          refine V_icmp_geN (tgt := 25) hX dX3_kindOf_5 (by decide) (by omega) (by omega) (fun c5 => ?_) (fun c5 => ?_)
                          · exact absurd c5 (by decide)
                          · refine V_gets0N hX sX3_27 dX3_kindOf_8 ?_
                            refine V_iload_n hX dX3_kindOf_11 1 rfl ?_
                            refine V_cald0N (x := nI 126) hX (by omega) rfl dX3_kindOf_12 ?_
                            refine V_iload_n hX dX3_kindOf_13 0 rfl ?_
                            refine V_icmp_neN (tgt := 19) hX dX3_kindOf_14 (by decide) (by omega) (by omega) (fun c14 => ?_) (fun c14 => ?_)
                            · refine V_iincN (n := 1) (ls' := [(0, .int (nI n_)), (1, .int (nI (6 + 1)))]) hX dX3_kindOf_19 1 rfl (by decide) rfl ?_
                              refine V_goto (tgt := 2) hX dX3_kindOf_22 (by decide) ?_
                              show V G 2 X 2 [(0, .int (nI n_)), (1, .int (nI 7))] [] μ
                              refine V_iload_n hX dX3_kindOf_2 1 rfl ?_
                              refine V_bipush (v := nI 7) hX dX3_kindOf_3 (by decide) ?_
                              refine V_icmp_geN (tgt := 25) hX dX3_kindOf_5 (by decide) (by omega) (by omega) (fun c5 => ?_) (fun c5 => ?_)
                              · refine V_bipush (v := (-6)) hX dX3_kindOf_25 (by decide) ?_
                                refine V_iret hX rfl dX3_kindOf_27 ?_
                                exact hR _ _ (by rw [kindI_no (by omega)] at hQ; exact hQ)
                              · exact absurd c5 (by decide)
                            · refine V_iload_n hX dX3_kindOf_17 1 rfl ?_
                              refine V_iret hX rfl dX3_kindOf_18 ?_
                              exact hR _ _ (by rw [show kindI n_ = nI 6 from by unfold kindI; rw [if_neg (by omega), if_neg (by omega), if_neg (by omega), if_neg (by omega), if_neg (by omega), if_neg (by omega), if_pos (by omega)]] at hQ; exact hQ)
                        · refine V_iload_n hX dX3_kindOf_17 1 rfl ?_
                          refine V_iret hX rfl dX3_kindOf_18 ?_
                          exact hR _ _ (by rw [show kindI n_ = nI 5 from by unfold kindI; rw [if_neg (by omega), if_neg (by omega), if_neg (by omega), if_neg (by omega), if_neg (by omega), if_pos (by omega)]] at hQ; exact hQ)
                    · refine V_iload_n hX dX3_kindOf_17 1 rfl ?_
                      refine V_iret hX rfl dX3_kindOf_18 ?_
                      exact hR _ _ (by rw [show kindI n_ = nI 4 from by unfold kindI; rw [if_neg (by omega), if_neg (by omega), if_neg (by omega), if_neg (by omega), if_pos (by omega)]] at hQ; exact hQ)
                · refine V_iload_n hX dX3_kindOf_17 1 rfl ?_
                  refine V_iret hX rfl dX3_kindOf_18 ?_
                  exact hR _ _ (by rw [show kindI n_ = nI 3 from by unfold kindI; rw [if_neg (by omega), if_neg (by omega), if_neg (by omega), if_pos (by omega)]] at hQ; exact hQ)
            · refine V_iload_n hX dX3_kindOf_17 1 rfl ?_
              refine V_iret hX rfl dX3_kindOf_18 ?_
              exact hR _ _ (by rw [show kindI n_ = nI 2 from by unfold kindI; rw [if_neg (by omega), if_neg (by omega), if_pos (by omega)]] at hQ; exact hQ)
        · refine V_iload_n hX dX3_kindOf_17 1 rfl ?_
          refine V_iret hX rfl dX3_kindOf_18 ?_
          exact hR _ _ (by rw [show kindI n_ = nI 1 from by unfold kindI; rw [if_neg (by omega), if_pos (by omega)]] at hQ; exact hQ)
    · refine V_iload_n hX dX3_kindOf_17 1 rfl ?_
      refine V_iret hX rfl dX3_kindOf_18 ?_
      exact hR _ _ (by rw [show kindI n_ = nI 0 from by unfold kindI; rw [if_pos (by omega)]] at hQ; exact hQ)
set_option maxRecDepth 100000 in
set_option maxHeartbeats 4000000 in
theorem lpC_firstFault {G : VG} {d : Nat} {μ : VS} {Q : Option Value → VS → Prop} {X : VX} {L : Nat} {S : Nat → Nat} (hX : Cx G (d + 1) yX3_firstFault cX3_firstFault 2 (some .int) X) (hR : ∀ r μ', Q r μ' → Ret G X r μ') (hL : isPad μ L S) (hS : ∀ i, i < L → 33 ≤ S i ∧ S i ≤ 126) (hL60 : L ≤ 60) (hQ : Q (some (.int (fltU S L))) μ) : ∀ (j k_ : Nat), k_ ≤ L → L + 1 ≤ k_ + j → (∀ i, i < k_ → isSg (S i)) → V G 2 X 2 [(0, .ref 31), (1, .int (nI k_))] [] μ := by
  intro j
  induction j with
  | zero =>
    intro k_ h1 h2
    exact absurd h2 (by omega)
  | succ j ih =>
    intro k_ h1 h2 hno
    refine V_iload_n hX dX3_firstFault_2 1 rfl ?_
    refine V_aload_n hX dX3_firstFault_3 0 rfl ?_
    refine V_getN (x := nI L) hX fX3_15 rfl hL.1 dX3_firstFault_4 ?_
    refine V_icmp_geN (tgt := 32) hX dX3_firstFault_7 (by decide) (by first | omega | (have := hS k_ (by omega); omega)) (by first | omega | (have := hS k_ (by omega); omega)) (fun c7 => ?_) (fun c7 => ?_)
    · refine V_bipush (v := (-6)) hX dX3_firstFault_32 (by decide) ?_
      refine V_iret hX rfl dX3_firstFault_34 ?_
      exact hR _ _ (by rw [flt_none L (fun i hi => hno i (by omega))] at hQ; exact hQ)
    · refine V_aload_n hX dX3_firstFault_10 0 rfl ?_
      refine V_getr (j := 32) hX fX3_9 rfl rfl dX3_firstFault_11 ?_
      refine V_iload_n hX dX3_firstFault_14 1 rfl ?_
      refine V_ialdN (x := nI (S k_)) hX rfl (by first | omega | (have := hS k_ (by omega); omega)) (by decide) (hL.2 _ (by omega)) dX3_firstFault_15 ?_
      refine V_callS (As := [.int (nI (S k_))]) (st := []) hX mX3_19 (k_kindOf (by first | omega | (have := hS k_ (by omega); omega)) ?_) rfl (Nat.le_of_ble_eq_true rfl) (Nat.le_of_ble_eq_true rfl) dX3_firstFault_16
      show V G 2 X 19 [(0, .ref 31), (1, .int (nI k_))] [.int (kindI (S k_))] μ
      refine V_bipush (v := (-6)) hX dX3_firstFault_19 (by decide) ?_
      refine V_icmp_ne (tgt := 26) hX dX3_firstFault_21 (by decide) (fun c21 => ?_) (fun c21 => ?_)
      · refine V_iincN (n := 1) (ls' := [(0, .ref 31), (1, .int (nI (k_ + 1)))]) hX dX3_firstFault_26 1 rfl (by decide) rfl ?_
        refine V_goto (tgt := 2) hX dX3_firstFault_29 (by decide) ?_
        exact ih (k_ + 1) (by omega) (by omega) (lt_s hno (Decidable.not_not.mp (fun z => c21 (kindI_no z))))
      · refine V_iload_n hX dX3_firstFault_24 1 rfl ?_
        refine V_iret hX rfl dX3_firstFault_25 ?_
        exact hR _ _ (by rw [flt_at L (by omega) (by omega) hno (fun z => kindI_yes z c21)] at hQ; exact hQ)
set_option maxRecDepth 100000 in
set_option maxHeartbeats 4000000 in
theorem kC_firstFault {G : VG} {d : Nat} {μ : VS} {Q : Option Value → VS → Prop} {L : Nat} {S : Nat → Nat} (hL : isPad μ L S) (hS : ∀ i, i < L → 33 ≤ S i ∧ S i ≤ 126) (hL60 : L ≤ 60) (hQ : Q (some (.int (fltU S L))) μ) : Call G (d + 1) yX3_firstFault cX3_firstFault 2 (some .int) [.ref 31] μ Q := by
  intro X hX hR
  show V G 2 X 0 [(0, .ref 31)] [] μ
  refine V_iconst (v := nI 0) hX dX3_firstFault_0 (by decide) ?_
  refine V_istore_n (ls' := [(0, .ref 31), (1, .int (nI 0))]) hX dX3_firstFault_1 (by decide) rfl ?_
  exact lpC_firstFault hX hR hL hS hL60 hQ (L + 1) 0 (by omega) (by omega) (fun i hi => absurd hi (by omega))
set_option maxRecDepth 100000 in
set_option maxHeartbeats 4000000 in
theorem lpM_faultOf {G : VG} {d : Nat} {μ : VS} {Q : Option Value → VS → Prop} {X : VX} {L : Nat} {S : Nat → Nat} (hX : Cx G (d + 1) yX9_faultOf cX9_faultOf 2 (some .int) X) (hR : ∀ r μ', Q r μ' → Ret G X r μ') (hL : isPadM μ L S) (hS : ∀ i, i < L → 33 ≤ S i ∧ S i ≤ 126) (hL60 : L ≤ 60) (hQ : Q (some (.int (fltU S L))) μ) : ∀ (j k_ : Nat), k_ ≤ L → L + 1 ≤ k_ + j → (∀ i, i < k_ → isSg (S i)) → V G 2 X 2 [(0, .ref 69), (1, .int (nI k_))] [] μ := by
  intro j
  induction j with
  | zero =>
    intro k_ h1 h2
    exact absurd h2 (by omega)
  | succ j ih =>
    intro k_ h1 h2 hno
    refine V_iload_n hX dX9_faultOf_2 1 rfl ?_
    refine V_aload_n hX dX9_faultOf_3 0 rfl ?_
    refine V_getN (x := nI L) hX fX9_103 rfl hL.1 dX9_faultOf_4 ?_
    refine V_icmp_geN (tgt := 30) hX dX9_faultOf_7 (by decide) (by first | omega | (have := hS k_ (by omega); omega)) (by first | omega | (have := hS k_ (by omega); omega)) (fun c7 => ?_) (fun c7 => ?_)
    · refine V_bipush (v := (-6)) hX dX9_faultOf_30 (by decide) ?_
      refine V_iret hX rfl dX9_faultOf_32 ?_
      exact hR _ _ (by rw [flt_none L (fun i hi => hno i (by omega))] at hQ; exact hQ)
    · refine V_aload_n hX dX9_faultOf_10 0 rfl ?_
      refine V_getr (j := 75) hX fX9_35 rfl rfl dX9_faultOf_11 ?_
      refine V_iload_n hX dX9_faultOf_14 1 rfl ?_
      refine V_ialdN (x := nI (S k_)) hX rfl (by first | omega | (have := hS k_ (by omega); omega)) (by decide) (hL.2 _ (by omega)) dX9_faultOf_15 ?_
      refine V_callS (As := [.int (nI (S k_))]) (st := []) hX mX9_106 (k_isSign (by first | omega | (have := hS k_ (by omega); omega)) ?_) rfl (Nat.le_of_ble_eq_true rfl) (Nat.le_of_ble_eq_true rfl) dX9_faultOf_16
      show V G 2 X 19 [(0, .ref 69), (1, .int (nI k_))] [.int (bI (isSg (S k_)))] μ
      refine V_if_neB (tgt := 24) hX dX9_faultOf_19 (by decide) (fun c19 => ?_) (fun c19 => ?_)
      · refine V_iincN (n := 1) (ls' := [(0, .ref 69), (1, .int (nI (k_ + 1)))]) hX dX9_faultOf_24 1 rfl (by decide) rfl ?_
        refine V_goto (tgt := 2) hX dX9_faultOf_27 (by decide) ?_
        exact ih (k_ + 1) (by omega) (by omega) (lt_s hno (c19))
      · refine V_iload_n hX dX9_faultOf_22 1 rfl ?_
        refine V_iret hX rfl dX9_faultOf_23 ?_
        exact hR _ _ (by rw [flt_at L (by omega) (by omega) hno c19] at hQ; exact hQ)
set_option maxRecDepth 100000 in
set_option maxHeartbeats 4000000 in
theorem kM_faultOf {G : VG} {d : Nat} {μ : VS} {Q : Option Value → VS → Prop} {L : Nat} {S : Nat → Nat} (hL : isPadM μ L S) (hS : ∀ i, i < L → 33 ≤ S i ∧ S i ≤ 126) (hL60 : L ≤ 60) (hQ : Q (some (.int (fltU S L))) μ) : Call G (d + 1) yX9_faultOf cX9_faultOf 2 (some .int) [.ref 69] μ Q := by
  intro X hX hR
  show V G 2 X 0 [(0, .ref 69)] [] μ
  refine V_iconst (v := nI 0) hX dX9_faultOf_0 (by decide) ?_
  refine V_istore_n (ls' := [(0, .ref 69), (1, .int (nI 0))]) hX dX9_faultOf_1 (by decide) rfl ?_
  exact lpM_faultOf hX hR hL hS hL60 hQ (L + 1) 0 (by omega) (by omega) (fun i hi => absurd hi (by omega))
set_option maxRecDepth 100000 in
set_option maxHeartbeats 4000000 in
theorem kC_hasFault {G : VG} {d : Nat} {μ : VS} {Q : Option Value → VS → Prop} {L : Nat} {S : Nat → Nat} (hL : isPad μ L S) (hS : ∀ i, i < L → 33 ≤ S i ∧ S i ≤ 126) (hL60 : L ≤ 60) (hQ : Q (some (.int (bI (¬ fltU S L = -6)))) μ) : Call G (d + 2) yX3_hasFault cX3_hasFault 1 (some .boolean) [.ref 31] μ Q := by
  intro X hX hR
  show V G 1 X 0 [(0, .ref 31)] [] μ
  refine V_aload_n hX dX3_hasFault_0 0 rfl ?_
  refine V_callV (As := []) (st := []) hX mX3_23 rfl (kC_firstFault hL hS hL60 ?_) rfl (Nat.le_of_ble_eq_true rfl) (Nat.le_of_ble_eq_true rfl) dX3_hasFault_1
  show V G 1 X 4 [(0, .ref 31)] [.int (fltU S L)] μ
  refine V_bipush (v := (-6)) hX dX3_hasFault_4 (by decide) ?_
  refine V_icmp_eq (tgt := 13) hX dX3_hasFault_6 (by decide) (fun c6 => ?_) (fun c6 => ?_)
  · refine V_iconst (v := nI 0) hX dX3_hasFault_13 (by decide) ?_
    refine V_zret hX rfl rfl dX3_hasFault_14 ?_
    exact hR _ _ (ret0 (fun z => z c6) hQ)
  · refine V_iconst (v := nI 1) hX dX3_hasFault_9 (by decide) ?_
    refine V_goto (tgt := 14) hX dX3_hasFault_10 (by decide) ?_
    refine V_zret hX rfl rfl dX3_hasFault_14 ?_
    exact hR _ _ (ret1 c6 hQ)
set_option maxRecDepth 100000 in
set_option maxHeartbeats 4000000 in
theorem kC_fault {G : VG} {d : Nat} {μ : VS} {Q : Option Value → VS → Prop} {L : Nat} {S : Nat → Nat} (hL : isPad μ L S) (hS : ∀ i, i < L → 33 ≤ S i ∧ S i ≤ 126) (hL60 : L ≤ 60) (hQ : Q (some (.int (fltU S L))) μ) : Call G (d + 2) yX8_fault cX8_fault 1 (some .int) [.ref 0] μ Q := by
  intro X hX hR
  show V G 1 X 0 [(0, .ref 0)] [] μ
  refine V_aload_n hX dX8_fault_0 0 rfl ?_
  refine V_getr (j := 31) hX fX8_30 rfl rfl dX8_fault_1 ?_
  refine V_callV (As := []) (st := []) hX mX8_134 rfl (kC_firstFault hL hS hL60 ?_) rfl (Nat.le_of_ble_eq_true rfl) (Nat.le_of_ble_eq_true rfl) dX8_fault_4
  show V G 1 X 7 [(0, .ref 0)] [.int (fltU S L)] μ
  refine V_iret hX rfl dX8_fault_7 ?_
  exact hR _ _ hQ
set_option maxRecDepth 100000 in
set_option maxHeartbeats 4000000 in
theorem kM_fault {G : VG} {d : Nat} {μ : VS} {Q : Option Value → VS → Prop} {L : Nat} {S : Nat → Nat} (hL : isPadM μ L S) (hS : ∀ i, i < L → 33 ≤ S i ∧ S i ≤ 126) (hL60 : L ≤ 60) (hQ : Q (some (.int (fltU S L))) μ) : Call G (d + 2) yX9_fault cX9_fault 1 (some .int) [.ref 69] μ Q := by
  intro X hX hR
  show V G 1 X 0 [(0, .ref 69)] [] μ
  refine V_aload_n hX dX9_fault_0 0 rfl ?_
  refine V_callV (As := []) (st := []) hX mX9_109 rfl (kM_faultOf hL hS hL60 ?_) rfl (Nat.le_of_ble_eq_true rfl) (Nat.le_of_ble_eq_true rfl) dX9_fault_1
  show V G 1 X 4 [(0, .ref 69)] [.int (fltU S L)] μ
  refine V_iret hX rfl dX9_fault_4 ?_
  exact hR _ _ hQ
