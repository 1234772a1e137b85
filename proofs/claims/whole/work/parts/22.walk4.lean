theorem vup_ne {α : Type} {f : Nat → Nat → α} {i k q : Nat} {x : α} (h : q ≠ k) : vup f i k x i q = f i q := by
  rw [vup_get, if_neg (fun z => h z.2)]
theorem nod_pres {P : PC} {l : Nat → Nat} {h : Nat} (q : nodF P l h = true) : pPres P h = true := by
  unfold nodF at q
  simp only [Bool.and_eq_true] at q
  exact q.1.1
theorem agr_pres {P : PC} {sg : Nat} {l : Nat → Nat} {h : Nat} (q : agrF P sg l h = true) : pPres P h = true := by
  unfold agrF at q
  simp only [Bool.and_eq_true] at q
  exact q.1.1.1.1
theorem sm_lt12 {P : PC} (h12 : ∀ h, h < 8 → P 1 h < 12) (f : Nat → Bool) {n : Nat} (hn : n ≤ 8) : sm (P 1) f n < 4096 := sm_lt (m := 12) (fun h hh _ => h12 h (by omega))
/-- heads under way -/
def fhR (P : PC) (sg : Nat) (l : Nat → Nat) (w : Nat) (μ μ1 : VS) (k : Nat) : Prop := (∀ a, a ≠ w → μ1.1 a = μ.1 a) ∧ (∀ q, q < 3 ∨ 6 < q → μ1.1 w q = μ.1 w q) ∧ μ1.1 w 3 = nI (sm (P 1) (pPres P) k) ∧ μ1.1 w 4 = nI (sm (P 1) (nodF P l) k) ∧ μ1.1 w 5 = nI (sm (P 1) (agrF P sg l) k) ∧ μ1.2 = μ.2
theorem sm_y {s : Nat → Nat} {f : Nat → Bool} {k : Nat} (h : f k = true) : sm s f (k + 1) = sm s f k ||| 1 <<< s k := if_pos h
theorem sm_n {s : Nat → Nat} {f : Nat → Bool} {k : Nat} (h : ¬ f k = true) : sm s f (k + 1) = sm s f k := if_neg h
theorem fhR.put3 {P : PC} {sg : Nat} {l : Nat → Nat} {w : Nat} {μ μ1 : VS} {k a b c : Nat} (h1 : ∀ a, a ≠ w → μ1.1 a = μ.1 a) (h2 : ∀ q, q < 3 ∨ 6 < q → μ1.1 w q = μ.1 w q) (h6 : μ1.2 = μ.2) (ha : μ1.1 w 3 = nI a) (hb : μ1.1 w 4 = nI b) (hc : μ1.1 w 5 = nI c) (ea : sm (P 1) (pPres P) k = a) (eb : sm (P 1) (nodF P l) k = b) (ec : sm (P 1) (agrF P sg l) k = c) : fhR P sg l w μ μ1 k := ⟨h1, h2, by rw [ha, ea], by rw [hb, eb], by rw [hc, ec], h6⟩
set_option maxRecDepth 100000 in
set_option maxHeartbeats 4000000 in
theorem lp_heads {G : VG} {d : Nat} {X : VX} {μ : VS} {w_ p_ sg_ : Nat} {P : PC} {l_ : Nat → Nat} (hX : Cx G (d + 2) yX6_findHeads cX6_findHeads 5 none X) (hkw : vk w_ = (5, 0)) (hkp : vk p_ = (3, 0)) (hP0 : isP μ p_ P) (hok : okP P) (hsg : sg_ < 1000) (hl0 : ∀ h, h < 8 → μ.1 (w_ + 1) h = nI (l_ h)) (hl20 : ∀ h, h < 8 → l_ h ≤ 20)  (hE : ∀ μ1, fhR P sg_ l_ w_ μ μ1 8 → V G 5 X 116 [(0, .ref w_), (1, .ref p_), (2, .int (nI sg_)), (3, .int (nI 8))] [] μ1) : ∀ (j k_ : Nat) (μ1 : VS), k_ ≤ 8 → 9 ≤ k_ + j → fhR P sg_ l_ w_ μ μ1 k_ → V G 5 X 17 [(0, .ref w_), (1, .ref p_), (2, .int (nI sg_)), (3, .int (nI k_))] [] μ1 := by
  have hap := pw_apart hkp hkw
  have hP4 := hok.2.2.2.2.1
  have hP5 := hok.2.2.2.2.2.1
  have h12 : ∀ h, h < 8 → P 1 h < 12 := fun h hh => (hok.2.2.2.2.2.2.2.1 h hh).1
  intro j
  induction j with
  | zero =>
    intro k_ μ1 h1 h2
    exact absurd h2 (by omega)
  | succ j ih =>
    intro k_ μ1 h1 h2 hF
    have hP : isP μ1 p_ P := hP0.frame (fun j hj => hF.1 _ (by omega))
    refine V_iload_n hX dX6_findHeads_17 3 rfl ?_
    refine V_bipush (v := nI 8) hX dX6_findHeads_18 (by decide) ?_
    refine V_icmp_geN (tgt := 116) hX dX6_findHeads_20 (by decide) (by first | omega | (have := h12 k_ (by omega); omega) | (have := h12 k_ (by omega); have : 2 ^ P 1 k_ < 2 ^ 12 := Nat.pow_lt_pow_right (by decide) this; omega)) (by first | omega | (have := h12 k_ (by omega); omega) | (have := h12 k_ (by omega); have : 2 ^ P 1 k_ < 2 ^ 12 := Nat.pow_lt_pow_right (by decide) this; omega)) (fun c20 => ?_) (fun c20 => ?_)
    · obtain rfl : k_ = 8 := by omega
      exact hE μ1 hF
    · have hl1 : μ1.1 (w_ + 1) k_ = nI (l_ k_) := by rw [hF.1 (w_ + 1) (by omega)]; exact hl0 k_ (by omega)
      have hc4 := (hok.2.2.2.2.2.2.2.1 k_ (by omega)).2.2.2
      have hl2 := hl20 k_ (by omega)
      refine V_aload_n hX dX6_findHeads_23 1 rfl ?_
      refine V_iload_n hX dX6_findHeads_24 3 rfl ?_
      refine V_callV (As := [.int (nI k_)]) (st := []) hX mX6_94 hkp (kC_isThere hkp hP (by omega) ?_) rfl (Nat.le_of_ble_eq_true rfl) (Nat.le_of_ble_eq_true rfl) dX6_findHeads_25
      show V G 5 X 28 [(0, .ref w_), (1, .ref p_), (2, .int (nI sg_)), (3, .int (nI k_))] [.int (bI (thr P (nI k_)))] μ1
      refine V_if_eqB (tgt := 110) hX dX6_findHeads_28 (by decide) (fun c28 => ?_) (fun c28 => ?_)
      · refine V_iincN (n := 1) (ls' := [(0, .ref w_), (1, .ref p_), (2, .int (nI sg_)), (3, .int (nI (k_ + 1)))]) hX dX6_findHeads_110 3 rfl (by decide) rfl ?_
        refine V_goto (tgt := 17) hX dX6_findHeads_113 (by decide) ?_
        have hnp : ¬ pPres P k_ = true := fun z => c28 (thr_of (by omega) z)
        exact V_sub [0, 1, 2, 3] rfl (ih (k_ + 1) _ (by omega) (by omega) ⟨hF.1, hF.2.1, by rw [sm_n hnp]; exact hF.2.2.1, by rw [sm_n (fun z => hnp (nod_pres z))]; exact hF.2.2.2.1, by rw [sm_n (fun z => hnp (agr_pres z))]; exact hF.2.2.2.2.1, hF.2.2.2.2.2⟩)
      · refine V_iconst (v := nI 1) hX dX6_findHeads_31 (by decide) ?_
        refine V_aload_n hX dX6_findHeads_32 1 rfl ?_
        refine V_getr (j := p_ + 1) hX fX6_114 hkp rfl dX6_findHeads_33 ?_
        refine V_iload_n hX dX6_findHeads_36 3 rfl ?_
        refine V_ialdN (x := nI (P 1 k_)) hX (vk_par hkp 0 (by decide)) (by first | omega | (have := h12 k_ (by omega); omega) | (have := h12 k_ (by omega); have : 2 ^ P 1 k_ < 2 ^ 12 := Nat.pow_lt_pow_right (by decide) this; omega)) (by decide) (hP.2 0 (by decide) k_ (by omega)) dX6_findHeads_37 ?_
        refine V_ishlN hX dX6_findHeads_38 (by first | omega | (have := h12 k_ (by omega); omega) | (have := h12 k_ (by omega); have : 2 ^ P 1 k_ < 2 ^ 12 := Nat.pow_lt_pow_right (by decide) this; omega)) (by first | omega | (have := h12 k_ (by omega); omega) | (have := h12 k_ (by omega); have : 2 ^ P 1 k_ < 2 ^ 12 := Nat.pow_lt_pow_right (by decide) this; omega)) ?_
        refine V_istore (ls' := [(0, .ref w_), (1, .ref p_), (2, .int (nI sg_)), (3, .int (nI k_)), (4, .int (nI (1 <<< (P 1 k_))))]) hX dX6_findHeads_39 (by decide) rfl ?_
        refine V_aload_n hX dX6_findHeads_41 0 rfl ?_
        refine V_dup hX dX6_findHeads_42 rfl ?_
        refine V_getN (x := nI (sm (P 1) (pPres P) k_)) hX fX6_22 hkw hF.2.2.1 dX6_findHeads_43 ?_
        refine V_iload hX dX6_findHeads_46 4 rfl ?_
        refine V_iorN hX dX6_findHeads_48 ?_
        refine V_puti hX fX6_22 fw_5_3 hkw dX6_findHeads_49 ?_
        show V G 5 X 52 [(0, .ref w_), (1, .ref p_), (2, .int (nI sg_)), (3, .int (nI k_)), (4, .int (nI (1 <<< (P 1 k_))))] [] (vup μ1.1 w_ 3 (nI ((sm (P 1) (pPres P) k_) ||| (1 <<< (P 1 k_)))), μ1.2)
        have hPa : isP (vup μ1.1 w_ 3 (nI ((sm (P 1) (pPres P) k_) ||| (1 <<< (P 1 k_)))), μ1.2) p_ P := hP.frame (fun j hj => by dsimp only; rw [vup_row _ _ _ (by omega)])
        refine V_aload_n hX dX6_findHeads_52 1 rfl ?_
        refine V_iload_n hX dX6_findHeads_53 3 rfl ?_
        refine V_callV (As := [.int (nI k_)]) (st := []) hX mX6_120 hkp (kC_isUpright hkp hPa (by omega) (by omega) ?_) rfl (Nat.le_of_ble_eq_true rfl) (Nat.le_of_ble_eq_true rfl) dX6_findHeads_54
        show V G 5 X 57 [(0, .ref w_), (1, .ref p_), (2, .int (nI sg_)), (3, .int (nI k_)), (4, .int (nI (1 <<< (P 1 k_))))] [.int (bI (pUpr P k_ = true))] (vup μ1.1 w_ 3 (nI ((sm (P 1) (pPres P) k_) ||| (1 <<< (P 1 k_)))), μ1.2)
        refine V_if_neB (tgt := 110) hX dX6_findHeads_57 (by decide) (fun c57 => ?_) (fun c57 => ?_)
        · refine V_iincN (n := 1) (ls' := [(0, .ref w_), (1, .ref p_), (2, .int (nI sg_)), (3, .int (nI (k_ + 1))), (4, .int (nI (1 <<< (P 1 k_))))]) hX dX6_findHeads_110 3 rfl (by decide) rfl ?_
          refine V_goto (tgt := 17) hX dX6_findHeads_113 (by decide) ?_
          have hpp := thr_pres (by omega) c28
          exact V_sub [0, 1, 2, 3] rfl (ih (k_ + 1) _ (by omega) (by omega) (fhR.put3 (μ1 := (vup μ1.1 w_ 3 (nI ((sm (P 1) (pPres P) k_) ||| (1 <<< (P 1 k_)))), μ1.2)) (fun a ha => by dsimp only; (try simp only [vup_row _ _ _ ha]); exact hF.1 a ha) (fun q hq => by dsimp only; (try rw [vup_ne (by omega)]); (try rw [vup_ne (by omega)]); exact hF.2.1 q hq) hF.2.2.2.2.2 (vup_same _ _ _ _) ((vup_ne (by decide)).trans hF.2.2.2.1) ((vup_ne (by decide)).trans hF.2.2.2.2.1) (sm_y hpp) (sm_n (by unfold nodF; simp [c57])) (sm_n (by unfold agrF; simp [c57]))))
        · refine V_aload_n hX dX6_findHeads_60 0 rfl ?_
          refine V_getr (j := w_ + 1) hX fX6_9 hkw rfl dX6_findHeads_61 ?_
          refine V_iload_n hX dX6_findHeads_64 3 rfl ?_
          refine V_ialdN (x := nI (l_ k_)) hX (vk_wlk hkw) (by first | omega | (have := h12 k_ (by omega); omega) | (have := h12 k_ (by omega); have : 2 ^ P 1 k_ < 2 ^ 12 := Nat.pow_lt_pow_right (by decide) this; omega)) (by decide) ((congrFun (vup_row _ _ _ (show w_ + 1 ≠ w_ by omega)) _).trans hl1) dX6_findHeads_65 ?_
          refine V_if_neN (tgt := 83) hX dX6_findHeads_66 (by decide) (by first | omega | (have := h12 k_ (by omega); omega) | (have := h12 k_ (by omega); have : 2 ^ P 1 k_ < 2 ^ 12 := Nat.pow_lt_pow_right (by decide) this; omega)) (fun c66 => ?_) (fun c66 => ?_)
          · refine V_iload_n hX dX6_findHeads_83 2 rfl ?_
            refine V_bipush (v := nI 99) hX dX6_findHeads_84 (by decide) ?_
            refine V_icmp_neN (tgt := 110) hX dX6_findHeads_86 (by decide) (by first | omega | (have := h12 k_ (by omega); omega) | (have := h12 k_ (by omega); have : 2 ^ P 1 k_ < 2 ^ 12 := Nat.pow_lt_pow_right (by decide) this; omega)) (by first | omega | (have := h12 k_ (by omega); omega) | (have := h12 k_ (by omega); have : 2 ^ P 1 k_ < 2 ^ 12 := Nat.pow_lt_pow_right (by decide) this; omega)) (fun c86 => ?_) (fun c86 => ?_)
            · refine V_iincN (n := 1) (ls' := [(0, .ref w_), (1, .ref p_), (2, .int (nI sg_)), (3, .int (nI (k_ + 1))), (4, .int (nI (1 <<< (P 1 k_))))]) hX dX6_findHeads_110 3 rfl (by decide) rfl ?_
              refine V_goto (tgt := 17) hX dX6_findHeads_113 (by decide) ?_
              have hpp := thr_pres (by omega) c28
              exact V_sub [0, 1, 2, 3] rfl (ih (k_ + 1) _ (by omega) (by omega) (fhR.put3 (μ1 := (vup μ1.1 w_ 3 (nI ((sm (P 1) (pPres P) k_) ||| (1 <<< (P 1 k_)))), μ1.2)) (fun a ha => by dsimp only; (try simp only [vup_row _ _ _ ha]); exact hF.1 a ha) (fun q hq => by dsimp only; (try rw [vup_ne (by omega)]); (try rw [vup_ne (by omega)]); exact hF.2.1 q hq) hF.2.2.2.2.2 (vup_same _ _ _ _) ((vup_ne (by decide)).trans hF.2.2.2.1) ((vup_ne (by decide)).trans hF.2.2.2.2.1) (sm_y hpp) (sm_n (by unfold nodF; simp [c66])) (sm_n (by unfold agrF; simp [c86]))))
            · refine V_aload_n hX dX6_findHeads_89 1 rfl ?_
              refine V_getr (j := p_ + 4) hX fX6_123 hkp rfl dX6_findHeads_90 ?_
              refine V_iload_n hX dX6_findHeads_93 3 rfl ?_
              refine V_ialdN (x := nI (P 4 k_)) hX (vk_par hkp 3 (by decide)) (by first | omega | (have := h12 k_ (by omega); omega) | (have := h12 k_ (by omega); have : 2 ^ P 1 k_ < 2 ^ 12 := Nat.pow_lt_pow_right (by decide) this; omega)) (by decide) ((congrFun (vup_row _ _ _ (show p_ + 4 ≠ w_ by omega)) _).trans (hP.2 3 (by decide) k_ (by omega))) dX6_findHeads_94 ?_
              refine V_iconst (v := nI 1) hX dX6_findHeads_95 (by decide) ?_
              refine V_icmp_neN (tgt := 110) hX dX6_findHeads_96 (by decide) (by first | omega | (have := h12 k_ (by omega); omega) | (have := h12 k_ (by omega); have : 2 ^ P 1 k_ < 2 ^ 12 := Nat.pow_lt_pow_right (by decide) this; omega)) (by first | omega | (have := h12 k_ (by omega); omega) | (have := h12 k_ (by omega); have : 2 ^ P 1 k_ < 2 ^ 12 := Nat.pow_lt_pow_right (by decide) this; omega)) (fun c96 => ?_) (fun c96 => ?_)
              · refine V_iincN (n := 1) (ls' := [(0, .ref w_), (1, .ref p_), (2, .int (nI sg_)), (3, .int (nI (k_ + 1))), (4, .int (nI (1 <<< (P 1 k_))))]) hX dX6_findHeads_110 3 rfl (by decide) rfl ?_
                refine V_goto (tgt := 17) hX dX6_findHeads_113 (by decide) ?_
                have hpp := thr_pres (by omega) c28
                exact V_sub [0, 1, 2, 3] rfl (ih (k_ + 1) _ (by omega) (by omega) (fhR.put3 (μ1 := (vup μ1.1 w_ 3 (nI ((sm (P 1) (pPres P) k_) ||| (1 <<< (P 1 k_)))), μ1.2)) (fun a ha => by dsimp only; (try simp only [vup_row _ _ _ ha]); exact hF.1 a ha) (fun q hq => by dsimp only; (try rw [vup_ne (by omega)]); (try rw [vup_ne (by omega)]); exact hF.2.1 q hq) hF.2.2.2.2.2 (vup_same _ _ _ _) ((vup_ne (by decide)).trans hF.2.2.2.1) ((vup_ne (by decide)).trans hF.2.2.2.2.1) (sm_y hpp) (sm_n (by unfold nodF; simp [c66])) (sm_n (by unfold agrF; simp [c96]))))
              · refine V_aload_n hX dX6_findHeads_99 0 rfl ?_
                refine V_dup hX dX6_findHeads_100 rfl ?_
                refine V_getN (x := nI (sm (P 1) (agrF P sg_ l_) k_)) hX fX6_28 hkw ((vup_ne (by decide)).trans hF.2.2.2.2.1) dX6_findHeads_101 ?_
                refine V_iload hX dX6_findHeads_104 4 rfl ?_
                refine V_iorN hX dX6_findHeads_106 ?_
                refine V_puti hX fX6_28 fw_5_5 hkw dX6_findHeads_107 ?_
                show V G 5 X 110 [(0, .ref w_), (1, .ref p_), (2, .int (nI sg_)), (3, .int (nI k_)), (4, .int (nI (1 <<< (P 1 k_))))] [] (vup (vup μ1.1 w_ 3 (nI ((sm (P 1) (pPres P) k_) ||| (1 <<< (P 1 k_))))) w_ 5 (nI ((sm (P 1) (agrF P sg_ l_) k_) ||| (1 <<< (P 1 k_)))), μ1.2)
                refine V_iincN (n := 1) (ls' := [(0, .ref w_), (1, .ref p_), (2, .int (nI sg_)), (3, .int (nI (k_ + 1))), (4, .int (nI (1 <<< (P 1 k_))))]) hX dX6_findHeads_110 3 rfl (by decide) rfl ?_
                refine V_goto (tgt := 17) hX dX6_findHeads_113 (by decide) ?_
                have hpp := thr_pres (by omega) c28
                exact V_sub [0, 1, 2, 3] rfl (ih (k_ + 1) _ (by omega) (by omega) (fhR.put3 (μ1 := (vup (vup μ1.1 w_ 3 (nI ((sm (P 1) (pPres P) k_) ||| (1 <<< (P 1 k_))))) w_ 5 (nI ((sm (P 1) (agrF P sg_ l_) k_) ||| (1 <<< (P 1 k_)))), μ1.2)) (fun a ha => by dsimp only; (try simp only [vup_row _ _ _ ha]); exact hF.1 a ha) (fun q hq => by dsimp only; (try rw [vup_ne (by omega)]); (try rw [vup_ne (by omega)]); exact hF.2.1 q hq) hF.2.2.2.2.2 ((vup_ne (by decide)).trans (vup_same _ _ _ _)) ((vup_ne (by decide)).trans ((vup_ne (by decide)).trans hF.2.2.2.1)) (vup_same _ _ _ _) (sm_y hpp) (sm_n (by unfold nodF; simp [c66])) (sm_y (by unfold agrF; simp [hpp, c57, c66, c86, c96]))))
          · refine V_aload_n hX dX6_findHeads_69 0 rfl ?_
            refine V_dup hX dX6_findHeads_70 rfl ?_
            refine V_getN (x := nI (sm (P 1) (nodF P l_) k_)) hX fX6_25 hkw ((vup_ne (by decide)).trans hF.2.2.2.1) dX6_findHeads_71 ?_
            refine V_iload hX dX6_findHeads_74 4 rfl ?_
            refine V_iorN hX dX6_findHeads_76 ?_
            refine V_puti hX fX6_25 fw_5_4 hkw dX6_findHeads_77 ?_
            show V G 5 X 80 [(0, .ref w_), (1, .ref p_), (2, .int (nI sg_)), (3, .int (nI k_)), (4, .int (nI (1 <<< (P 1 k_))))] [] (vup (vup μ1.1 w_ 3 (nI ((sm (P 1) (pPres P) k_) ||| (1 <<< (P 1 k_))))) w_ 4 (nI ((sm (P 1) (nodF P l_) k_) ||| (1 <<< (P 1 k_)))), μ1.2)
            refine V_goto (tgt := 110) hX dX6_findHeads_80 (by decide) ?_
            refine V_iincN (n := 1) (ls' := [(0, .ref w_), (1, .ref p_), (2, .int (nI sg_)), (3, .int (nI (k_ + 1))), (4, .int (nI (1 <<< (P 1 k_))))]) hX dX6_findHeads_110 3 rfl (by decide) rfl ?_
            refine V_goto (tgt := 17) hX dX6_findHeads_113 (by decide) ?_
            have hpp := thr_pres (by omega) c28
            exact V_sub [0, 1, 2, 3] rfl (ih (k_ + 1) _ (by omega) (by omega) (fhR.put3 (μ1 := (vup (vup μ1.1 w_ 3 (nI ((sm (P 1) (pPres P) k_) ||| (1 <<< (P 1 k_))))) w_ 4 (nI ((sm (P 1) (nodF P l_) k_) ||| (1 <<< (P 1 k_)))), μ1.2)) (fun a ha => by dsimp only; (try simp only [vup_row _ _ _ ha]); exact hF.1 a ha) (fun q hq => by dsimp only; (try rw [vup_ne (by omega)]); (try rw [vup_ne (by omega)]); exact hF.2.1 q hq) hF.2.2.2.2.2 ((vup_ne (by decide)).trans (vup_same _ _ _ _)) (vup_same _ _ _ _) ((vup_ne (by decide)).trans ((vup_ne (by decide)).trans hF.2.2.2.2.1)) (sm_y hpp) (sm_y (by unfold nodF; simp [hpp, c57, c66])) (sm_n (by unfold agrF; simp [c66]))))
set_option maxRecDepth 100000 in
set_option maxHeartbeats 4000000 in
theorem k_findHeads {G : VG} {d : Nat} {μ : VS} {Q : Option Value → VS → Prop} {w_ p_ sg_ : Nat} {P : PC} {l_ : Nat → Nat} (hkw : vk w_ = (5, 0)) (hkp : vk p_ = (3, 0)) (hP0 : isP μ p_ P) (hok : okP P) (hsg : sg_ < 1000) (hl0 : ∀ h, h < 8 → μ.1 (w_ + 1) h = nI (l_ h)) (hl20 : ∀ h, h < 8 → l_ h ≤ 20) (hQ : ∀ μ', (∀ a, a ≠ w_ → μ'.1 a = μ.1 a) → (∀ q, q < 3 ∨ 6 < q → μ'.1 w_ q = μ.1 w_ q) → μ'.1 w_ 3 = nI (sm (P 1) (pPres P) 8) → μ'.1 w_ 4 = nI (sm (P 1) (nodF P l_) 8) → μ'.1 w_ 5 = nI (sm (P 1) (agrF P sg_ l_) 8) → μ'.1 w_ 6 = nI (sm (P 1) (snoF P (nodF P l_)) 8) → μ'.2 = μ.2 → Q none μ') : Call G (d + 2) yX6_findHeads cX6_findHeads 5 none [.ref w_, .ref p_, .int (nI sg_)] μ Q := by
  intro X hX hR
  have hap := pw_apart hkp hkw
  have hP4 := hok.2.2.2.2.1
  have hP5 := hok.2.2.2.2.2.1
  have h12 : ∀ h, h < 8 → P 1 h < 12 := fun h hh => (hok.2.2.2.2.2.2.2.1 h hh).1
  show V G 5 X 0 [(0, .ref w_), (1, .ref p_), (2, .int (nI sg_))] [] μ
  refine V_aload_n hX dX6_findHeads_0 0 rfl ?_
  refine V_iconst (v := nI 0) hX dX6_findHeads_1 (by decide) ?_
  refine V_puti hX fX6_22 fw_5_3 hkw dX6_findHeads_2 ?_
  show V G 5 X 5 [(0, .ref w_), (1, .ref p_), (2, .int (nI sg_))] [] (vup μ.1 w_ 3 (nI 0), μ.2)
  refine V_aload_n hX dX6_findHeads_5 0 rfl ?_
  refine V_iconst (v := nI 0) hX dX6_findHeads_6 (by decide) ?_
  refine V_puti hX fX6_25 fw_5_4 hkw dX6_findHeads_7 ?_
  show V G 5 X 10 [(0, .ref w_), (1, .ref p_), (2, .int (nI sg_))] [] (vup (vup μ.1 w_ 3 (nI 0)) w_ 4 (nI 0), μ.2)
  refine V_aload_n hX dX6_findHeads_10 0 rfl ?_
  refine V_iconst (v := nI 0) hX dX6_findHeads_11 (by decide) ?_
  refine V_puti hX fX6_28 fw_5_5 hkw dX6_findHeads_12 ?_
  show V G 5 X 15 [(0, .ref w_), (1, .ref p_), (2, .int (nI sg_))] [] (vup (vup (vup μ.1 w_ 3 (nI 0)) w_ 4 (nI 0)) w_ 5 (nI 0), μ.2)
  refine V_iconst (v := nI 0) hX dX6_findHeads_15 (by decide) ?_
  refine V_istore_n (ls' := [(0, .ref w_), (1, .ref p_), (2, .int (nI sg_)), (3, .int (nI 0))]) hX dX6_findHeads_16 (by decide) rfl ?_
  refine lp_heads hX hkw hkp hP0 hok hsg hl0 hl20 (fun μ1 hF => ?_) 9 0 _ (by decide) (by decide) ⟨fun a ha => by dsimp only; rw [vup_row _ _ _ ha, vup_row _ _ _ ha, vup_row _ _ _ ha], fun q hq => by dsimp only; rw [vup_ne (by omega), vup_ne (by omega), vup_ne (by omega)], (vup_ne (by decide)).trans ((vup_ne (by decide)).trans (vup_same _ _ _ _)), (vup_ne (by decide)).trans (vup_same _ _ _ _), vup_same _ _ _ _, rfl⟩
  refine V_aload_n hX dX6_findHeads_116 0 rfl ?_
  refine V_aload_n hX dX6_findHeads_117 0 rfl ?_
  refine V_getN (x := nI (sm (P 1) (nodF P l_) 8)) hX fX6_25 hkw hF.2.2.2.1 dX6_findHeads_118 ?_
  refine V_aload_n hX dX6_findHeads_121 0 rfl ?_
  refine V_getN (x := nI (sm (P 1) (nodF P l_) 8)) hX fX6_25 hkw hF.2.2.2.1 dX6_findHeads_122 ?_
  refine V_callS (As := [.int (nI (sm (P 1) (nodF P l_) 8))]) (st := [.int (nI (sm (P 1) (nodF P l_) 8)), .ref w_]) hX mX6_126 (k_rightOf (sm_lt12 h12 _ (by decide)) ?_) rfl (Nat.le_of_ble_eq_true rfl) (Nat.le_of_ble_eq_true rfl) dX6_findHeads_125
  show V G 5 X 128 [(0, .ref w_), (1, .ref p_), (2, .int (nI sg_)), (3, .int (nI 8))] [.int (nI (rgtM (sm (P 1) (nodF P l_) 8))), .int (nI (sm (P 1) (nodF P l_) 8)), .ref w_] μ1
  refine V_iandN hX dX6_findHeads_128 ?_
  refine V_aload_n hX dX6_findHeads_129 0 rfl ?_
  refine V_getN (x := nI (sm (P 1) (nodF P l_) 8)) hX fX6_25 hkw hF.2.2.2.1 dX6_findHeads_130 ?_
  refine V_callS (As := [.int (nI (sm (P 1) (nodF P l_) 8))]) (st := [.int (nI ((sm (P 1) (nodF P l_) 8) &&& (rgtM (sm (P 1) (nodF P l_) 8)))), .ref w_]) hX mX6_129 (k_leftOf (sm_lt12 h12 _ (by decide)) ?_) rfl (Nat.le_of_ble_eq_true rfl) (Nat.le_of_ble_eq_true rfl) dX6_findHeads_133
  show V G 5 X 136 [(0, .ref w_), (1, .ref p_), (2, .int (nI sg_)), (3, .int (nI 8))] [.int (nI (lftM (sm (P 1) (nodF P l_) 8))), .int (nI ((sm (P 1) (nodF P l_) 8) &&& (rgtM (sm (P 1) (nodF P l_) 8)))), .ref w_] μ1
  refine V_iandN hX dX6_findHeads_136 ?_
  rw [show ((sm (P 1) (nodF P l_) 8) &&& (rgtM (sm (P 1) (nodF P l_) 8))) &&& (lftM (sm (P 1) (nodF P l_) 8)) = sm (P 1) (snoF P (nodF P l_)) 8 from sno_mask h12]
  refine V_puti hX fX6_31 fw_5_6 hkw dX6_findHeads_137 ?_
  show V G 5 X 140 [(0, .ref w_), (1, .ref p_), (2, .int (nI sg_)), (3, .int (nI 8))] [] (vup μ1.1 w_ 6 (nI (sm (P 1) (snoF P (nodF P l_)) 8)), μ1.2)
  refine V_vret hX rfl dX6_findHeads_140 ?_
  exact hR _ _ (hQ _ (fun a ha => by dsimp only; rw [vup_row _ _ _ ha]; exact hF.1 a ha) (fun q hq => by dsimp only; rw [vup_ne (by omega)]; exact hF.2.1 q hq) ((vup_ne (by decide)).trans hF.2.2.1) ((vup_ne (by decide)).trans hF.2.2.2.1) ((vup_ne (by decide)).trans hF.2.2.2.2.1) (vup_same _ _ _ _) hF.2.2.2.2.2)
