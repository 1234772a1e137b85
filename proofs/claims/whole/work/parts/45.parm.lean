def isGo (μ : VS) (a : Nat → Nat) : Prop := ∀ g, g < 8 → μ.1 84 g = nI (a g)
theorem isM.mk {μ μ' : VS} {P : PC} (h : isM μ P) (e : mKeep μ μ') : isM μ' P := by
  have e1 : ∀ a k, (70 ≤ a ∧ a ≤ 75) ∨ (85 ≤ a) ∨ (a = 69 ∧ k < 13) → μ'.1 a k = μ.1 a k := fun a k hk => e.1 a k (by unfold mAll; omega)
  have hb : ∀ k, k < 7 → mF k < 13 := by decide
  refine ⟨fun k hk => ?_, fun j hj q hq => ?_, fun i hi => ⟨?_, ?_⟩⟩
  · rw [e1 69 _ (by have := hb k hk; omega)]; exact h.1 k hk
  · rw [e1 (70 + j) q (by omega)]; exact h.2.1 j hj q hq
  · rw [e1 74 _ (by omega)]; exact (h.2.2 i hi).1
  · rw [e1 74 _ (by omega)]; exact (h.2.2 i hi).2
set_option maxRecDepth 100000 in
set_option maxHeartbeats 4000000 in
theorem lpM_likes {G : VG} {d : Nat} {μ : VS} {Q : Option Value → VS → Prop} {X : VX} {P : PC} {h_ c_ : Nat} {a_ : Nat → Nat} (hX : Cx G (d + 1) yX9_likes cX9_likes 5 (some .int) X) (hR : ∀ r μ', Q r μ' → Ret G X r μ') (hM : isM μ P) (hv : isGo μ a_) (hok : okP P) (hal : ∀ g, a_ g < 3) (hh : h_ < 8) (hc : c_ < 3) (hQ : Q (some (.int (zI (lkZ P a_ h_ c_)))) μ) : ∀ (j k_ : Nat), k_ ≤ 8 → 9 ≤ k_ + j → V G 5 X 5 [(0, .ref 69), (1, .int (nI h_)), (2, .int (nI c_)), (3, .int (nI (cnt (otB P a_ h_ c_) k_))), (4, .int (nI k_))] [] μ := by
  have hP4 := hok.2.2.2.2.1
  intro j
  induction j with
  | zero =>
    intro k_ h1 h2
    exact absurd h2 (by omega)
  | succ j ih =>
    intro k_ h1 h2
    refine V_iload hX dX9_likes_5 4 rfl ?_
    refine V_bipush (v := nI 8) hX dX9_likes_7 (by decide) ?_
    refine V_icmp_geN (tgt := 55) hX dX9_likes_9 (by decide) (by first | omega | (have := (hok.2.2.2.2.2.2.2.1 h_ hh).2.2.2; omega) | (have := hal k_; omega)) (by first | omega | (have := (hok.2.2.2.2.2.2.2.1 h_ hh).2.2.2; omega) | (have := hal k_; omega)) (fun c9 => ?_) (fun c9 => ?_)
    · obtain rfl : k_ = 8 := by omega
      refine V_iconst (v := nI 2) hX dX9_likes_55 (by decide) ?_
      refine V_aload_n hX dX9_likes_56 0 rfl ?_
      refine V_getr (j := 73) hX fX9_23 rfl rfl dX9_likes_57 ?_
      refine V_iload_n hX dX9_likes_60 1 rfl ?_
      refine V_ialdN (x := nI (P 4 h_)) hX rfl (by first | omega | (have := (hok.2.2.2.2.2.2.2.1 h_ hh).2.2.2; omega) | (have := hal k_; omega)) (by decide) (hM.2.1 3 (by decide) _ (by omega)) dX9_likes_61 ?_
      refine V_if_neN (tgt := 69) hX dX9_likes_62 (by decide) (by first | omega | (have := (hok.2.2.2.2.2.2.2.1 h_ hh).2.2.2; omega) | (have := hal k_; omega)) (fun c62 => ?_) (fun c62 => ?_)
      · refine V_iconst (v := nI 2) hX dX9_likes_69 (by decide) ?_
        refine V_iload_n hX dX9_likes_70 2 rfl ?_
        refine V_isubN hX dX9_likes_71 (by omega) ?_
        refine V_imulN hX dX9_likes_72 ?_
        refine V_iload_n hX dX9_likes_73 3 rfl ?_
        refine V_isub hX dX9_likes_74 ?_
        refine V_iret hX rfl dX9_likes_75 ?_
        have hm : mnN P h_ c_ = _ := (if_neg c62)
        exact hR _ _ (by rw [show (nI (2 * (2 - c_))) - (nI (cnt (otB P a_ h_ c_) 8)) = zI (lkZ P a_ h_ c_) from by unfold lkZ otN; rw [hm]; simp only [zI_nat, zI_sub]; congr 1 <;> omega]; exact hQ)
      · refine V_iload_n hX dX9_likes_65 2 rfl ?_
        refine V_goto (tgt := 72) hX dX9_likes_66 (by decide) ?_
        refine V_imulN hX dX9_likes_72 ?_
        refine V_iload_n hX dX9_likes_73 3 rfl ?_
        refine V_isub hX dX9_likes_74 ?_
        refine V_iret hX rfl dX9_likes_75 ?_
        have hm : mnN P h_ c_ = _ := (if_pos c62)
        exact hR _ _ (by rw [show (nI (2 * c_)) - (nI (cnt (otB P a_ h_ c_) 8)) = zI (lkZ P a_ h_ c_) from by unfold lkZ otN; rw [hm]; simp only [zI_nat, zI_sub]; congr 1 <;> omega]; exact hQ)
    · refine V_iload_n hX dX9_likes_12 3 rfl ?_
      refine V_aload_n hX dX9_likes_13 0 rfl ?_
      refine V_getN (x := nI (P 0 4)) hX fX9_72 rfl (hM.1 4 (by decide)) dX9_likes_14 ?_
      refine V_iload hX dX9_likes_17 4 rfl ?_
      refine V_callS (As := [.int (nI (P 0 4)), .int (nI k_)]) (st := [.int (nI (cnt (otB P a_ h_ c_) k_))]) hX mX9_79 (k_has (by first | omega | (have := (hok.2.2.2.2.2.2.2.1 h_ hh).2.2.2; omega) | (have := hal k_; omega)) (by first | omega | (have := (hok.2.2.2.2.2.2.2.1 h_ hh).2.2.2; omega) | (have := hal k_; omega)) ?_) rfl (Nat.le_of_ble_eq_true rfl) (Nat.le_of_ble_eq_true rfl) dX9_likes_19
      show V G 5 X 22 [(0, .ref 69), (1, .int (nI h_)), (2, .int (nI c_)), (3, .int (nI (cnt (otB P a_ h_ c_) k_))), (4, .int (nI k_))] [.int (bI ((P 0 4).testBit k_ = true)), .int (nI (cnt (otB P a_ h_ c_) k_))] μ
      refine V_if_eqB (tgt := 46) hX dX9_likes_22 (by decide) (fun c22 => ?_) (fun c22 => ?_)
      · refine V_iconst (v := nI 0) hX dX9_likes_46 (by decide) ?_
        refine V_iaddN hX dX9_likes_47 ?_
        refine V_istore_n (ls' := [(0, .ref 69), (1, .int (nI h_)), (2, .int (nI c_)), (3, .int (nI ((cnt (otB P a_ h_ c_) k_) + 0))), (4, .int (nI k_))]) hX dX9_likes_48 (by decide) rfl ?_
        refine V_iincN (n := 1) (ls' := [(0, .ref 69), (1, .int (nI h_)), (2, .int (nI c_)), (3, .int (nI ((cnt (otB P a_ h_ c_) k_) + 0))), (4, .int (nI (k_ + 1)))]) hX dX9_likes_49 4 rfl (by decide) rfl ?_
        refine V_goto (tgt := 5) hX dX9_likes_52 (by decide) ?_
        have h9 := ih (k_ + 1) (by omega) (by omega)
        rw [show cnt (otB P a_ h_ c_) (k_ + 1) = (cnt (otB P a_ h_ c_) k_) + 0 from congrArg (cnt (otB P a_ h_ c_) k_ + ·) (if_neg (by unfold otB; rw [show pPres P k_ = false from Bool.eq_false_iff.mpr c22]; simp))] at h9
        exact h9
      · refine V_iload hX dX9_likes_25 4 rfl ?_
        refine V_iload_n hX dX9_likes_27 1 rfl ?_
        refine V_icmp_eqN (tgt := 46) hX dX9_likes_28 (by decide) (by first | omega | (have := (hok.2.2.2.2.2.2.2.1 h_ hh).2.2.2; omega) | (have := hal k_; omega)) (by first | omega | (have := (hok.2.2.2.2.2.2.2.1 h_ hh).2.2.2; omega) | (have := hal k_; omega)) (fun c28 => ?_) (fun c28 => ?_)
        · refine V_iconst (v := nI 0) hX dX9_likes_46 (by decide) ?_
          refine V_iaddN hX dX9_likes_47 ?_
          refine V_istore_n (ls' := [(0, .ref 69), (1, .int (nI h_)), (2, .int (nI c_)), (3, .int (nI ((cnt (otB P a_ h_ c_) k_) + 0))), (4, .int (nI k_))]) hX dX9_likes_48 (by decide) rfl ?_
          refine V_iincN (n := 1) (ls' := [(0, .ref 69), (1, .int (nI h_)), (2, .int (nI c_)), (3, .int (nI ((cnt (otB P a_ h_ c_) k_) + 0))), (4, .int (nI (k_ + 1)))]) hX dX9_likes_49 4 rfl (by decide) rfl ?_
          refine V_goto (tgt := 5) hX dX9_likes_52 (by decide) ?_
          have h9 := ih (k_ + 1) (by omega) (by omega)
          rw [show cnt (otB P a_ h_ c_) (k_ + 1) = (cnt (otB P a_ h_ c_) k_) + 0 from congrArg (cnt (otB P a_ h_ c_) k_ + ·) (if_neg (by unfold otB; rw [decide_eq_true c28]; simp))] at h9
          exact h9
        · refine V_aload_n hX dX9_likes_31 0 rfl ?_
          refine V_getr (j := 84) hX fX9_62 rfl rfl dX9_likes_32 ?_
          refine V_iload hX dX9_likes_35 4 rfl ?_
          refine V_ialdN (x := nI (a_ k_)) hX rfl (by first | omega | (have := (hok.2.2.2.2.2.2.2.1 h_ hh).2.2.2; omega) | (have := hal k_; omega)) (by decide) (hv _ (by omega)) dX9_likes_37 ?_
          refine V_iload_n hX dX9_likes_38 2 rfl ?_
          refine V_icmp_neN (tgt := 46) hX dX9_likes_39 (by decide) (by first | omega | (have := (hok.2.2.2.2.2.2.2.1 h_ hh).2.2.2; omega) | (have := hal k_; omega)) (by first | omega | (have := (hok.2.2.2.2.2.2.2.1 h_ hh).2.2.2; omega) | (have := hal k_; omega)) (fun c39 => ?_) (fun c39 => ?_)
          · refine V_iconst (v := nI 0) hX dX9_likes_46 (by decide) ?_
            refine V_iaddN hX dX9_likes_47 ?_
            refine V_istore_n (ls' := [(0, .ref 69), (1, .int (nI h_)), (2, .int (nI c_)), (3, .int (nI ((cnt (otB P a_ h_ c_) k_) + 0))), (4, .int (nI k_))]) hX dX9_likes_48 (by decide) rfl ?_
            refine V_iincN (n := 1) (ls' := [(0, .ref 69), (1, .int (nI h_)), (2, .int (nI c_)), (3, .int (nI ((cnt (otB P a_ h_ c_) k_) + 0))), (4, .int (nI (k_ + 1)))]) hX dX9_likes_49 4 rfl (by decide) rfl ?_
            refine V_goto (tgt := 5) hX dX9_likes_52 (by decide) ?_
            have h9 := ih (k_ + 1) (by omega) (by omega)
            rw [show cnt (otB P a_ h_ c_) (k_ + 1) = (cnt (otB P a_ h_ c_) k_) + 0 from congrArg (cnt (otB P a_ h_ c_) k_ + ·) (if_neg (by unfold otB; rw [decide_eq_false c39]; simp))] at h9
            exact h9
          · refine V_iconst (v := nI 1) hX dX9_likes_42 (by decide) ?_
            refine V_goto (tgt := 47) hX dX9_likes_43 (by decide) ?_
            refine V_iaddN hX dX9_likes_47 ?_
            refine V_istore_n (ls' := [(0, .ref 69), (1, .int (nI h_)), (2, .int (nI c_)), (3, .int (nI ((cnt (otB P a_ h_ c_) k_) + 1))), (4, .int (nI k_))]) hX dX9_likes_48 (by decide) rfl ?_
            refine V_iincN (n := 1) (ls' := [(0, .ref 69), (1, .int (nI h_)), (2, .int (nI c_)), (3, .int (nI ((cnt (otB P a_ h_ c_) k_) + 1))), (4, .int (nI (k_ + 1)))]) hX dX9_likes_49 4 rfl (by decide) rfl ?_
            refine V_goto (tgt := 5) hX dX9_likes_52 (by decide) ?_
            have h9 := ih (k_ + 1) (by omega) (by omega)
            rw [show cnt (otB P a_ h_ c_) (k_ + 1) = (cnt (otB P a_ h_ c_) k_) + 1 from congrArg (cnt (otB P a_ h_ c_) k_ + ·) (if_pos (by unfold otB; rw [show pPres P k_ = true from c22, decide_eq_false c28, decide_eq_true c39]; rfl))] at h9
            exact h9
set_option maxRecDepth 100000 in
set_option maxHeartbeats 4000000 in
theorem kM_likes {G : VG} {d : Nat} {μ : VS} {Q : Option Value → VS → Prop} {P : PC} {h_ c_ : Nat} {a_ : Nat → Nat} (hM : isM μ P) (hv : isGo μ a_) (hok : okP P) (hal : ∀ g, a_ g < 3) (hh : h_ < 8) (hc : c_ < 3) (hQ : Q (some (.int (zI (lkZ P a_ h_ c_)))) μ) : Call G (d + 1) yX9_likes cX9_likes 5 (some .int) [.ref 69, .int (nI h_), .int (nI c_)] μ Q := by
  intro X hX hR
  show V G 5 X 0 [(0, .ref 69), (1, .int (nI h_)), (2, .int (nI c_))] [] μ
  refine V_iconst (v := nI 0) hX dX9_likes_0 (by decide) ?_
  refine V_istore_n (ls' := [(0, .ref 69), (1, .int (nI h_)), (2, .int (nI c_)), (3, .int (nI 0))]) hX dX9_likes_1 (by decide) rfl ?_
  refine V_iconst (v := nI 0) hX dX9_likes_2 (by decide) ?_
  refine V_istore (ls' := [(0, .ref 69), (1, .int (nI h_)), (2, .int (nI c_)), (3, .int (nI 0)), (4, .int (nI 0))]) hX dX9_likes_3 (by decide) rfl ?_
  exact lpM_likes hX hR hM hv hok hal hh hc hQ 9 0 (by decide) (by decide)
set_option maxRecDepth 100000 in
set_option maxHeartbeats 4000000 in
theorem lpM_par1a {G : VG} {d : Nat} {X : VX} {P : PC}  {r_ h_ : Nat} {a_ : Nat → Nat} {μ1 : VS} (hX : Cx G (d + 2) yX9_parishes cX9_parishes 9 (some .int) X) (hM1 : isM μ1 P) (hv : isGo μ1 (swp P a_ h_)) (hok : okP P) (hal : ∀ g, a_ g < 3) (hh : h_ < 8) (hF : V G 9 X 130 [(0, .ref 69), (1, .int (-1)), (2, .int (nI r_)), (3, .int (bI (mvd P a_ h_ = true))), (4, .int (nI h_)), (5, .int (nI (fk (lkZ P (swp P a_ h_) h_) ((swp P a_ h_) h_) 3))), (6, .int (zI (lkZ P (swp P a_ h_) h_ (fk (lkZ P (swp P a_ h_) h_) ((swp P a_ h_) h_) 3)))), (7, .int (nI 3))] [] μ1) : ∀ (j k_ : Nat), k_ ≤ 3 → 4 ≤ k_ + j → V G 9 X 93 [(0, .ref 69), (1, .int (-1)), (2, .int (nI r_)), (3, .int (bI (mvd P a_ h_ = true))), (4, .int (nI h_)), (5, .int (nI (fk (lkZ P (swp P a_ h_) h_) ((swp P a_ h_) h_) k_))), (6, .int (zI (lkZ P (swp P a_ h_) h_ (fk (lkZ P (swp P a_ h_) h_) ((swp P a_ h_) h_) k_)))), (7, .int (nI k_))] [] μ1 := by
  intro j
  induction j with
  | zero =>
    intro k_ h1 h2
    exact absurd h2 (by omega)
  | succ j ih =>
    intro k_ h1 h2
    refine V_iload hX dX9_parishes_93 7 rfl ?_
    refine V_iconst (v := nI 3) hX dX9_parishes_95 (by decide) ?_
    refine V_icmp_geN (tgt := 130) hX dX9_parishes_96 (by decide) (by omega) (by omega) (fun c96 => ?_) (fun c96 => ?_)
    · obtain rfl : k_ = 3 := by omega
      exact hF
    · refine V_aload_n hX dX9_parishes_99 0 rfl ?_
      refine V_iload hX dX9_parishes_100 4 rfl ?_
      refine V_iload hX dX9_parishes_102 7 rfl ?_
      refine V_callV (As := [.int (nI h_), .int (nI k_)]) (st := []) hX mX9_197 rfl (kM_likes (a_ := swp P a_ h_) hM1 hv hok (swp_lt hal h_) (by omega) (by omega) ?_) rfl (Nat.le_of_ble_eq_true rfl) (Nat.le_of_ble_eq_true rfl) dX9_parishes_104
      show V G 9 X 107 [(0, .ref 69), (1, .int (-1)), (2, .int (nI r_)), (3, .int (bI (mvd P a_ h_ = true))), (4, .int (nI h_)), (5, .int (nI (fk (lkZ P (swp P a_ h_) h_) ((swp P a_ h_) h_) k_))), (6, .int (zI (lkZ P (swp P a_ h_) h_ (fk (lkZ P (swp P a_ h_) h_) ((swp P a_ h_) h_) k_)))), (7, .int (nI k_))] [.int (zI (lkZ P (swp P a_ h_) h_ k_))] μ1
      refine V_istore (ls' := [(0, .ref 69), (1, .int (-1)), (2, .int (nI r_)), (3, .int (bI (mvd P a_ h_ = true))), (4, .int (nI h_)), (5, .int (nI (fk (lkZ P (swp P a_ h_) h_) ((swp P a_ h_) h_) k_))), (6, .int (zI (lkZ P (swp P a_ h_) h_ (fk (lkZ P (swp P a_ h_) h_) ((swp P a_ h_) h_) k_)))), (7, .int (nI k_)), (8, .int (zI (lkZ P (swp P a_ h_) h_ k_)))]) hX dX9_parishes_107 (by decide) rfl ?_
      refine V_iload hX dX9_parishes_109 8 rfl ?_
      refine V_iload hX dX9_parishes_111 6 rfl ?_
      refine V_icmp_le (tgt := 124) hX dX9_parishes_113 (by decide) (fun c113 => ?_) (fun c113 => ?_)
      · refine V_iincN (n := 1) (ls' := [(0, .ref 69), (1, .int (-1)), (2, .int (nI r_)), (3, .int (bI (mvd P a_ h_ = true))), (4, .int (nI h_)), (5, .int (nI (fk (lkZ P (swp P a_ h_) h_) ((swp P a_ h_) h_) k_))), (6, .int (zI (lkZ P (swp P a_ h_) h_ (fk (lkZ P (swp P a_ h_) h_) ((swp P a_ h_) h_) k_)))), (7, .int (nI (k_ + 1))), (8, .int (zI (lkZ P (swp P a_ h_) h_ k_)))]) hX dX9_parishes_124 7 rfl (by decide) rfl ?_
        refine V_goto (tgt := 93) hX dX9_parishes_127 (by decide) ?_
        have h9 := ih (k_ + 1) (by omega) (by omega)
        rw [show fk (lkZ P (swp P a_ h_) h_) ((swp P a_ h_) h_) (k_ + 1) = fk (lkZ P (swp P a_ h_) h_) ((swp P a_ h_) h_) k_ from if_neg (fun z => Int32.not_lt.mpr c113 ((lk_lt (fk_lt (l := lkZ P (swp P a_ h_) h_) (swp_lt hal h_ h_) k_ (by omega)) (by omega)).mpr z))] at h9
        exact V_sub [0, 1, 2, 3, 4, 5, 6, 7] rfl h9
      · refine V_iload hX dX9_parishes_116 7 rfl ?_
        refine V_istore (ls' := [(0, .ref 69), (1, .int (-1)), (2, .int (nI r_)), (3, .int (bI (mvd P a_ h_ = true))), (4, .int (nI h_)), (5, .int (nI k_)), (6, .int (zI (lkZ P (swp P a_ h_) h_ (fk (lkZ P (swp P a_ h_) h_) ((swp P a_ h_) h_) k_)))), (7, .int (nI k_)), (8, .int (zI (lkZ P (swp P a_ h_) h_ k_)))]) hX dX9_parishes_118 (by decide) rfl ?_
        refine V_iload hX dX9_parishes_120 8 rfl ?_
        refine V_istore (ls' := [(0, .ref 69), (1, .int (-1)), (2, .int (nI r_)), (3, .int (bI (mvd P a_ h_ = true))), (4, .int (nI h_)), (5, .int (nI k_)), (6, .int (zI (lkZ P (swp P a_ h_) h_ k_))), (7, .int (nI k_)), (8, .int (zI (lkZ P (swp P a_ h_) h_ k_)))]) hX dX9_parishes_122 (by decide) rfl ?_
        refine V_iincN (n := 1) (ls' := [(0, .ref 69), (1, .int (-1)), (2, .int (nI r_)), (3, .int (bI (mvd P a_ h_ = true))), (4, .int (nI h_)), (5, .int (nI k_)), (6, .int (zI (lkZ P (swp P a_ h_) h_ k_))), (7, .int (nI (k_ + 1))), (8, .int (zI (lkZ P (swp P a_ h_) h_ k_)))]) hX dX9_parishes_124 7 rfl (by decide) rfl ?_
        refine V_goto (tgt := 93) hX dX9_parishes_127 (by decide) ?_
        have h9 := ih (k_ + 1) (by omega) (by omega)
        rw [show fk (lkZ P (swp P a_ h_) h_) ((swp P a_ h_) h_) (k_ + 1) = k_ from if_pos ((lk_lt (fk_lt (l := lkZ P (swp P a_ h_) h_) (swp_lt hal h_ h_) k_ (by omega)) (by omega)).mp (Int32.not_le.mp c113))] at h9
        exact V_sub [0, 1, 2, 3, 4, 5, 6, 7] rfl h9
set_option maxRecDepth 100000 in
set_option maxHeartbeats 4000000 in
theorem lpM_par2a {G : VG} {d : Nat} {μ : VS} {X : VX} {P : PC}  {r_ : Nat} {a_ : Nat → Nat} (hX : Cx G (d + 2) yX9_parishes cX9_parishes 9 (some .int) X) (hM : isM μ P) (hok : okP P) (hal : ∀ g, a_ g < 3) (hF : ∀ μ1, mKeep μ μ1 → isGo μ1 (swp P a_ 8) → V G 9 X 167 [(0, .ref 69), (1, .int (-1)), (2, .int (nI r_)), (3, .int (bI (mvd P a_ 8 = true))), (4, .int (nI 8))] [] μ1) : ∀ (j h_ : Nat) (μ1 : VS), h_ ≤ 8 → 9 ≤ h_ + j → mKeep μ μ1 → isGo μ1 (swp P a_ h_) → V G 9 X 52 [(0, .ref 69), (1, .int (-1)), (2, .int (nI r_)), (3, .int (bI (mvd P a_ h_ = true))), (4, .int (nI h_))] [] μ1 := by
  have hP4 := hok.2.2.2.2.1
  intro j
  induction j with
  | zero =>
    intro h_ μ1 h1 h2
    exact absurd h2 (by omega)
  | succ j ih =>
    intro h_ μ1 h1 h2 hK hv
    have hM1 : isM μ1 P := hM.mk hK
    refine V_iload hX dX9_parishes_52 4 rfl ?_
    refine V_bipush (v := nI 8) hX dX9_parishes_54 (by decide) ?_
    refine V_icmp_geN (tgt := 167) hX dX9_parishes_56 (by decide) (by omega) (by omega) (fun c56 => ?_) (fun c56 => ?_)
    · obtain rfl : h_ = 8 := by omega
      exact hF μ1 hK hv
    · refine V_aload_n hX dX9_parishes_59 0 rfl ?_
      refine V_getN (x := nI (P 0 4)) hX fX9_72 rfl (hM1.1 4 (by decide)) dX9_parishes_60 ?_
      refine V_iload hX dX9_parishes_63 4 rfl ?_
      refine V_callS (As := [.int (nI (P 0 4)), .int (nI h_)]) (st := []) hX mX9_79 (k_has (by omega) (by omega) ?_) rfl (Nat.le_of_ble_eq_true rfl) (Nat.le_of_ble_eq_true rfl) dX9_parishes_65
      show V G 9 X 68 [(0, .ref 69), (1, .int (-1)), (2, .int (nI r_)), (3, .int (bI (mvd P a_ h_ = true))), (4, .int (nI h_))] [.int (bI ((P 0 4).testBit h_ = true))] μ1
      refine V_if_eqB (tgt := 161) hX dX9_parishes_68 (by decide) (fun c68 => ?_) (fun c68 => ?_)
      · refine V_iincN (n := 1) (ls' := [(0, .ref 69), (1, .int (-1)), (2, .int (nI r_)), (3, .int (bI (mvd P a_ h_ = true))), (4, .int (nI (h_ + 1)))]) hX dX9_parishes_161 4 rfl (by decide) rfl ?_
        refine V_goto (tgt := 52) hX dX9_parishes_164 (by decide) ?_
        have h9 := ih (h_ + 1) μ1 (by omega) (by omega) hK (by rw [swp_n c68]; exact hv)
        rw [mvd_n (show ¬ pPres P h_ = true from c68)] at h9
        exact h9
      · refine V_aload_n hX dX9_parishes_71 0 rfl ?_
        refine V_getr (j := 84) hX fX9_62 rfl rfl dX9_parishes_72 ?_
        refine V_iload hX dX9_parishes_75 4 rfl ?_
        refine V_ialdN (x := nI ((swp P a_ h_) h_)) hX rfl (by omega) (by decide) (hv _ (by omega)) dX9_parishes_77 ?_
        refine V_istore (ls' := [(0, .ref 69), (1, .int (-1)), (2, .int (nI r_)), (3, .int (bI (mvd P a_ h_ = true))), (4, .int (nI h_)), (5, .int (nI ((swp P a_ h_) h_)))]) hX dX9_parishes_78 (by decide) rfl ?_
        refine V_aload_n hX dX9_parishes_80 0 rfl ?_
        refine V_iload hX dX9_parishes_81 4 rfl ?_
        refine V_iload hX dX9_parishes_83 5 rfl ?_
        refine V_callV (As := [.int (nI h_), .int (nI ((swp P a_ h_) h_))]) (st := []) hX mX9_197 rfl (kM_likes (a_ := swp P a_ h_) hM1 hv hok (swp_lt hal h_) (by omega) (swp_lt hal h_ h_) ?_) rfl (Nat.le_of_ble_eq_true rfl) (Nat.le_of_ble_eq_true rfl) dX9_parishes_85
        show V G 9 X 88 [(0, .ref 69), (1, .int (-1)), (2, .int (nI r_)), (3, .int (bI (mvd P a_ h_ = true))), (4, .int (nI h_)), (5, .int (nI ((swp P a_ h_) h_)))] [.int (zI (lkZ P (swp P a_ h_) h_ ((swp P a_ h_) h_)))] μ1
        refine V_istore (ls' := [(0, .ref 69), (1, .int (-1)), (2, .int (nI r_)), (3, .int (bI (mvd P a_ h_ = true))), (4, .int (nI h_)), (5, .int (nI ((swp P a_ h_) h_))), (6, .int (zI (lkZ P (swp P a_ h_) h_ ((swp P a_ h_) h_))))]) hX dX9_parishes_88 (by decide) rfl ?_
        refine V_iconst (v := nI 0) hX dX9_parishes_90 (by decide) ?_
        refine V_istore (ls' := [(0, .ref 69), (1, .int (-1)), (2, .int (nI r_)), (3, .int (bI (mvd P a_ h_ = true))), (4, .int (nI h_)), (5, .int (nI ((swp P a_ h_) h_))), (6, .int (zI (lkZ P (swp P a_ h_) h_ ((swp P a_ h_) h_)))), (7, .int (nI 0))]) hX dX9_parishes_91 (by decide) rfl ?_
        refine lpM_par1a hX hM1 hv hok hal (by omega) ?_ 4 0 (by decide) (by decide)
        refine V_iload_n hX dX9_parishes_130 3 rfl ?_
        refine V_if_neB (tgt := 146) hX dX9_parishes_131 (by decide) (fun c131 => ?_) (fun c131 => ?_)
        · refine V_iconst (v := nI 1) hX dX9_parishes_146 (by decide) ?_
          refine V_goto (tgt := 151) hX dX9_parishes_147 (by decide) ?_
          refine V_istore_n (ls' := [(0, .ref 69), (1, .int (-1)), (2, .int (nI r_)), (3, .int (nI 1)), (4, .int (nI h_)), (5, .int (nI (fk (lkZ P (swp P a_ h_) h_) ((swp P a_ h_) h_) 3))), (6, .int (zI (lkZ P (swp P a_ h_) h_ (fk (lkZ P (swp P a_ h_) h_) ((swp P a_ h_) h_) 3)))), (7, .int (nI 3))]) hX dX9_parishes_151 (by decide) rfl ?_
          refine V_aload_n hX dX9_parishes_152 0 rfl ?_
          refine V_getr (j := 84) hX fX9_62 rfl rfl dX9_parishes_153 ?_
          refine V_iload hX dX9_parishes_156 4 rfl ?_
          refine V_iload hX dX9_parishes_158 5 rfl ?_
          refine V_iastN hX rfl (by first | omega | (have := fk_lt (l := lkZ P (swp P a_ h_) h_) (swp_lt (P := P) hal h_ h_) 3 (by decide); omega) | (have := swp_lt (P := P) hal h_ h_; omega)) (by decide) dX9_parishes_160 ?_
          show V G 9 X 161 [(0, .ref 69), (1, .int (-1)), (2, .int (nI r_)), (3, .int (nI 1)), (4, .int (nI h_)), (5, .int (nI (fk (lkZ P (swp P a_ h_) h_) ((swp P a_ h_) h_) 3))), (6, .int (zI (lkZ P (swp P a_ h_) h_ (fk (lkZ P (swp P a_ h_) h_) ((swp P a_ h_) h_) 3)))), (7, .int (nI 3))] [] (vup μ1.1 84 h_ (nI (fk (lkZ P (swp P a_ h_) h_) ((swp P a_ h_) h_) 3)), μ1.2)
          refine V_iincN (n := 1) (ls' := [(0, .ref 69), (1, .int (-1)), (2, .int (nI r_)), (3, .int (nI 1)), (4, .int (nI (h_ + 1))), (5, .int (nI (fk (lkZ P (swp P a_ h_) h_) ((swp P a_ h_) h_) 3))), (6, .int (zI (lkZ P (swp P a_ h_) h_ (fk (lkZ P (swp P a_ h_) h_) ((swp P a_ h_) h_) 3)))), (7, .int (nI 3))]) hX dX9_parishes_161 4 rfl (by decide) rfl ?_
          refine V_goto (tgt := 52) hX dX9_parishes_164 (by decide) ?_
          have hv2 : h_ < 8 → isGo (vup μ1.1 84 h_ (nI (fk (lkZ P (swp P a_ h_) h_) ((swp P a_ h_) h_) 3)), μ1.2) (swp P a_ (h_ + 1)) := fun hh g hg => by
            dsimp only
            rw [vup_get, swp_y c68]
            unfold upN
            by_cases e : g = h_
            · rw [if_pos ⟨rfl, e⟩, if_pos e]
            · rw [if_neg (fun z => e z.2), if_neg e]; exact hv g hg
          have h9 := ih (h_ + 1) (vup μ1.1 84 h_ (nI (fk (lkZ P (swp P a_ h_) h_) ((swp P a_ h_) h_) 3)), μ1.2) (by omega) (by omega) (hK.tr (mKeep.put (a := 84) (k := h_) (x := nI (fk (lkZ P (swp P a_ h_) h_) ((swp P a_ h_) h_) 3)) (Or.inl (by decide)))) (hv2 (by omega))
          rw [show bI (mvd P a_ (h_ + 1) = true) = nI 1 from bI_t (mvd_m c131)] at h9
          exact V_sub [0, 1, 2, 3, 4] rfl h9
        · refine V_iload hX dX9_parishes_134 5 rfl ?_
          refine V_aload_n hX dX9_parishes_136 0 rfl ?_
          refine V_getr (j := 84) hX fX9_62 rfl rfl dX9_parishes_137 ?_
          refine V_iload hX dX9_parishes_140 4 rfl ?_
          refine V_ialdN (x := nI ((swp P a_ h_) h_)) hX rfl (by first | omega | (have := fk_lt (l := lkZ P (swp P a_ h_) h_) (swp_lt (P := P) hal h_ h_) 3 (by decide); omega) | (have := swp_lt (P := P) hal h_ h_; omega)) (by decide) (hv _ (by omega)) dX9_parishes_142 ?_
          refine V_icmp_eqN (tgt := 150) hX dX9_parishes_143 (by decide) (by first | omega | (have := fk_lt (l := lkZ P (swp P a_ h_) h_) (swp_lt (P := P) hal h_ h_) 3 (by decide); omega) | (have := swp_lt (P := P) hal h_ h_; omega)) (by first | omega | (have := fk_lt (l := lkZ P (swp P a_ h_) h_) (swp_lt (P := P) hal h_ h_) 3 (by decide); omega) | (have := swp_lt (P := P) hal h_ h_; omega)) (fun c143 => ?_) (fun c143 => ?_)
          · refine V_iconst (v := nI 0) hX dX9_parishes_150 (by decide) ?_
            refine V_istore_n (ls' := [(0, .ref 69), (1, .int (-1)), (2, .int (nI r_)), (3, .int (nI 0)), (4, .int (nI h_)), (5, .int (nI (fk (lkZ P (swp P a_ h_) h_) ((swp P a_ h_) h_) 3))), (6, .int (zI (lkZ P (swp P a_ h_) h_ (fk (lkZ P (swp P a_ h_) h_) ((swp P a_ h_) h_) 3)))), (7, .int (nI 3))]) hX dX9_parishes_151 (by decide) rfl ?_
            refine V_aload_n hX dX9_parishes_152 0 rfl ?_
            refine V_getr (j := 84) hX fX9_62 rfl rfl dX9_parishes_153 ?_
            refine V_iload hX dX9_parishes_156 4 rfl ?_
            refine V_iload hX dX9_parishes_158 5 rfl ?_
            refine V_iastN hX rfl (by first | omega | (have := fk_lt (l := lkZ P (swp P a_ h_) h_) (swp_lt (P := P) hal h_ h_) 3 (by decide); omega) | (have := swp_lt (P := P) hal h_ h_; omega)) (by decide) dX9_parishes_160 ?_
            show V G 9 X 161 [(0, .ref 69), (1, .int (-1)), (2, .int (nI r_)), (3, .int (nI 0)), (4, .int (nI h_)), (5, .int (nI (fk (lkZ P (swp P a_ h_) h_) ((swp P a_ h_) h_) 3))), (6, .int (zI (lkZ P (swp P a_ h_) h_ (fk (lkZ P (swp P a_ h_) h_) ((swp P a_ h_) h_) 3)))), (7, .int (nI 3))] [] (vup μ1.1 84 h_ (nI (fk (lkZ P (swp P a_ h_) h_) ((swp P a_ h_) h_) 3)), μ1.2)
            refine V_iincN (n := 1) (ls' := [(0, .ref 69), (1, .int (-1)), (2, .int (nI r_)), (3, .int (nI 0)), (4, .int (nI (h_ + 1))), (5, .int (nI (fk (lkZ P (swp P a_ h_) h_) ((swp P a_ h_) h_) 3))), (6, .int (zI (lkZ P (swp P a_ h_) h_ (fk (lkZ P (swp P a_ h_) h_) ((swp P a_ h_) h_) 3)))), (7, .int (nI 3))]) hX dX9_parishes_161 4 rfl (by decide) rfl ?_
            refine V_goto (tgt := 52) hX dX9_parishes_164 (by decide) ?_
            have hv2 : h_ < 8 → isGo (vup μ1.1 84 h_ (nI (fk (lkZ P (swp P a_ h_) h_) ((swp P a_ h_) h_) 3)), μ1.2) (swp P a_ (h_ + 1)) := fun hh g hg => by
              dsimp only
              rw [vup_get, swp_y c68]
              unfold upN
              by_cases e : g = h_
              · rw [if_pos ⟨rfl, e⟩, if_pos e]
              · rw [if_neg (fun z => e z.2), if_neg e]; exact hv g hg
            have h9 := ih (h_ + 1) (vup μ1.1 84 h_ (nI (fk (lkZ P (swp P a_ h_) h_) ((swp P a_ h_) h_) 3)), μ1.2) (by omega) (by omega) (hK.tr (mKeep.put (a := 84) (k := h_) (x := nI (fk (lkZ P (swp P a_ h_) h_) ((swp P a_ h_) h_) 3)) (Or.inl (by decide)))) (hv2 (by omega))
            rw [show bI (mvd P a_ (h_ + 1) = true) = nI 0 from bI_f (by rw [mvd_s c143]; exact c131)] at h9
            exact V_sub [0, 1, 2, 3, 4] rfl h9
          · refine V_iconst (v := nI 1) hX dX9_parishes_146 (by decide) ?_
            refine V_goto (tgt := 151) hX dX9_parishes_147 (by decide) ?_
            refine V_istore_n (ls' := [(0, .ref 69), (1, .int (-1)), (2, .int (nI r_)), (3, .int (nI 1)), (4, .int (nI h_)), (5, .int (nI (fk (lkZ P (swp P a_ h_) h_) ((swp P a_ h_) h_) 3))), (6, .int (zI (lkZ P (swp P a_ h_) h_ (fk (lkZ P (swp P a_ h_) h_) ((swp P a_ h_) h_) 3)))), (7, .int (nI 3))]) hX dX9_parishes_151 (by decide) rfl ?_
            refine V_aload_n hX dX9_parishes_152 0 rfl ?_
            refine V_getr (j := 84) hX fX9_62 rfl rfl dX9_parishes_153 ?_
            refine V_iload hX dX9_parishes_156 4 rfl ?_
            refine V_iload hX dX9_parishes_158 5 rfl ?_
            refine V_iastN hX rfl (by first | omega | (have := fk_lt (l := lkZ P (swp P a_ h_) h_) (swp_lt (P := P) hal h_ h_) 3 (by decide); omega) | (have := swp_lt (P := P) hal h_ h_; omega)) (by decide) dX9_parishes_160 ?_
            show V G 9 X 161 [(0, .ref 69), (1, .int (-1)), (2, .int (nI r_)), (3, .int (nI 1)), (4, .int (nI h_)), (5, .int (nI (fk (lkZ P (swp P a_ h_) h_) ((swp P a_ h_) h_) 3))), (6, .int (zI (lkZ P (swp P a_ h_) h_ (fk (lkZ P (swp P a_ h_) h_) ((swp P a_ h_) h_) 3)))), (7, .int (nI 3))] [] (vup μ1.1 84 h_ (nI (fk (lkZ P (swp P a_ h_) h_) ((swp P a_ h_) h_) 3)), μ1.2)
            refine V_iincN (n := 1) (ls' := [(0, .ref 69), (1, .int (-1)), (2, .int (nI r_)), (3, .int (nI 1)), (4, .int (nI (h_ + 1))), (5, .int (nI (fk (lkZ P (swp P a_ h_) h_) ((swp P a_ h_) h_) 3))), (6, .int (zI (lkZ P (swp P a_ h_) h_ (fk (lkZ P (swp P a_ h_) h_) ((swp P a_ h_) h_) 3)))), (7, .int (nI 3))]) hX dX9_parishes_161 4 rfl (by decide) rfl ?_
            refine V_goto (tgt := 52) hX dX9_parishes_164 (by decide) ?_
            have hv2 : h_ < 8 → isGo (vup μ1.1 84 h_ (nI (fk (lkZ P (swp P a_ h_) h_) ((swp P a_ h_) h_) 3)), μ1.2) (swp P a_ (h_ + 1)) := fun hh g hg => by
              dsimp only
              rw [vup_get, swp_y c68]
              unfold upN
              by_cases e : g = h_
              · rw [if_pos ⟨rfl, e⟩, if_pos e]
              · rw [if_neg (fun z => e z.2), if_neg e]; exact hv g hg
            have h9 := ih (h_ + 1) (vup μ1.1 84 h_ (nI (fk (lkZ P (swp P a_ h_) h_) ((swp P a_ h_) h_) 3)), μ1.2) (by omega) (by omega) (hK.tr (mKeep.put (a := 84) (k := h_) (x := nI (fk (lkZ P (swp P a_ h_) h_) ((swp P a_ h_) h_) 3)) (Or.inl (by decide)))) (hv2 (by omega))
            rw [show bI (mvd P a_ (h_ + 1) = true) = nI 1 from bI_t (mvd_y c68 c143)] at h9
            exact V_sub [0, 1, 2, 3, 4] rfl h9
set_option maxRecDepth 100000 in
set_option maxHeartbeats 4000000 in
theorem lpM_par3a {G : VG} {d : Nat} {μ : VS} {X : VX} {P : PC}  {RES : Int32 × (Nat → Nat)} (hX : Cx G (d + 2) yX9_parishes cX9_parishes 9 (some .int) X) (hM : isM μ P) (hok : okP P) (hF : ∀ (r_ : Nat) (m_ : Bool) (a_ : Nat → Nat) (μ1 : VS), r_ ≤ 99 → (∀ g, a_ g < 3) → mKeep μ μ1 → isGo μ1 a_ → RES = ((if m_ = true then -6 else nI r_), a_) → V G 9 X 173 [(0, .ref 69), (1, .int (-1)), (2, .int (nI r_)), (3, .int (bI (m_ = true)))] [] μ1) : ∀ (j r_ : Nat) (a_ : Nat → Nat) (m_ : Bool) (μ1 : VS), r_ + j = 99 → (∀ g, a_ g < 3) → mKeep μ μ1 → isGo μ1 a_ → (if m_ = true then paR P j r_ a_ else (nI r_, a_)) = RES → V G 9 X 37 [(0, .ref 69), (1, .int (-1)), (2, .int (nI r_)), (3, .int (bI (m_ = true)))] [] μ1 := by
  intro j
  induction j with
  | zero =>
    intro r_ a_ m_ μ1 h1 hal hK hv hres
    refine V_iload_n hX dX9_parishes_37 3 rfl ?_
    refine V_if_eqB (tgt := 173) hX dX9_parishes_38 (by decide) (fun c38 => ?_) (fun c38 => ?_)
    · exact hF r_ m_ a_ μ1 (by omega) hal hK hv (by rw [← hres, if_neg c38, if_neg c38])
    · refine V_iload_n hX dX9_parishes_41 2 rfl ?_
      refine V_bipush (v := nI 99) hX dX9_parishes_42 (by decide) ?_
      refine V_icmp_geN (tgt := 173) hX dX9_parishes_44 (by decide) (by omega) (by omega) (fun c44 => ?_) (fun c44 => ?_)
      · exact hF r_ m_ a_ μ1 (by omega) hal hK hv (by rw [← hres, if_pos c38, if_pos c38]; rfl)
      · exact absurd c44 (by omega)
  | succ j ih =>
    intro r_ a_ m_ μ1 h1 hal hK hv hres
    refine V_iload_n hX dX9_parishes_37 3 rfl ?_
    refine V_if_eqB (tgt := 173) hX dX9_parishes_38 (by decide) (fun c38 => ?_) (fun c38 => ?_)
    · exact hF r_ m_ a_ μ1 (by omega) hal hK hv (by rw [← hres, if_neg c38, if_neg c38])
    · refine V_iload_n hX dX9_parishes_41 2 rfl ?_
      refine V_bipush (v := nI 99) hX dX9_parishes_42 (by decide) ?_
      refine V_icmp_geN (tgt := 173) hX dX9_parishes_44 (by decide) (by omega) (by omega) (fun c44 => ?_) (fun c44 => ?_)
      · exact absurd c44 (by omega)
      · refine V_iconst (v := nI 0) hX dX9_parishes_47 (by decide) ?_
        refine V_istore_n (ls' := [(0, .ref 69), (1, .int (-1)), (2, .int (nI r_)), (3, .int (nI 0))]) hX dX9_parishes_48 (by decide) rfl ?_
        refine V_iconst (v := nI 0) hX dX9_parishes_49 (by decide) ?_
        refine V_istore (ls' := [(0, .ref 69), (1, .int (-1)), (2, .int (nI r_)), (3, .int (nI 0)), (4, .int (nI 0))]) hX dX9_parishes_50 (by decide) rfl ?_
        refine lpM_par2a (r_ := r_) (a_ := a_) hX (hM.mk hK) hok hal (fun μ2 hK2 hv2 => ?_) 9 0 μ1 (by decide) (by decide) (mKeep.rf μ1) hv
        refine V_iincN (n := 1) (ls' := [(0, .ref 69), (1, .int (-1)), (2, .int (nI (r_ + 1))), (3, .int (bI (mvd P a_ 8 = true))), (4, .int (nI 8))]) hX dX9_parishes_167 2 rfl (by decide) rfl ?_
        refine V_goto (tgt := 37) hX dX9_parishes_170 (by decide) ?_
        exact V_sub [0, 1, 2, 3] rfl (ih (r_ + 1) (swp P a_ 8) (mvd P a_ 8) μ2 (by omega) (fun g => swp_lt hal 8 g) (hK.tr hK2) hv2 (by rw [← hres, if_pos c38]; rfl))
set_option maxRecDepth 100000 in
set_option maxHeartbeats 4000000 in
theorem lpM_par4a {G : VG} {d : Nat} {X : VX} {P : PC}  {r_ : Nat} {m_ : Bool} {a_ : Nat → Nat} {μ1 : VS} (hX : Cx G (d + 1) yX9_parishes cX9_parishes 9 (some .int) X) (hM1 : isM μ1 P) (hv : isGo μ1 a_) (hok : okP P) (hal : ∀ g, a_ g < 3)  (hF : ∀ n_ : Nat, V G 9 X 225 [(0, .ref 69), (1, .int (-1)), (2, .int (nI r_)), (3, .int (bI (m_ = true))), (4, .int (nI n_)), (5, .int (nI 8))] [] μ1) : ∀ (j k_ : Nat) (n_ : Nat), k_ ≤ 8 → 9 ≤ k_ + j → V G 9 X 179 [(0, .ref 69), (1, .int (-1)), (2, .int (nI r_)), (3, .int (bI (m_ = true))), (4, .int (nI n_)), (5, .int (nI k_))] [] μ1 := by
  have hP4 := hok.2.2.2.2.1
  intro j
  induction j with
  | zero =>
    intro k_ n_ h1 h2
    exact absurd h2 (by omega)
  | succ j ih =>
    intro k_ n_ h1 h2
    refine V_iload hX dX9_parishes_179 5 rfl ?_
    refine V_bipush (v := nI 8) hX dX9_parishes_181 (by decide) ?_
    refine V_icmp_geN (tgt := 225) hX dX9_parishes_183 (by decide) (by first | omega | (have := hal k_; omega)) (by first | omega | (have := hal k_; omega)) (fun c183 => ?_) (fun c183 => ?_)
    · obtain rfl : k_ = 8 := by omega
      exact hF n_
    · refine V_iload hX dX9_parishes_186 4 rfl ?_
      refine V_aload_n hX dX9_parishes_188 0 rfl ?_
      refine V_getN (x := nI (P 0 4)) hX fX9_72 rfl (hM1.1 4 (by decide)) dX9_parishes_189 ?_
      refine V_iload hX dX9_parishes_192 5 rfl ?_
      refine V_callS (As := [.int (nI (P 0 4)), .int (nI k_)]) (st := [.int (nI n_)]) hX mX9_79 (k_has (by first | omega | (have := hal k_; omega)) (by first | omega | (have := hal k_; omega)) ?_) rfl (Nat.le_of_ble_eq_true rfl) (Nat.le_of_ble_eq_true rfl) dX9_parishes_194
      show V G 9 X 197 [(0, .ref 69), (1, .int (-1)), (2, .int (nI r_)), (3, .int (bI (m_ = true))), (4, .int (nI n_)), (5, .int (nI k_))] [.int (bI ((P 0 4).testBit k_ = true)), .int (nI n_)] μ1
      refine V_if_eqB (tgt := 215) hX dX9_parishes_197 (by decide) (fun c197 => ?_) (fun c197 => ?_)
      · refine V_iconst (v := nI 0) hX dX9_parishes_215 (by decide) ?_
        refine V_iaddN hX dX9_parishes_216 ?_
        refine V_istore (ls' := [(0, .ref 69), (1, .int (-1)), (2, .int (nI r_)), (3, .int (bI (m_ = true))), (4, .int (nI (n_ + 0))), (5, .int (nI k_))]) hX dX9_parishes_217 (by decide) rfl ?_
        refine V_iincN (n := 1) (ls' := [(0, .ref 69), (1, .int (-1)), (2, .int (nI r_)), (3, .int (bI (m_ = true))), (4, .int (nI (n_ + 0))), (5, .int (nI (k_ + 1)))]) hX dX9_parishes_219 5 rfl (by decide) rfl ?_
        refine V_goto (tgt := 179) hX dX9_parishes_222 (by decide) ?_
        exact ih (k_ + 1) (n_ + 0) (by omega) (by omega)
      · refine V_aload_n hX dX9_parishes_200 0 rfl ?_
        refine V_getr (j := 84) hX fX9_62 rfl rfl dX9_parishes_201 ?_
        refine V_iload hX dX9_parishes_204 5 rfl ?_
        refine V_ialdN (x := nI (a_ k_)) hX rfl (by first | omega | (have := hal k_; omega)) (by decide) (hv _ (by omega)) dX9_parishes_206 ?_
        refine V_iload_n hX dX9_parishes_207 1 rfl ?_
        refine V_icmp_ne (tgt := 215) hX dX9_parishes_208 (by decide) (fun c208 => ?_) (fun c208 => ?_)
        · refine V_iconst (v := nI 0) hX dX9_parishes_215 (by decide) ?_
          refine V_iaddN hX dX9_parishes_216 ?_
          refine V_istore (ls' := [(0, .ref 69), (1, .int (-1)), (2, .int (nI r_)), (3, .int (bI (m_ = true))), (4, .int (nI (n_ + 0))), (5, .int (nI k_))]) hX dX9_parishes_217 (by decide) rfl ?_
          refine V_iincN (n := 1) (ls' := [(0, .ref 69), (1, .int (-1)), (2, .int (nI r_)), (3, .int (bI (m_ = true))), (4, .int (nI (n_ + 0))), (5, .int (nI (k_ + 1)))]) hX dX9_parishes_219 5 rfl (by decide) rfl ?_
          refine V_goto (tgt := 179) hX dX9_parishes_222 (by decide) ?_
          exact ih (k_ + 1) (n_ + 0) (by omega) (by omega)
        · refine V_iconst (v := nI 1) hX dX9_parishes_211 (by decide) ?_
          refine V_goto (tgt := 216) hX dX9_parishes_212 (by decide) ?_
          refine V_iaddN hX dX9_parishes_216 ?_
          refine V_istore (ls' := [(0, .ref 69), (1, .int (-1)), (2, .int (nI r_)), (3, .int (bI (m_ = true))), (4, .int (nI (n_ + 1))), (5, .int (nI k_))]) hX dX9_parishes_217 (by decide) rfl ?_
          refine V_iincN (n := 1) (ls' := [(0, .ref 69), (1, .int (-1)), (2, .int (nI r_)), (3, .int (bI (m_ = true))), (4, .int (nI (n_ + 1))), (5, .int (nI (k_ + 1)))]) hX dX9_parishes_219 5 rfl (by decide) rfl ?_
          refine V_goto (tgt := 179) hX dX9_parishes_222 (by decide) ?_
          exact ih (k_ + 1) (n_ + 1) (by omega) (by omega)
set_option maxRecDepth 100000 in
set_option maxHeartbeats 4000000 in
theorem lpM_par0a {G : VG} {d : Nat} {μ : VS} {X : VX}  (hX : Cx G d yX9_parishes cX9_parishes 9 (some .int) X) (hF : ∀ μ1, mKeep μ μ1 → isGo μ1 (fun _ => 0) → V G 9 X 33 [(0, .ref 69), (1, .int (-1)), (2, .int (nI 8))] [] μ1) : ∀ (j k_ : Nat) (μ1 : VS), k_ ≤ 8 → 9 ≤ k_ + j → mKeep μ μ1 → (∀ g, g < k_ → μ1.1 84 g = nI 0) → V G 9 X 14 [(0, .ref 69), (1, .int (-1)), (2, .int (nI k_))] [] μ1 := by
  intro j
  induction j with
  | zero =>
    intro k_ μ1 h1 h2
    exact absurd h2 (by omega)
  | succ j ih =>
    intro k_ μ1 h1 h2 hK hz
    refine V_iload_n hX dX9_parishes_14 2 rfl ?_
    refine V_bipush (v := nI 8) hX dX9_parishes_15 (by decide) ?_
    refine V_icmp_geN (tgt := 33) hX dX9_parishes_17 (by decide) (by omega) (by omega) (fun c17 => ?_) (fun c17 => ?_)
    · obtain rfl : k_ = 8 := by omega
      exact hF μ1 hK hz
    · refine V_aload_n hX dX9_parishes_20 0 rfl ?_
      refine V_getr (j := 84) hX fX9_62 rfl rfl dX9_parishes_21 ?_
      refine V_iload_n hX dX9_parishes_24 2 rfl ?_
      refine V_iconst (v := nI 0) hX dX9_parishes_25 (by decide) ?_
      refine V_iastN hX rfl (by omega) (by decide) dX9_parishes_26 ?_
      show V G 9 X 27 [(0, .ref 69), (1, .int (-1)), (2, .int (nI k_))] [] (vup μ1.1 84 k_ (nI 0), μ1.2)
      refine V_iincN (n := 1) (ls' := [(0, .ref 69), (1, .int (-1)), (2, .int (nI (k_ + 1)))]) hX dX9_parishes_27 2 rfl (by decide) rfl ?_
      refine V_goto (tgt := 14) hX dX9_parishes_30 (by decide) ?_
      refine ih (k_ + 1) _ (by omega) (by omega) (hK.tr (mKeep.put (a := 84) (k := k_) (x := nI 0) (Or.inl (by decide)))) (fun g hg => ?_)
      dsimp only
      rw [vup_get]
      by_cases e : g = k_
      · rw [if_pos ⟨rfl, e⟩]
      · rw [if_neg (fun z => e z.2)]; exact hz g (by omega)
set_option maxRecDepth 100000 in
set_option maxHeartbeats 4000000 in
theorem kM_para {G : VG} {d : Nat} {μ : VS} {Q : Option Value → VS → Prop} {P : PC} {L : Nat} {S κ : Nat → Nat} {I : Nat → PC}  (hRM : RM μ P L S κ I) (hok : okP P) (hpd : okPad L S) (hQ : ∀ μ', RM μ' P L S κ I → keepC μ μ' → Q (some (.int (parS P (-1)))) μ') : Call G (d + 3) yX9_parishes cX9_parishes 9 (some .int) [.ref 69, .int (-1)] μ Q := by
  intro X hX hR
  have hM := hRM.1
  have hL := hRM.2.1
  have hS := hpd.2
  have hL60 := hpd.1
  have hP4 := hok.2.2.2.2.1
  have h4 := hP4
  have hin : -1 ≤ (-1 : Int32) ∧ (-1 : Int32) ≤ nI 2 := by decide
  show V G 9 X 0 [(0, .ref 69), (1, .int (-1))] [] μ
  refine V_iload_n hX dX9_parishes_0 1 rfl ?_
  refine V_iconst (v := (-1)) hX dX9_parishes_1 (by decide) ?_
  refine V_iconst (v := nI 2) hX dX9_parishes_2 (by decide) ?_
  refine V_callS (As := [.int (-1), .int (-1), .int (nI 2)]) (st := []) hX mX9_75 (k_in ?_) rfl (Nat.le_of_ble_eq_true rfl) (Nat.le_of_ble_eq_true rfl) dX9_parishes_3
  show V G 9 X 6 [(0, .ref 69), (1, .int (-1))] [.int (bI ((-1) ≤ (-1) ∧ (-1) ≤ nI 2))] μ
  refine V_if_neB (tgt := 12) hX dX9_parishes_6 (by decide) (fun c6 => ?_) (fun c6 => ?_)
  · refine V_iconst (v := nI 0) hX dX9_parishes_12 (by decide) ?_
    refine V_istore_n (ls' := [(0, .ref 69), (1, .int (-1)), (2, .int (nI 0))]) hX dX9_parishes_13 (by decide) rfl ?_
    refine lpM_par0a (μ := μ) hX (fun μ1 hK hv => ?_) 9 0 μ (by decide) (by decide) (mKeep.rf μ) (fun g hg => absurd hg (by omega))
    refine V_iconst (v := nI 0) hX dX9_parishes_33 (by decide) ?_
    refine V_istore_n (ls' := [(0, .ref 69), (1, .int (-1)), (2, .int (nI 0))]) hX dX9_parishes_34 (by decide) rfl ?_
    refine V_iconst (v := nI 1) hX dX9_parishes_35 (by decide) ?_
    refine V_istore_n (ls' := [(0, .ref 69), (1, .int (-1)), (2, .int (nI 0)), (3, .int (nI 1))]) hX dX9_parishes_36 (by decide) rfl ?_
    refine lpM_par3a (μ := μ) (RES := paR P 99 0 (fun _ => 0)) hX hM hok (fun r_ m_ a_ μ2 hr hal hK2 hv2 hres => ?_) 99 0 (fun _ => 0) true μ1 rfl (fun _ => by decide) hK hv (if_pos rfl)
    refine V_iconst (v := nI 0) hX dX9_parishes_173 (by decide) ?_
    refine V_istore (ls' := [(0, .ref 69), (1, .int (-1)), (2, .int (nI r_)), (3, .int (bI (m_ = true))), (4, .int (nI 0))]) hX dX9_parishes_174 (by decide) rfl ?_
    refine V_iconst (v := nI 0) hX dX9_parishes_176 (by decide) ?_
    refine V_istore (ls' := [(0, .ref 69), (1, .int (-1)), (2, .int (nI r_)), (3, .int (bI (m_ = true))), (4, .int (nI 0)), (5, .int (nI 0))]) hX dX9_parishes_177 (by decide) rfl ?_
    refine lpM_par4a hX (hM.mk hK2) hv2 hok hal (fun n_ => ?_) 9 0 0 (by decide) (by decide)
    refine V_iload_n hX dX9_parishes_225 1 rfl ?_
    refine V_if_lt (tgt := 234) hX dX9_parishes_226 (by decide) (fun c226 => ?_) (fun c226 => ?_)
    · refine V_iload_n hX dX9_parishes_234 3 rfl ?_
      refine V_if_eqB (tgt := 243) hX dX9_parishes_235 (by decide) (fun c235 => ?_) (fun c235 => ?_)
      · refine V_iload_n hX dX9_parishes_243 2 rfl ?_
        refine V_iret hX rfl dX9_parishes_244 ?_
        have h9 := hQ μ2
        rw [show parS P (-1) = _ from (if_pos hin).trans (if_pos rfl), hres] at h9
        exact hR _ _ (by have h8 := h9 (hRM.keep hK2) hK2.C; dsimp only at h8; rw [if_neg c235] at h8; exact h8)
      · refine V_bipush (v := (-6)) hX dX9_parishes_238 (by decide) ?_
        refine V_goto (tgt := 244) hX dX9_parishes_240 (by decide) ?_
        refine V_iret hX rfl dX9_parishes_244 ?_
        have h9 := hQ μ2
        rw [show parS P (-1) = _ from (if_pos hin).trans (if_pos rfl), hres] at h9
        exact hR _ _ (by have h8 := h9 (hRM.keep hK2) hK2.C; dsimp only at h8; rw [if_pos c235] at h8; exact h8)
    · exact absurd (by decide) c226
  · exact absurd hin c6
set_option maxRecDepth 100000 in
set_option maxHeartbeats 4000000 in
theorem lpM_par1b {G : VG} {d : Nat} {X : VX} {P : PC} {b_ : Nat} {r_ h_ : Nat} {a_ : Nat → Nat} {μ1 : VS} (hX : Cx G (d + 2) yX9_parishes cX9_parishes 9 (some .int) X) (hM1 : isM μ1 P) (hv : isGo μ1 (swp P a_ h_)) (hok : okP P) (hal : ∀ g, a_ g < 3) (hh : h_ < 8) (hF : V G 9 X 130 [(0, .ref 69), (1, .int (nI b_)), (2, .int (nI r_)), (3, .int (bI (mvd P a_ h_ = true))), (4, .int (nI h_)), (5, .int (nI (fk (lkZ P (swp P a_ h_) h_) ((swp P a_ h_) h_) 3))), (6, .int (zI (lkZ P (swp P a_ h_) h_ (fk (lkZ P (swp P a_ h_) h_) ((swp P a_ h_) h_) 3)))), (7, .int (nI 3))] [] μ1) : ∀ (j k_ : Nat), k_ ≤ 3 → 4 ≤ k_ + j → V G 9 X 93 [(0, .ref 69), (1, .int (nI b_)), (2, .int (nI r_)), (3, .int (bI (mvd P a_ h_ = true))), (4, .int (nI h_)), (5, .int (nI (fk (lkZ P (swp P a_ h_) h_) ((swp P a_ h_) h_) k_))), (6, .int (zI (lkZ P (swp P a_ h_) h_ (fk (lkZ P (swp P a_ h_) h_) ((swp P a_ h_) h_) k_)))), (7, .int (nI k_))] [] μ1 := by
  intro j
  induction j with
  | zero =>
    intro k_ h1 h2
    exact absurd h2 (by omega)
  | succ j ih =>
    intro k_ h1 h2
    refine V_iload hX dX9_parishes_93 7 rfl ?_
    refine V_iconst (v := nI 3) hX dX9_parishes_95 (by decide) ?_
    refine V_icmp_geN (tgt := 130) hX dX9_parishes_96 (by decide) (by omega) (by omega) (fun c96 => ?_) (fun c96 => ?_)
    · obtain rfl : k_ = 3 := by omega
      exact hF
    · refine V_aload_n hX dX9_parishes_99 0 rfl ?_
      refine V_iload hX dX9_parishes_100 4 rfl ?_
      refine V_iload hX dX9_parishes_102 7 rfl ?_
      refine V_callV (As := [.int (nI h_), .int (nI k_)]) (st := []) hX mX9_197 rfl (kM_likes (a_ := swp P a_ h_) hM1 hv hok (swp_lt hal h_) (by omega) (by omega) ?_) rfl (Nat.le_of_ble_eq_true rfl) (Nat.le_of_ble_eq_true rfl) dX9_parishes_104
      show V G 9 X 107 [(0, .ref 69), (1, .int (nI b_)), (2, .int (nI r_)), (3, .int (bI (mvd P a_ h_ = true))), (4, .int (nI h_)), (5, .int (nI (fk (lkZ P (swp P a_ h_) h_) ((swp P a_ h_) h_) k_))), (6, .int (zI (lkZ P (swp P a_ h_) h_ (fk (lkZ P (swp P a_ h_) h_) ((swp P a_ h_) h_) k_)))), (7, .int (nI k_))] [.int (zI (lkZ P (swp P a_ h_) h_ k_))] μ1
      refine V_istore (ls' := [(0, .ref 69), (1, .int (nI b_)), (2, .int (nI r_)), (3, .int (bI (mvd P a_ h_ = true))), (4, .int (nI h_)), (5, .int (nI (fk (lkZ P (swp P a_ h_) h_) ((swp P a_ h_) h_) k_))), (6, .int (zI (lkZ P (swp P a_ h_) h_ (fk (lkZ P (swp P a_ h_) h_) ((swp P a_ h_) h_) k_)))), (7, .int (nI k_)), (8, .int (zI (lkZ P (swp P a_ h_) h_ k_)))]) hX dX9_parishes_107 (by decide) rfl ?_
      refine V_iload hX dX9_parishes_109 8 rfl ?_
      refine V_iload hX dX9_parishes_111 6 rfl ?_
      refine V_icmp_le (tgt := 124) hX dX9_parishes_113 (by decide) (fun c113 => ?_) (fun c113 => ?_)
      · refine V_iincN (n := 1) (ls' := [(0, .ref 69), (1, .int (nI b_)), (2, .int (nI r_)), (3, .int (bI (mvd P a_ h_ = true))), (4, .int (nI h_)), (5, .int (nI (fk (lkZ P (swp P a_ h_) h_) ((swp P a_ h_) h_) k_))), (6, .int (zI (lkZ P (swp P a_ h_) h_ (fk (lkZ P (swp P a_ h_) h_) ((swp P a_ h_) h_) k_)))), (7, .int (nI (k_ + 1))), (8, .int (zI (lkZ P (swp P a_ h_) h_ k_)))]) hX dX9_parishes_124 7 rfl (by decide) rfl ?_
        refine V_goto (tgt := 93) hX dX9_parishes_127 (by decide) ?_
        have h9 := ih (k_ + 1) (by omega) (by omega)
        rw [show fk (lkZ P (swp P a_ h_) h_) ((swp P a_ h_) h_) (k_ + 1) = fk (lkZ P (swp P a_ h_) h_) ((swp P a_ h_) h_) k_ from if_neg (fun z => Int32.not_lt.mpr c113 ((lk_lt (fk_lt (l := lkZ P (swp P a_ h_) h_) (swp_lt hal h_ h_) k_ (by omega)) (by omega)).mpr z))] at h9
        exact V_sub [0, 1, 2, 3, 4, 5, 6, 7] rfl h9
      · refine V_iload hX dX9_parishes_116 7 rfl ?_
        refine V_istore (ls' := [(0, .ref 69), (1, .int (nI b_)), (2, .int (nI r_)), (3, .int (bI (mvd P a_ h_ = true))), (4, .int (nI h_)), (5, .int (nI k_)), (6, .int (zI (lkZ P (swp P a_ h_) h_ (fk (lkZ P (swp P a_ h_) h_) ((swp P a_ h_) h_) k_)))), (7, .int (nI k_)), (8, .int (zI (lkZ P (swp P a_ h_) h_ k_)))]) hX dX9_parishes_118 (by decide) rfl ?_
        refine V_iload hX dX9_parishes_120 8 rfl ?_
        refine V_istore (ls' := [(0, .ref 69), (1, .int (nI b_)), (2, .int (nI r_)), (3, .int (bI (mvd P a_ h_ = true))), (4, .int (nI h_)), (5, .int (nI k_)), (6, .int (zI (lkZ P (swp P a_ h_) h_ k_))), (7, .int (nI k_)), (8, .int (zI (lkZ P (swp P a_ h_) h_ k_)))]) hX dX9_parishes_122 (by decide) rfl ?_
        refine V_iincN (n := 1) (ls' := [(0, .ref 69), (1, .int (nI b_)), (2, .int (nI r_)), (3, .int (bI (mvd P a_ h_ = true))), (4, .int (nI h_)), (5, .int (nI k_)), (6, .int (zI (lkZ P (swp P a_ h_) h_ k_))), (7, .int (nI (k_ + 1))), (8, .int (zI (lkZ P (swp P a_ h_) h_ k_)))]) hX dX9_parishes_124 7 rfl (by decide) rfl ?_
        refine V_goto (tgt := 93) hX dX9_parishes_127 (by decide) ?_
        have h9 := ih (k_ + 1) (by omega) (by omega)
        rw [show fk (lkZ P (swp P a_ h_) h_) ((swp P a_ h_) h_) (k_ + 1) = k_ from if_pos ((lk_lt (fk_lt (l := lkZ P (swp P a_ h_) h_) (swp_lt hal h_ h_) k_ (by omega)) (by omega)).mp (Int32.not_le.mp c113))] at h9
        exact V_sub [0, 1, 2, 3, 4, 5, 6, 7] rfl h9
set_option maxRecDepth 100000 in
set_option maxHeartbeats 4000000 in
theorem lpM_par2b {G : VG} {d : Nat} {μ : VS} {X : VX} {P : PC} {b_ : Nat} {r_ : Nat} {a_ : Nat → Nat} (hX : Cx G (d + 2) yX9_parishes cX9_parishes 9 (some .int) X) (hM : isM μ P) (hok : okP P) (hal : ∀ g, a_ g < 3) (hF : ∀ μ1, mKeep μ μ1 → isGo μ1 (swp P a_ 8) → V G 9 X 167 [(0, .ref 69), (1, .int (nI b_)), (2, .int (nI r_)), (3, .int (bI (mvd P a_ 8 = true))), (4, .int (nI 8))] [] μ1) : ∀ (j h_ : Nat) (μ1 : VS), h_ ≤ 8 → 9 ≤ h_ + j → mKeep μ μ1 → isGo μ1 (swp P a_ h_) → V G 9 X 52 [(0, .ref 69), (1, .int (nI b_)), (2, .int (nI r_)), (3, .int (bI (mvd P a_ h_ = true))), (4, .int (nI h_))] [] μ1 := by
  have hP4 := hok.2.2.2.2.1
  intro j
  induction j with
  | zero =>
    intro h_ μ1 h1 h2
    exact absurd h2 (by omega)
  | succ j ih =>
    intro h_ μ1 h1 h2 hK hv
    have hM1 : isM μ1 P := hM.mk hK
    refine V_iload hX dX9_parishes_52 4 rfl ?_
    refine V_bipush (v := nI 8) hX dX9_parishes_54 (by decide) ?_
    refine V_icmp_geN (tgt := 167) hX dX9_parishes_56 (by decide) (by omega) (by omega) (fun c56 => ?_) (fun c56 => ?_)
    · obtain rfl : h_ = 8 := by omega
      exact hF μ1 hK hv
    · refine V_aload_n hX dX9_parishes_59 0 rfl ?_
      refine V_getN (x := nI (P 0 4)) hX fX9_72 rfl (hM1.1 4 (by decide)) dX9_parishes_60 ?_
      refine V_iload hX dX9_parishes_63 4 rfl ?_
      refine V_callS (As := [.int (nI (P 0 4)), .int (nI h_)]) (st := []) hX mX9_79 (k_has (by omega) (by omega) ?_) rfl (Nat.le_of_ble_eq_true rfl) (Nat.le_of_ble_eq_true rfl) dX9_parishes_65
      show V G 9 X 68 [(0, .ref 69), (1, .int (nI b_)), (2, .int (nI r_)), (3, .int (bI (mvd P a_ h_ = true))), (4, .int (nI h_))] [.int (bI ((P 0 4).testBit h_ = true))] μ1
      refine V_if_eqB (tgt := 161) hX dX9_parishes_68 (by decide) (fun c68 => ?_) (fun c68 => ?_)
      · refine V_iincN (n := 1) (ls' := [(0, .ref 69), (1, .int (nI b_)), (2, .int (nI r_)), (3, .int (bI (mvd P a_ h_ = true))), (4, .int (nI (h_ + 1)))]) hX dX9_parishes_161 4 rfl (by decide) rfl ?_
        refine V_goto (tgt := 52) hX dX9_parishes_164 (by decide) ?_
        have h9 := ih (h_ + 1) μ1 (by omega) (by omega) hK (by rw [swp_n c68]; exact hv)
        rw [mvd_n (show ¬ pPres P h_ = true from c68)] at h9
        exact h9
      · refine V_aload_n hX dX9_parishes_71 0 rfl ?_
        refine V_getr (j := 84) hX fX9_62 rfl rfl dX9_parishes_72 ?_
        refine V_iload hX dX9_parishes_75 4 rfl ?_
        refine V_ialdN (x := nI ((swp P a_ h_) h_)) hX rfl (by omega) (by decide) (hv _ (by omega)) dX9_parishes_77 ?_
        refine V_istore (ls' := [(0, .ref 69), (1, .int (nI b_)), (2, .int (nI r_)), (3, .int (bI (mvd P a_ h_ = true))), (4, .int (nI h_)), (5, .int (nI ((swp P a_ h_) h_)))]) hX dX9_parishes_78 (by decide) rfl ?_
        refine V_aload_n hX dX9_parishes_80 0 rfl ?_
        refine V_iload hX dX9_parishes_81 4 rfl ?_
        refine V_iload hX dX9_parishes_83 5 rfl ?_
        refine V_callV (As := [.int (nI h_), .int (nI ((swp P a_ h_) h_))]) (st := []) hX mX9_197 rfl (kM_likes (a_ := swp P a_ h_) hM1 hv hok (swp_lt hal h_) (by omega) (swp_lt hal h_ h_) ?_) rfl (Nat.le_of_ble_eq_true rfl) (Nat.le_of_ble_eq_true rfl) dX9_parishes_85
        show V G 9 X 88 [(0, .ref 69), (1, .int (nI b_)), (2, .int (nI r_)), (3, .int (bI (mvd P a_ h_ = true))), (4, .int (nI h_)), (5, .int (nI ((swp P a_ h_) h_)))] [.int (zI (lkZ P (swp P a_ h_) h_ ((swp P a_ h_) h_)))] μ1
        refine V_istore (ls' := [(0, .ref 69), (1, .int (nI b_)), (2, .int (nI r_)), (3, .int (bI (mvd P a_ h_ = true))), (4, .int (nI h_)), (5, .int (nI ((swp P a_ h_) h_))), (6, .int (zI (lkZ P (swp P a_ h_) h_ ((swp P a_ h_) h_))))]) hX dX9_parishes_88 (by decide) rfl ?_
        refine V_iconst (v := nI 0) hX dX9_parishes_90 (by decide) ?_
        refine V_istore (ls' := [(0, .ref 69), (1, .int (nI b_)), (2, .int (nI r_)), (3, .int (bI (mvd P a_ h_ = true))), (4, .int (nI h_)), (5, .int (nI ((swp P a_ h_) h_))), (6, .int (zI (lkZ P (swp P a_ h_) h_ ((swp P a_ h_) h_)))), (7, .int (nI 0))]) hX dX9_parishes_91 (by decide) rfl ?_
        refine lpM_par1b hX hM1 hv hok hal (by omega) ?_ 4 0 (by decide) (by decide)
        refine V_iload_n hX dX9_parishes_130 3 rfl ?_
        refine V_if_neB (tgt := 146) hX dX9_parishes_131 (by decide) (fun c131 => ?_) (fun c131 => ?_)
        · refine V_iconst (v := nI 1) hX dX9_parishes_146 (by decide) ?_
          refine V_goto (tgt := 151) hX dX9_parishes_147 (by decide) ?_
          refine V_istore_n (ls' := [(0, .ref 69), (1, .int (nI b_)), (2, .int (nI r_)), (3, .int (nI 1)), (4, .int (nI h_)), (5, .int (nI (fk (lkZ P (swp P a_ h_) h_) ((swp P a_ h_) h_) 3))), (6, .int (zI (lkZ P (swp P a_ h_) h_ (fk (lkZ P (swp P a_ h_) h_) ((swp P a_ h_) h_) 3)))), (7, .int (nI 3))]) hX dX9_parishes_151 (by decide) rfl ?_
          refine V_aload_n hX dX9_parishes_152 0 rfl ?_
          refine V_getr (j := 84) hX fX9_62 rfl rfl dX9_parishes_153 ?_
          refine V_iload hX dX9_parishes_156 4 rfl ?_
          refine V_iload hX dX9_parishes_158 5 rfl ?_
          refine V_iastN hX rfl (by first | omega | (have := fk_lt (l := lkZ P (swp P a_ h_) h_) (swp_lt (P := P) hal h_ h_) 3 (by decide); omega) | (have := swp_lt (P := P) hal h_ h_; omega)) (by decide) dX9_parishes_160 ?_
          show V G 9 X 161 [(0, .ref 69), (1, .int (nI b_)), (2, .int (nI r_)), (3, .int (nI 1)), (4, .int (nI h_)), (5, .int (nI (fk (lkZ P (swp P a_ h_) h_) ((swp P a_ h_) h_) 3))), (6, .int (zI (lkZ P (swp P a_ h_) h_ (fk (lkZ P (swp P a_ h_) h_) ((swp P a_ h_) h_) 3)))), (7, .int (nI 3))] [] (vup μ1.1 84 h_ (nI (fk (lkZ P (swp P a_ h_) h_) ((swp P a_ h_) h_) 3)), μ1.2)
          refine V_iincN (n := 1) (ls' := [(0, .ref 69), (1, .int (nI b_)), (2, .int (nI r_)), (3, .int (nI 1)), (4, .int (nI (h_ + 1))), (5, .int (nI (fk (lkZ P (swp P a_ h_) h_) ((swp P a_ h_) h_) 3))), (6, .int (zI (lkZ P (swp P a_ h_) h_ (fk (lkZ P (swp P a_ h_) h_) ((swp P a_ h_) h_) 3)))), (7, .int (nI 3))]) hX dX9_parishes_161 4 rfl (by decide) rfl ?_
          refine V_goto (tgt := 52) hX dX9_parishes_164 (by decide) ?_
          have hv2 : h_ < 8 → isGo (vup μ1.1 84 h_ (nI (fk (lkZ P (swp P a_ h_) h_) ((swp P a_ h_) h_) 3)), μ1.2) (swp P a_ (h_ + 1)) := fun hh g hg => by
            dsimp only
            rw [vup_get, swp_y c68]
            unfold upN
            by_cases e : g = h_
            · rw [if_pos ⟨rfl, e⟩, if_pos e]
            · rw [if_neg (fun z => e z.2), if_neg e]; exact hv g hg
          have h9 := ih (h_ + 1) (vup μ1.1 84 h_ (nI (fk (lkZ P (swp P a_ h_) h_) ((swp P a_ h_) h_) 3)), μ1.2) (by omega) (by omega) (hK.tr (mKeep.put (a := 84) (k := h_) (x := nI (fk (lkZ P (swp P a_ h_) h_) ((swp P a_ h_) h_) 3)) (Or.inl (by decide)))) (hv2 (by omega))
          rw [show bI (mvd P a_ (h_ + 1) = true) = nI 1 from bI_t (mvd_m c131)] at h9
          exact V_sub [0, 1, 2, 3, 4] rfl h9
        · refine V_iload hX dX9_parishes_134 5 rfl ?_
          refine V_aload_n hX dX9_parishes_136 0 rfl ?_
          refine V_getr (j := 84) hX fX9_62 rfl rfl dX9_parishes_137 ?_
          refine V_iload hX dX9_parishes_140 4 rfl ?_
          refine V_ialdN (x := nI ((swp P a_ h_) h_)) hX rfl (by first | omega | (have := fk_lt (l := lkZ P (swp P a_ h_) h_) (swp_lt (P := P) hal h_ h_) 3 (by decide); omega) | (have := swp_lt (P := P) hal h_ h_; omega)) (by decide) (hv _ (by omega)) dX9_parishes_142 ?_
          refine V_icmp_eqN (tgt := 150) hX dX9_parishes_143 (by decide) (by first | omega | (have := fk_lt (l := lkZ P (swp P a_ h_) h_) (swp_lt (P := P) hal h_ h_) 3 (by decide); omega) | (have := swp_lt (P := P) hal h_ h_; omega)) (by first | omega | (have := fk_lt (l := lkZ P (swp P a_ h_) h_) (swp_lt (P := P) hal h_ h_) 3 (by decide); omega) | (have := swp_lt (P := P) hal h_ h_; omega)) (fun c143 => ?_) (fun c143 => ?_)
          · refine V_iconst (v := nI 0) hX dX9_parishes_150 (by decide) ?_
            refine V_istore_n (ls' := [(0, .ref 69), (1, .int (nI b_)), (2, .int (nI r_)), (3, .int (nI 0)), (4, .int (nI h_)), (5, .int (nI (fk (lkZ P (swp P a_ h_) h_) ((swp P a_ h_) h_) 3))), (6, .int (zI (lkZ P (swp P a_ h_) h_ (fk (lkZ P (swp P a_ h_) h_) ((swp P a_ h_) h_) 3)))), (7, .int (nI 3))]) hX dX9_parishes_151 (by decide) rfl ?_
            refine V_aload_n hX dX9_parishes_152 0 rfl ?_
            refine V_getr (j := 84) hX fX9_62 rfl rfl dX9_parishes_153 ?_
            refine V_iload hX dX9_parishes_156 4 rfl ?_
            refine V_iload hX dX9_parishes_158 5 rfl ?_
            refine V_iastN hX rfl (by first | omega | (have := fk_lt (l := lkZ P (swp P a_ h_) h_) (swp_lt (P := P) hal h_ h_) 3 (by decide); omega) | (have := swp_lt (P := P) hal h_ h_; omega)) (by decide) dX9_parishes_160 ?_
            show V G 9 X 161 [(0, .ref 69), (1, .int (nI b_)), (2, .int (nI r_)), (3, .int (nI 0)), (4, .int (nI h_)), (5, .int (nI (fk (lkZ P (swp P a_ h_) h_) ((swp P a_ h_) h_) 3))), (6, .int (zI (lkZ P (swp P a_ h_) h_ (fk (lkZ P (swp P a_ h_) h_) ((swp P a_ h_) h_) 3)))), (7, .int (nI 3))] [] (vup μ1.1 84 h_ (nI (fk (lkZ P (swp P a_ h_) h_) ((swp P a_ h_) h_) 3)), μ1.2)
            refine V_iincN (n := 1) (ls' := [(0, .ref 69), (1, .int (nI b_)), (2, .int (nI r_)), (3, .int (nI 0)), (4, .int (nI (h_ + 1))), (5, .int (nI (fk (lkZ P (swp P a_ h_) h_) ((swp P a_ h_) h_) 3))), (6, .int (zI (lkZ P (swp P a_ h_) h_ (fk (lkZ P (swp P a_ h_) h_) ((swp P a_ h_) h_) 3)))), (7, .int (nI 3))]) hX dX9_parishes_161 4 rfl (by decide) rfl ?_
            refine V_goto (tgt := 52) hX dX9_parishes_164 (by decide) ?_
            have hv2 : h_ < 8 → isGo (vup μ1.1 84 h_ (nI (fk (lkZ P (swp P a_ h_) h_) ((swp P a_ h_) h_) 3)), μ1.2) (swp P a_ (h_ + 1)) := fun hh g hg => by
              dsimp only
              rw [vup_get, swp_y c68]
              unfold upN
              by_cases e : g = h_
              · rw [if_pos ⟨rfl, e⟩, if_pos e]
              · rw [if_neg (fun z => e z.2), if_neg e]; exact hv g hg
            have h9 := ih (h_ + 1) (vup μ1.1 84 h_ (nI (fk (lkZ P (swp P a_ h_) h_) ((swp P a_ h_) h_) 3)), μ1.2) (by omega) (by omega) (hK.tr (mKeep.put (a := 84) (k := h_) (x := nI (fk (lkZ P (swp P a_ h_) h_) ((swp P a_ h_) h_) 3)) (Or.inl (by decide)))) (hv2 (by omega))
            rw [show bI (mvd P a_ (h_ + 1) = true) = nI 0 from bI_f (by rw [mvd_s c143]; exact c131)] at h9
            exact V_sub [0, 1, 2, 3, 4] rfl h9
          · refine V_iconst (v := nI 1) hX dX9_parishes_146 (by decide) ?_
            refine V_goto (tgt := 151) hX dX9_parishes_147 (by decide) ?_
            refine V_istore_n (ls' := [(0, .ref 69), (1, .int (nI b_)), (2, .int (nI r_)), (3, .int (nI 1)), (4, .int (nI h_)), (5, .int (nI (fk (lkZ P (swp P a_ h_) h_) ((swp P a_ h_) h_) 3))), (6, .int (zI (lkZ P (swp P a_ h_) h_ (fk (lkZ P (swp P a_ h_) h_) ((swp P a_ h_) h_) 3)))), (7, .int (nI 3))]) hX dX9_parishes_151 (by decide) rfl ?_
            refine V_aload_n hX dX9_parishes_152 0 rfl ?_
            refine V_getr (j := 84) hX fX9_62 rfl rfl dX9_parishes_153 ?_
            refine V_iload hX dX9_parishes_156 4 rfl ?_
            refine V_iload hX dX9_parishes_158 5 rfl ?_
            refine V_iastN hX rfl (by first | omega | (have := fk_lt (l := lkZ P (swp P a_ h_) h_) (swp_lt (P := P) hal h_ h_) 3 (by decide); omega) | (have := swp_lt (P := P) hal h_ h_; omega)) (by decide) dX9_parishes_160 ?_
            show V G 9 X 161 [(0, .ref 69), (1, .int (nI b_)), (2, .int (nI r_)), (3, .int (nI 1)), (4, .int (nI h_)), (5, .int (nI (fk (lkZ P (swp P a_ h_) h_) ((swp P a_ h_) h_) 3))), (6, .int (zI (lkZ P (swp P a_ h_) h_ (fk (lkZ P (swp P a_ h_) h_) ((swp P a_ h_) h_) 3)))), (7, .int (nI 3))] [] (vup μ1.1 84 h_ (nI (fk (lkZ P (swp P a_ h_) h_) ((swp P a_ h_) h_) 3)), μ1.2)
            refine V_iincN (n := 1) (ls' := [(0, .ref 69), (1, .int (nI b_)), (2, .int (nI r_)), (3, .int (nI 1)), (4, .int (nI (h_ + 1))), (5, .int (nI (fk (lkZ P (swp P a_ h_) h_) ((swp P a_ h_) h_) 3))), (6, .int (zI (lkZ P (swp P a_ h_) h_ (fk (lkZ P (swp P a_ h_) h_) ((swp P a_ h_) h_) 3)))), (7, .int (nI 3))]) hX dX9_parishes_161 4 rfl (by decide) rfl ?_
            refine V_goto (tgt := 52) hX dX9_parishes_164 (by decide) ?_
            have hv2 : h_ < 8 → isGo (vup μ1.1 84 h_ (nI (fk (lkZ P (swp P a_ h_) h_) ((swp P a_ h_) h_) 3)), μ1.2) (swp P a_ (h_ + 1)) := fun hh g hg => by
              dsimp only
              rw [vup_get, swp_y c68]
              unfold upN
              by_cases e : g = h_
              · rw [if_pos ⟨rfl, e⟩, if_pos e]
              · rw [if_neg (fun z => e z.2), if_neg e]; exact hv g hg
            have h9 := ih (h_ + 1) (vup μ1.1 84 h_ (nI (fk (lkZ P (swp P a_ h_) h_) ((swp P a_ h_) h_) 3)), μ1.2) (by omega) (by omega) (hK.tr (mKeep.put (a := 84) (k := h_) (x := nI (fk (lkZ P (swp P a_ h_) h_) ((swp P a_ h_) h_) 3)) (Or.inl (by decide)))) (hv2 (by omega))
            rw [show bI (mvd P a_ (h_ + 1) = true) = nI 1 from bI_t (mvd_y c68 c143)] at h9
            exact V_sub [0, 1, 2, 3, 4] rfl h9
set_option maxRecDepth 100000 in
set_option maxHeartbeats 4000000 in
theorem lpM_par3b {G : VG} {d : Nat} {μ : VS} {X : VX} {P : PC} {b_ : Nat} {RES : Int32 × (Nat → Nat)} (hX : Cx G (d + 2) yX9_parishes cX9_parishes 9 (some .int) X) (hM : isM μ P) (hok : okP P) (hF : ∀ (r_ : Nat) (m_ : Bool) (a_ : Nat → Nat) (μ1 : VS), r_ ≤ 99 → (∀ g, a_ g < 3) → mKeep μ μ1 → isGo μ1 a_ → RES = ((if m_ = true then -6 else nI r_), a_) → V G 9 X 173 [(0, .ref 69), (1, .int (nI b_)), (2, .int (nI r_)), (3, .int (bI (m_ = true)))] [] μ1) : ∀ (j r_ : Nat) (a_ : Nat → Nat) (m_ : Bool) (μ1 : VS), r_ + j = 99 → (∀ g, a_ g < 3) → mKeep μ μ1 → isGo μ1 a_ → (if m_ = true then paR P j r_ a_ else (nI r_, a_)) = RES → V G 9 X 37 [(0, .ref 69), (1, .int (nI b_)), (2, .int (nI r_)), (3, .int (bI (m_ = true)))] [] μ1 := by
  intro j
  induction j with
  | zero =>
    intro r_ a_ m_ μ1 h1 hal hK hv hres
    refine V_iload_n hX dX9_parishes_37 3 rfl ?_
    refine V_if_eqB (tgt := 173) hX dX9_parishes_38 (by decide) (fun c38 => ?_) (fun c38 => ?_)
    · exact hF r_ m_ a_ μ1 (by omega) hal hK hv (by rw [← hres, if_neg c38, if_neg c38])
    · refine V_iload_n hX dX9_parishes_41 2 rfl ?_
      refine V_bipush (v := nI 99) hX dX9_parishes_42 (by decide) ?_
      refine V_icmp_geN (tgt := 173) hX dX9_parishes_44 (by decide) (by omega) (by omega) (fun c44 => ?_) (fun c44 => ?_)
      · exact hF r_ m_ a_ μ1 (by omega) hal hK hv (by rw [← hres, if_pos c38, if_pos c38]; rfl)
      · exact absurd c44 (by omega)
  | succ j ih =>
    intro r_ a_ m_ μ1 h1 hal hK hv hres
    refine V_iload_n hX dX9_parishes_37 3 rfl ?_
    refine V_if_eqB (tgt := 173) hX dX9_parishes_38 (by decide) (fun c38 => ?_) (fun c38 => ?_)
    · exact hF r_ m_ a_ μ1 (by omega) hal hK hv (by rw [← hres, if_neg c38, if_neg c38])
    · refine V_iload_n hX dX9_parishes_41 2 rfl ?_
      refine V_bipush (v := nI 99) hX dX9_parishes_42 (by decide) ?_
      refine V_icmp_geN (tgt := 173) hX dX9_parishes_44 (by decide) (by omega) (by omega) (fun c44 => ?_) (fun c44 => ?_)
      · exact absurd c44 (by omega)
      · refine V_iconst (v := nI 0) hX dX9_parishes_47 (by decide) ?_
        refine V_istore_n (ls' := [(0, .ref 69), (1, .int (nI b_)), (2, .int (nI r_)), (3, .int (nI 0))]) hX dX9_parishes_48 (by decide) rfl ?_
        refine V_iconst (v := nI 0) hX dX9_parishes_49 (by decide) ?_
        refine V_istore (ls' := [(0, .ref 69), (1, .int (nI b_)), (2, .int (nI r_)), (3, .int (nI 0)), (4, .int (nI 0))]) hX dX9_parishes_50 (by decide) rfl ?_
        refine lpM_par2b (r_ := r_) (a_ := a_) hX (hM.mk hK) hok hal (fun μ2 hK2 hv2 => ?_) 9 0 μ1 (by decide) (by decide) (mKeep.rf μ1) hv
        refine V_iincN (n := 1) (ls' := [(0, .ref 69), (1, .int (nI b_)), (2, .int (nI (r_ + 1))), (3, .int (bI (mvd P a_ 8 = true))), (4, .int (nI 8))]) hX dX9_parishes_167 2 rfl (by decide) rfl ?_
        refine V_goto (tgt := 37) hX dX9_parishes_170 (by decide) ?_
        exact V_sub [0, 1, 2, 3] rfl (ih (r_ + 1) (swp P a_ 8) (mvd P a_ 8) μ2 (by omega) (fun g => swp_lt hal 8 g) (hK.tr hK2) hv2 (by rw [← hres, if_pos c38]; rfl))
set_option maxRecDepth 100000 in
set_option maxHeartbeats 4000000 in
theorem lpM_par4b {G : VG} {d : Nat} {X : VX} {P : PC} {b_ : Nat} {r_ : Nat} {m_ : Bool} {a_ : Nat → Nat} {μ1 : VS} (hX : Cx G (d + 1) yX9_parishes cX9_parishes 9 (some .int) X) (hM1 : isM μ1 P) (hv : isGo μ1 a_) (hok : okP P) (hal : ∀ g, a_ g < 3) (hb : b_ < 3) (hF : V G 9 X 225 [(0, .ref 69), (1, .int (nI b_)), (2, .int (nI r_)), (3, .int (bI (m_ = true))), (4, .int (nI (cnt (crB P a_ b_) 8))), (5, .int (nI 8))] [] μ1) : ∀ (j k_ : Nat) , k_ ≤ 8 → 9 ≤ k_ + j → V G 9 X 179 [(0, .ref 69), (1, .int (nI b_)), (2, .int (nI r_)), (3, .int (bI (m_ = true))), (4, .int (nI (cnt (crB P a_ b_) k_))), (5, .int (nI k_))] [] μ1 := by
  have hP4 := hok.2.2.2.2.1
  intro j
  induction j with
  | zero =>
    intro k_ h1 h2
    exact absurd h2 (by omega)
  | succ j ih =>
    intro k_ h1 h2
    refine V_iload hX dX9_parishes_179 5 rfl ?_
    refine V_bipush (v := nI 8) hX dX9_parishes_181 (by decide) ?_
    refine V_icmp_geN (tgt := 225) hX dX9_parishes_183 (by decide) (by first | omega | (have := hal k_; omega)) (by first | omega | (have := hal k_; omega)) (fun c183 => ?_) (fun c183 => ?_)
    · obtain rfl : k_ = 8 := by omega
      exact hF
    · refine V_iload hX dX9_parishes_186 4 rfl ?_
      refine V_aload_n hX dX9_parishes_188 0 rfl ?_
      refine V_getN (x := nI (P 0 4)) hX fX9_72 rfl (hM1.1 4 (by decide)) dX9_parishes_189 ?_
      refine V_iload hX dX9_parishes_192 5 rfl ?_
      refine V_callS (As := [.int (nI (P 0 4)), .int (nI k_)]) (st := [.int (nI (cnt (crB P a_ b_) k_))]) hX mX9_79 (k_has (by first | omega | (have := hal k_; omega)) (by first | omega | (have := hal k_; omega)) ?_) rfl (Nat.le_of_ble_eq_true rfl) (Nat.le_of_ble_eq_true rfl) dX9_parishes_194
      show V G 9 X 197 [(0, .ref 69), (1, .int (nI b_)), (2, .int (nI r_)), (3, .int (bI (m_ = true))), (4, .int (nI (cnt (crB P a_ b_) k_))), (5, .int (nI k_))] [.int (bI ((P 0 4).testBit k_ = true)), .int (nI (cnt (crB P a_ b_) k_))] μ1
      refine V_if_eqB (tgt := 215) hX dX9_parishes_197 (by decide) (fun c197 => ?_) (fun c197 => ?_)
      · refine V_iconst (v := nI 0) hX dX9_parishes_215 (by decide) ?_
        refine V_iaddN hX dX9_parishes_216 ?_
        refine V_istore (ls' := [(0, .ref 69), (1, .int (nI b_)), (2, .int (nI r_)), (3, .int (bI (m_ = true))), (4, .int (nI ((cnt (crB P a_ b_) k_) + 0))), (5, .int (nI k_))]) hX dX9_parishes_217 (by decide) rfl ?_
        refine V_iincN (n := 1) (ls' := [(0, .ref 69), (1, .int (nI b_)), (2, .int (nI r_)), (3, .int (bI (m_ = true))), (4, .int (nI ((cnt (crB P a_ b_) k_) + 0))), (5, .int (nI (k_ + 1)))]) hX dX9_parishes_219 5 rfl (by decide) rfl ?_
        refine V_goto (tgt := 179) hX dX9_parishes_222 (by decide) ?_
        have h9 := ih (k_ + 1) (by omega) (by omega)
        rw [show cnt (crB P a_ b_) (k_ + 1) = (cnt (crB P a_ b_) k_) + 0 from congrArg (cnt (crB P a_ b_) k_ + ·) (if_neg (by unfold crB; rw [show pPres P k_ = false from Bool.eq_false_iff.mpr c197]; simp))] at h9
        exact h9
      · refine V_aload_n hX dX9_parishes_200 0 rfl ?_
        refine V_getr (j := 84) hX fX9_62 rfl rfl dX9_parishes_201 ?_
        refine V_iload hX dX9_parishes_204 5 rfl ?_
        refine V_ialdN (x := nI (a_ k_)) hX rfl (by first | omega | (have := hal k_; omega)) (by decide) (hv _ (by omega)) dX9_parishes_206 ?_
        refine V_iload_n hX dX9_parishes_207 1 rfl ?_
        refine V_icmp_neN (tgt := 215) hX dX9_parishes_208 (by decide) (by first | omega | (have := hal k_; omega)) (by first | omega | (have := hal k_; omega)) (fun c208 => ?_) (fun c208 => ?_)
        · refine V_iconst (v := nI 0) hX dX9_parishes_215 (by decide) ?_
          refine V_iaddN hX dX9_parishes_216 ?_
          refine V_istore (ls' := [(0, .ref 69), (1, .int (nI b_)), (2, .int (nI r_)), (3, .int (bI (m_ = true))), (4, .int (nI ((cnt (crB P a_ b_) k_) + 0))), (5, .int (nI k_))]) hX dX9_parishes_217 (by decide) rfl ?_
          refine V_iincN (n := 1) (ls' := [(0, .ref 69), (1, .int (nI b_)), (2, .int (nI r_)), (3, .int (bI (m_ = true))), (4, .int (nI ((cnt (crB P a_ b_) k_) + 0))), (5, .int (nI (k_ + 1)))]) hX dX9_parishes_219 5 rfl (by decide) rfl ?_
          refine V_goto (tgt := 179) hX dX9_parishes_222 (by decide) ?_
          have h9 := ih (k_ + 1) (by omega) (by omega)
          rw [show cnt (crB P a_ b_) (k_ + 1) = (cnt (crB P a_ b_) k_) + 0 from congrArg (cnt (crB P a_ b_) k_ + ·) (if_neg (by unfold crB; rw [decide_eq_false c208]; simp))] at h9
          exact h9
        · refine V_iconst (v := nI 1) hX dX9_parishes_211 (by decide) ?_
          refine V_goto (tgt := 216) hX dX9_parishes_212 (by decide) ?_
          refine V_iaddN hX dX9_parishes_216 ?_
          refine V_istore (ls' := [(0, .ref 69), (1, .int (nI b_)), (2, .int (nI r_)), (3, .int (bI (m_ = true))), (4, .int (nI ((cnt (crB P a_ b_) k_) + 1))), (5, .int (nI k_))]) hX dX9_parishes_217 (by decide) rfl ?_
          refine V_iincN (n := 1) (ls' := [(0, .ref 69), (1, .int (nI b_)), (2, .int (nI r_)), (3, .int (bI (m_ = true))), (4, .int (nI ((cnt (crB P a_ b_) k_) + 1))), (5, .int (nI (k_ + 1)))]) hX dX9_parishes_219 5 rfl (by decide) rfl ?_
          refine V_goto (tgt := 179) hX dX9_parishes_222 (by decide) ?_
          have h9 := ih (k_ + 1) (by omega) (by omega)
          rw [show cnt (crB P a_ b_) (k_ + 1) = (cnt (crB P a_ b_) k_) + 1 from congrArg (cnt (crB P a_ b_) k_ + ·) (if_pos (by unfold crB; rw [show pPres P k_ = true from c197, decide_eq_true c208]; rfl))] at h9
          exact h9
set_option maxRecDepth 100000 in
set_option maxHeartbeats 4000000 in
theorem lpM_par0b {G : VG} {d : Nat} {μ : VS} {X : VX} {b_ : Nat} (hX : Cx G d yX9_parishes cX9_parishes 9 (some .int) X) (hF : ∀ μ1, mKeep μ μ1 → isGo μ1 (fun _ => 0) → V G 9 X 33 [(0, .ref 69), (1, .int (nI b_)), (2, .int (nI 8))] [] μ1) : ∀ (j k_ : Nat) (μ1 : VS), k_ ≤ 8 → 9 ≤ k_ + j → mKeep μ μ1 → (∀ g, g < k_ → μ1.1 84 g = nI 0) → V G 9 X 14 [(0, .ref 69), (1, .int (nI b_)), (2, .int (nI k_))] [] μ1 := by
  intro j
  induction j with
  | zero =>
    intro k_ μ1 h1 h2
    exact absurd h2 (by omega)
  | succ j ih =>
    intro k_ μ1 h1 h2 hK hz
    refine V_iload_n hX dX9_parishes_14 2 rfl ?_
    refine V_bipush (v := nI 8) hX dX9_parishes_15 (by decide) ?_
    refine V_icmp_geN (tgt := 33) hX dX9_parishes_17 (by decide) (by omega) (by omega) (fun c17 => ?_) (fun c17 => ?_)
    · obtain rfl : k_ = 8 := by omega
      exact hF μ1 hK hz
    · refine V_aload_n hX dX9_parishes_20 0 rfl ?_
      refine V_getr (j := 84) hX fX9_62 rfl rfl dX9_parishes_21 ?_
      refine V_iload_n hX dX9_parishes_24 2 rfl ?_
      refine V_iconst (v := nI 0) hX dX9_parishes_25 (by decide) ?_
      refine V_iastN hX rfl (by omega) (by decide) dX9_parishes_26 ?_
      show V G 9 X 27 [(0, .ref 69), (1, .int (nI b_)), (2, .int (nI k_))] [] (vup μ1.1 84 k_ (nI 0), μ1.2)
      refine V_iincN (n := 1) (ls' := [(0, .ref 69), (1, .int (nI b_)), (2, .int (nI (k_ + 1)))]) hX dX9_parishes_27 2 rfl (by decide) rfl ?_
      refine V_goto (tgt := 14) hX dX9_parishes_30 (by decide) ?_
      refine ih (k_ + 1) _ (by omega) (by omega) (hK.tr (mKeep.put (a := 84) (k := k_) (x := nI 0) (Or.inl (by decide)))) (fun g hg => ?_)
      dsimp only
      rw [vup_get]
      by_cases e : g = k_
      · rw [if_pos ⟨rfl, e⟩]
      · rw [if_neg (fun z => e z.2)]; exact hz g (by omega)
set_option maxRecDepth 100000 in
set_option maxHeartbeats 4000000 in
theorem kM_parb {G : VG} {d : Nat} {μ : VS} {Q : Option Value → VS → Prop} {P : PC} {L : Nat} {S κ : Nat → Nat} {I : Nat → PC} {b_ : Nat} (hb : b_ < 3) (hRM : RM μ P L S κ I) (hok : okP P) (hpd : okPad L S) (hQ : ∀ μ', RM μ' P L S κ I → keepC μ μ' → Q (some (.int (parS P (nI b_)))) μ') : Call G (d + 3) yX9_parishes cX9_parishes 9 (some .int) [.ref 69, .int (nI b_)] μ Q := by
  intro X hX hR
  have hM := hRM.1
  have hL := hRM.2.1
  have hS := hpd.2
  have hL60 := hpd.1
  have hP4 := hok.2.2.2.2.1
  have h4 := hP4
  have hin : -1 ≤ nI b_ ∧ nI b_ ≤ nI 2 := ⟨Int32.le_trans (by decide : (-1 : Int32) ≤ 0) (Int32.not_lt.mp (nI_neg (by omega))), nI_le (by omega) (by decide)⟩
  show V G 9 X 0 [(0, .ref 69), (1, .int (nI b_))] [] μ
  refine V_iload_n hX dX9_parishes_0 1 rfl ?_
  refine V_iconst (v := (-1)) hX dX9_parishes_1 (by decide) ?_
  refine V_iconst (v := nI 2) hX dX9_parishes_2 (by decide) ?_
  refine V_callS (As := [.int (nI b_), .int (-1), .int (nI 2)]) (st := []) hX mX9_75 (k_in ?_) rfl (Nat.le_of_ble_eq_true rfl) (Nat.le_of_ble_eq_true rfl) dX9_parishes_3
  show V G 9 X 6 [(0, .ref 69), (1, .int (nI b_))] [.int (bI ((-1) ≤ nI b_ ∧ nI b_ ≤ nI 2))] μ
  refine V_if_neB (tgt := 12) hX dX9_parishes_6 (by decide) (fun c6 => ?_) (fun c6 => ?_)
  · refine V_iconst (v := nI 0) hX dX9_parishes_12 (by decide) ?_
    refine V_istore_n (ls' := [(0, .ref 69), (1, .int (nI b_)), (2, .int (nI 0))]) hX dX9_parishes_13 (by decide) rfl ?_
    refine lpM_par0b (μ := μ) hX (fun μ1 hK hv => ?_) 9 0 μ (by decide) (by decide) (mKeep.rf μ) (fun g hg => absurd hg (by omega))
    refine V_iconst (v := nI 0) hX dX9_parishes_33 (by decide) ?_
    refine V_istore_n (ls' := [(0, .ref 69), (1, .int (nI b_)), (2, .int (nI 0))]) hX dX9_parishes_34 (by decide) rfl ?_
    refine V_iconst (v := nI 1) hX dX9_parishes_35 (by decide) ?_
    refine V_istore_n (ls' := [(0, .ref 69), (1, .int (nI b_)), (2, .int (nI 0)), (3, .int (nI 1))]) hX dX9_parishes_36 (by decide) rfl ?_
    refine lpM_par3b (μ := μ) (RES := paR P 99 0 (fun _ => 0)) hX hM hok (fun r_ m_ a_ μ2 hr hal hK2 hv2 hres => ?_) 99 0 (fun _ => 0) true μ1 rfl (fun _ => by decide) hK hv (if_pos rfl)
    refine V_iconst (v := nI 0) hX dX9_parishes_173 (by decide) ?_
    refine V_istore (ls' := [(0, .ref 69), (1, .int (nI b_)), (2, .int (nI r_)), (3, .int (bI (m_ = true))), (4, .int (nI 0))]) hX dX9_parishes_174 (by decide) rfl ?_
    refine V_iconst (v := nI 0) hX dX9_parishes_176 (by decide) ?_
    refine V_istore (ls' := [(0, .ref 69), (1, .int (nI b_)), (2, .int (nI r_)), (3, .int (bI (m_ = true))), (4, .int (nI 0)), (5, .int (nI 0))]) hX dX9_parishes_177 (by decide) rfl ?_
    refine lpM_par4b hX (hM.mk hK2) hv2 hok hal (by omega) ?_ 9 0 (by decide) (by decide)
    refine V_iload_n hX dX9_parishes_225 1 rfl ?_
    refine V_if_ltN (tgt := 234) hX dX9_parishes_226 (by decide) (by first | omega | (have := cnt_le (crB P a_ b_) 8; omega)) ?_
    refine V_iload hX dX9_parishes_229 4 rfl ?_
    refine V_goto (tgt := 244) hX dX9_parishes_231 (by decide) ?_
    refine V_iret hX rfl dX9_parishes_244 ?_
    have h9 := hQ μ2
    rw [show parS P (nI b_) = _ from (if_pos hin).trans (if_neg (nI_n1 (by omega))), nI_clamp (by omega), hres] at h9
    exact hR _ _ (h9 (hRM.keep hK2) hK2.C)
  · exact absurd hin c6
set_option maxRecDepth 100000 in
set_option maxHeartbeats 4000000 in
theorem kM_parc {G : VG} {d : Nat} {μ : VS} {Q : Option Value → VS → Prop} {P : PC} {L : Nat} {S κ : Nat → Nat} {I : Nat → PC} {c_ : Int32} (hc : ¬ (-1 ≤ c_ ∧ c_ ≤ nI 2)) (hRM : RM μ P L S κ I) (hok : okP P) (hpd : okPad L S) (hQ : ∀ μ', RM μ' P L S κ I → keepC μ μ' → Q (some (.int (parS P c_))) μ') : Call G (d + 3) yX9_parishes cX9_parishes 9 (some .int) [.ref 69, .int c_] μ Q := by
  intro X hX hR
  have hM := hRM.1
  have hL := hRM.2.1
  have hS := hpd.2
  have hL60 := hpd.1
  have hP4 := hok.2.2.2.2.1
  have h4 := hP4
  show V G 9 X 0 [(0, .ref 69), (1, .int c_)] [] μ
  refine V_iload_n hX dX9_parishes_0 1 rfl ?_
  refine V_iconst (v := (-1)) hX dX9_parishes_1 (by decide) ?_
  refine V_iconst (v := nI 2) hX dX9_parishes_2 (by decide) ?_
  refine V_callS (As := [.int c_, .int (-1), .int (nI 2)]) (st := []) hX mX9_75 (k_in ?_) rfl (Nat.le_of_ble_eq_true rfl) (Nat.le_of_ble_eq_true rfl) dX9_parishes_3
  show V G 9 X 6 [(0, .ref 69), (1, .int c_)] [.int (bI ((-1) ≤ c_ ∧ c_ ≤ nI 2))] μ
  refine V_if_neB (tgt := 12) hX dX9_parishes_6 (by decide) (fun c6 => ?_) (fun c6 => ?_)
  · exact absurd c6 hc
  · refine V_bipush (v := (-2)) hX dX9_parishes_9 (by decide) ?_
    refine V_iret hX rfl dX9_parishes_11 ?_
    have h9 := hQ μ
    rw [show parS P c_ = -2 from if_neg hc] at h9
    exact hR _ _ (h9 hRM (keepC.rf μ))
theorem kM_parishes {G : VG} {d : Nat} {μ : VS} {Q : Option Value → VS → Prop} {P : PC} {L : Nat} {S κ : Nat → Nat} {I : Nat → PC} {c_ : Int32} (hRM : RM μ P L S κ I) (hok : okP P) (hpd : okPad L S)  (hQ : ∀ μ', RM μ' P L S κ I → keepC μ μ' → Q (some (.int (parS P c_))) μ') : Call G (d + 3) yX9_parishes cX9_parishes 9 (some .int) [.ref 69, .int c_] μ Q := by
  by_cases hc : -1 ≤ c_ ∧ c_ ≤ nI 2
  · by_cases e : c_ = -1
    · subst e; exact kM_para hRM hok hpd hQ
    · obtain ⟨b_, hb, rfl⟩ := c012 (fun z => out_iff_in.mp z hc) e
      exact kM_parb hb hRM hok hpd hQ
  · exact kM_parc hc hRM hok hpd hQ
