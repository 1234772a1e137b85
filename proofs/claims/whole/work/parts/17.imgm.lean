/-- the reference's image n under way: of the arrays the first h, of the sights the first s -/
def imgR (P : PC) (n : Nat) (μ μ1 : VS) (h s : Nat) : Prop := (∀ a, a ≠ 85 → μ1.1 a = μ.1 a) ∧ (∀ x, x < 70 * n ∨ 70 * n + 70 ≤ x → μ1.1 85 x = μ.1 85 x) ∧ (∀ j, j < 4 → ∀ g, g < h → μ1.1 85 (70 * n + 8 * j + g) = nI (P (j + 1) g)) ∧ ∀ i, i < s → μ1.1 85 (70 * n + 32 + i) = μ.1 74 i
theorem imgR.step1 {P : PC} {n : Nat} {μ μ1 : VS} {k : Nat} (h : imgR P n μ μ1 k 0) (hk : k < 8) : imgR P n μ (vup (vup (vup (vup μ1.1 85 (70 * n + k) (nI (P 1 k))) 85 (70 * n + 8 + k) (nI (P 2 k))) 85 (70 * n + 16 + k) (nI (P 3 k))) 85 (70 * n + 24 + k) (nI (P 4 k)), μ1.2) (k + 1) 0 := by
  obtain ⟨h1, h2, h3, h4⟩ := h
  refine ⟨fun a ha => ?_, fun x hx => ?_, fun j hj g hg => ?_, fun i hi => absurd hi (by omega)⟩
  · dsimp only
    rw [vup_row _ _ _ ha, vup_row _ _ _ ha, vup_row _ _ _ ha, vup_row _ _ _ ha, h1 a ha]
  · dsimp only
    rw [vup_get, if_neg (by omega), vup_get, if_neg (by omega), vup_get, if_neg (by omega), vup_get, if_neg (by omega), h2 x hx]
  · dsimp only
    by_cases e : g = k
    · subst e
      match j, hj with
      | 0, _ => rw [vup_get, if_neg (by omega), vup_get, if_neg (by omega), vup_get, if_neg (by omega), vup_get, if_pos (by omega)]
      | 1, _ => rw [vup_get, if_neg (by omega), vup_get, if_neg (by omega), vup_get, if_pos (by omega)]
      | 2, _ => rw [vup_get, if_neg (by omega), vup_get, if_pos (by omega)]
      | 3, _ => rw [vup_get, if_pos (by omega)]
    · rw [vup_get, if_neg (by omega), vup_get, if_neg (by omega), vup_get, if_neg (by omega), vup_get, if_neg (by omega)]
      exact h3 j hj g (by omega)
theorem imgR.step2 {P : PC} {n : Nat} {μ μ1 : VS} {k : Nat} (h : imgR P n μ μ1 8 k) (hk : k < 16) : imgR P n μ (vup μ1.1 85 (70 * n + 32 + k) (μ1.1 74 k), μ1.2) 8 (k + 1) := by
  obtain ⟨h1, h2, h3, h4⟩ := h
  refine ⟨fun a ha => ?_, fun x hx => ?_, fun j hj g hg => ?_, fun i hi => ?_⟩
  · dsimp only
    rw [vup_row _ _ _ ha, h1 a ha]
  · dsimp only
    rw [vup_get, if_neg (by omega), h2 x hx]
  · dsimp only
    rw [vup_get, if_neg (by omega)]
    exact h3 j hj g hg
  · dsimp only
    by_cases e : i = k
    · subst e
      rw [vup_get, if_pos (by omega), h1 74 (by omega)]
    · rw [vup_get, if_neg (by omega)]
      exact h4 i (by omega)
theorem imgR.frame {P : PC} {n : Nat} {μ μ1 : VS} {k s : Nat} (h : imgR P n μ μ1 k s) (hM : isM μ P) : isM μ1 P := by
  refine ⟨fun q hq => ?_, fun j hj q hq => ?_, fun i hi => ?_⟩
  · rw [h.1 69 (by omega)]; exact hM.1 q hq
  · rw [h.1 (70 + j) (by omega)]; exact hM.2.1 j hj q hq
  · rw [h.1 74 (by omega)]; exact hM.2.2 i hi
set_option maxRecDepth 100000 in
set_option maxHeartbeats 4000000 in
theorem lpM_img1 {G : VG} {d : Nat} {μ : VS} {X : VX} {P : PC} {j_ : Nat} (hX : Cx G d yX9_image cX9_image 4 (some .int) X) (hj : j_ ≤ 1) (hM0 : isM μ P) (hE : ∀ μ1, imgR P j_ μ μ1 8 0 → V G 4 X 96 [(0, .ref 69), (1, .int (nI j_)), (2, .int (nI (70 * j_))), (3, .int (nI 8))] [] μ1) : ∀ (j k_ : Nat) (μ1 : VS), k_ ≤ 8 → 9 ≤ k_ + j → imgR P j_ μ μ1 k_ 0 → V G 4 X 19 [(0, .ref 69), (1, .int (nI j_)), (2, .int (nI (70 * j_))), (3, .int (nI k_))] [] μ1 := by
  intro j
  induction j with
  | zero =>
    intro k_ μ1 h1 h2
    exact absurd h2 (by omega)
  | succ j ih =>
    intro k_ μ1 h1 h2 hI
    have hM := hI.frame hM0
    refine V_iload_n hX dX9_image_19 3 rfl ?_
    refine V_bipush (v := nI 8) hX dX9_image_20 (by decide) ?_
    refine V_icmp_geN (tgt := 96) hX dX9_image_22 (by decide) (by omega) (by omega) (fun c22 => ?_) (fun c22 => ?_)
    · obtain rfl : k_ = 8 := by omega
      exact hE μ1 hI
    · refine V_aload_n hX dX9_image_25 0 rfl ?_
      refine V_getr (j := 85) hX fX9_65 rfl rfl dX9_image_26 ?_
      refine V_iload_n hX dX9_image_29 2 rfl ?_
      refine V_iload_n hX dX9_image_30 3 rfl ?_
      refine V_iaddN hX dX9_image_31 ?_
      refine V_aload_n hX dX9_image_32 0 rfl ?_
      refine V_getr (j := 70) hX fX9_13 rfl rfl dX9_image_33 ?_
      refine V_iload_n hX dX9_image_36 3 rfl ?_
      refine V_ialdN (x := nI (P 1 k_)) hX rfl (by omega) (by decide) (hM.2.1 0 (by decide) _ (by omega)) dX9_image_37 ?_
      refine V_iastN hX rfl (by omega) (by decide) dX9_image_38 ?_
      show V G 4 X 39 [(0, .ref 69), (1, .int (nI j_)), (2, .int (nI (70 * j_))), (3, .int (nI k_))] [] (vup μ1.1 85 ((70 * j_) + k_) (nI (P 1 k_)), μ1.2)
      refine V_aload_n hX dX9_image_39 0 rfl ?_
      refine V_getr (j := 85) hX fX9_65 rfl rfl dX9_image_40 ?_
      refine V_iload_n hX dX9_image_43 2 rfl ?_
      refine V_bipush (v := nI 8) hX dX9_image_44 (by decide) ?_
      refine V_iaddN hX dX9_image_46 ?_
      refine V_iload_n hX dX9_image_47 3 rfl ?_
      refine V_iaddN hX dX9_image_48 ?_
      refine V_aload_n hX dX9_image_49 0 rfl ?_
      refine V_getr (j := 71) hX fX9_17 rfl rfl dX9_image_50 ?_
      refine V_iload_n hX dX9_image_53 3 rfl ?_
      refine V_ialdN (x := nI (P 2 k_)) hX rfl (by omega) (by decide) (hM.2.1 1 (by decide) _ (by omega)) dX9_image_54 ?_
      refine V_iastN hX rfl (by omega) (by decide) dX9_image_55 ?_
      show V G 4 X 56 [(0, .ref 69), (1, .int (nI j_)), (2, .int (nI (70 * j_))), (3, .int (nI k_))] [] (vup (vup μ1.1 85 ((70 * j_) + k_) (nI (P 1 k_))) 85 (((70 * j_) + 8) + k_) (nI (P 2 k_)), μ1.2)
      refine V_aload_n hX dX9_image_56 0 rfl ?_
      refine V_getr (j := 85) hX fX9_65 rfl rfl dX9_image_57 ?_
      refine V_iload_n hX dX9_image_60 2 rfl ?_
      refine V_bipush (v := nI 16) hX dX9_image_61 (by decide) ?_
      refine V_iaddN hX dX9_image_63 ?_
      refine V_iload_n hX dX9_image_64 3 rfl ?_
      refine V_iaddN hX dX9_image_65 ?_
      refine V_aload_n hX dX9_image_66 0 rfl ?_
      refine V_getr (j := 72) hX fX9_20 rfl rfl dX9_image_67 ?_
      refine V_iload_n hX dX9_image_70 3 rfl ?_
      refine V_ialdN (x := nI (P 3 k_)) hX rfl (by omega) (by decide) (hM.2.1 2 (by decide) _ (by omega)) dX9_image_71 ?_
      refine V_iastN hX rfl (by omega) (by decide) dX9_image_72 ?_
      show V G 4 X 73 [(0, .ref 69), (1, .int (nI j_)), (2, .int (nI (70 * j_))), (3, .int (nI k_))] [] (vup (vup (vup μ1.1 85 ((70 * j_) + k_) (nI (P 1 k_))) 85 (((70 * j_) + 8) + k_) (nI (P 2 k_))) 85 (((70 * j_) + 16) + k_) (nI (P 3 k_)), μ1.2)
      refine V_aload_n hX dX9_image_73 0 rfl ?_
      refine V_getr (j := 85) hX fX9_65 rfl rfl dX9_image_74 ?_
      refine V_iload_n hX dX9_image_77 2 rfl ?_
      refine V_bipush (v := nI 24) hX dX9_image_78 (by decide) ?_
      refine V_iaddN hX dX9_image_80 ?_
      refine V_iload_n hX dX9_image_81 3 rfl ?_
      refine V_iaddN hX dX9_image_82 ?_
      refine V_aload_n hX dX9_image_83 0 rfl ?_
      refine V_getr (j := 73) hX fX9_23 rfl rfl dX9_image_84 ?_
      refine V_iload_n hX dX9_image_87 3 rfl ?_
      refine V_ialdN (x := nI (P 4 k_)) hX rfl (by omega) (by decide) (hM.2.1 3 (by decide) _ (by omega)) dX9_image_88 ?_
      refine V_iastN hX rfl (by omega) (by decide) dX9_image_89 ?_
      show V G 4 X 90 [(0, .ref 69), (1, .int (nI j_)), (2, .int (nI (70 * j_))), (3, .int (nI k_))] [] (vup (vup (vup (vup μ1.1 85 ((70 * j_) + k_) (nI (P 1 k_))) 85 (((70 * j_) + 8) + k_) (nI (P 2 k_))) 85 (((70 * j_) + 16) + k_) (nI (P 3 k_))) 85 (((70 * j_) + 24) + k_) (nI (P 4 k_)), μ1.2)
      refine V_iincN (n := 1) (ls' := [(0, .ref 69), (1, .int (nI j_)), (2, .int (nI (70 * j_))), (3, .int (nI (k_ + 1)))]) hX dX9_image_90 3 rfl (by decide) rfl ?_
      refine V_goto (tgt := 19) hX dX9_image_93 (by decide) ?_
      exact ih (k_ + 1) _ (by omega) (by omega) (hI.step1 (by omega))
set_option maxRecDepth 100000 in
set_option maxHeartbeats 4000000 in
theorem lpM_img2 {G : VG} {d : Nat} {μ : VS} {X : VX} {P : PC} {j_ : Nat} (hX : Cx G d yX9_image cX9_image 4 (some .int) X) (hj : j_ ≤ 1) (hM0 : isM μ P) (hE : ∀ μ1, imgR P j_ μ μ1 8 16 → V G 4 X 127 [(0, .ref 69), (1, .int (nI j_)), (2, .int (nI (70 * j_))), (3, .int (nI 16))] [] μ1) : ∀ (j k_ : Nat) (μ1 : VS), k_ ≤ 16 → 17 ≤ k_ + j → imgR P j_ μ μ1 8 k_ → V G 4 X 98 [(0, .ref 69), (1, .int (nI j_)), (2, .int (nI (70 * j_))), (3, .int (nI k_))] [] μ1 := by
  intro j
  induction j with
  | zero =>
    intro k_ μ1 h1 h2
    exact absurd h2 (by omega)
  | succ j ih =>
    intro k_ μ1 h1 h2 hI
    have hM := hI.frame hM0
    refine V_iload_n hX dX9_image_98 3 rfl ?_
    refine V_bipush (v := nI 16) hX dX9_image_99 (by decide) ?_
    refine V_icmp_geN (tgt := 127) hX dX9_image_101 (by decide) (by omega) (by omega) (fun c101 => ?_) (fun c101 => ?_)
    · obtain rfl : k_ = 16 := by omega
      exact hE μ1 hI
    · refine V_aload_n hX dX9_image_104 0 rfl ?_
      refine V_getr (j := 85) hX fX9_65 rfl rfl dX9_image_105 ?_
      refine V_iload_n hX dX9_image_108 2 rfl ?_
      refine V_bipush (v := nI 32) hX dX9_image_109 (by decide) ?_
      refine V_iaddN hX dX9_image_111 ?_
      refine V_iload_n hX dX9_image_112 3 rfl ?_
      refine V_iaddN hX dX9_image_113 ?_
      refine V_aload_n hX dX9_image_114 0 rfl ?_
      refine V_getr (j := 74) hX fX9_32 rfl rfl dX9_image_115 ?_
      refine V_iload_n hX dX9_image_118 3 rfl ?_
      refine V_ialdN (x := μ1.1 74 k_) hX rfl (by omega) (by decide) rfl dX9_image_119 ?_
      refine V_iastN hX rfl (by omega) (by decide) dX9_image_120 ?_
      show V G 4 X 121 [(0, .ref 69), (1, .int (nI j_)), (2, .int (nI (70 * j_))), (3, .int (nI k_))] [] (vup μ1.1 85 (((70 * j_) + 32) + k_) (μ1.1 74 k_), μ1.2)
      refine V_iincN (n := 1) (ls' := [(0, .ref 69), (1, .int (nI j_)), (2, .int (nI (70 * j_))), (3, .int (nI (k_ + 1)))]) hX dX9_image_121 3 rfl (by decide) rfl ?_
      refine V_goto (tgt := 98) hX dX9_image_124 (by decide) ?_
      exact ih (k_ + 1) _ (by omega) (by omega) (hI.step2 (by omega))
theorem RM.image {μ μ1 : VS} {P : PC} {L : Nat} {S κ : Nat → Nat} {I : Nat → PC} (h : RM μ P L S κ I) {j : Nat} (hj : j ≤ 1) (hI : imgR P j μ μ1 8 16) : RM (vup (vup (vup (vup (vup (vup (vup (vup μ1.1 85 (70 * j + 50) (nI (P 0 0))) 85 (70 * j + 51) (nI (P 0 4))) 85 (70 * j + 52) (nI (P 0 5))) 85 (70 * j + 53) (nI (P 0 1))) 85 (70 * j + 54) (nI (P 0 2))) 85 (70 * j + 55) (nI (P 0 3))) 85 (70 * j + 56) (nI (P 0 6))) 86 j (nI 1), μ1.2) P L S (upN κ j 1) (upN I j P) := by
  obtain ⟨h1, h2, h3, h4⟩ := hI
  generalize hm : (vup (vup (vup (vup (vup (vup (vup μ1.1 85 (70 * j + 50) (nI (P 0 0))) 85 (70 * j + 51) (nI (P 0 4))) 85 (70 * j + 52) (nI (P 0 5))) 85 (70 * j + 53) (nI (P 0 1))) 85 (70 * j + 54) (nI (P 0 2))) 85 (70 * j + 55) (nI (P 0 3))) 85 (70 * j + 56) (nI (P 0 6))) = m
  have e : ∀ a, a ≠ 85 → a ≠ 86 → (vup m 86 j (nI 1), μ1.2).1 a = μ.1 a := fun a ha hb => by
    show vup m 86 j (nI 1) a = _
    rw [vup_row _ _ _ hb, ← hm, vup_row _ _ _ ha, vup_row _ _ _ ha, vup_row _ _ _ ha, vup_row _ _ _ ha, vup_row _ _ _ ha, vup_row _ _ _ ha, vup_row _ _ _ ha, h1 a ha]
  have e85 : (vup m 86 j (nI 1), μ1.2).1 85 = m 85 := vup_row m j (nI 1) (show 85 ≠ 86 by decide)
  have out : ∀ x, (x < 70 * j + 50 ∨ 70 * j + 57 ≤ x) → m 85 x = μ1.1 85 x := fun x hx => by
    rw [← hm, vup_get, if_neg (by omega), vup_get, if_neg (by omega), vup_get, if_neg (by omega), vup_get, if_neg (by omega), vup_get, if_neg (by omega), vup_get, if_neg (by omega), vup_get, if_neg (by omega)]
  have hsc : ∀ k, k < 7 → m 85 (70 * j + iF k) = nI (P 0 k) := fun k hk => by
    rw [← hm]
    match k, hk with
    | 0, _ => show vup _ _ _ _ 85 (70 * j + 50) = _; rw [vup_get, if_neg (by omega), vup_get, if_neg (by omega), vup_get, if_neg (by omega), vup_get, if_neg (by omega), vup_get, if_neg (by omega), vup_get, if_neg (by omega), vup_get, if_pos (by omega)]
    | 4, _ => show vup _ _ _ _ 85 (70 * j + 51) = _; rw [vup_get, if_neg (by omega), vup_get, if_neg (by omega), vup_get, if_neg (by omega), vup_get, if_neg (by omega), vup_get, if_neg (by omega), vup_get, if_pos (by omega)]
    | 5, _ => show vup _ _ _ _ 85 (70 * j + 52) = _; rw [vup_get, if_neg (by omega), vup_get, if_neg (by omega), vup_get, if_neg (by omega), vup_get, if_neg (by omega), vup_get, if_pos (by omega)]
    | 1, _ => show vup _ _ _ _ 85 (70 * j + 53) = _; rw [vup_get, if_neg (by omega), vup_get, if_neg (by omega), vup_get, if_neg (by omega), vup_get, if_pos (by omega)]
    | 2, _ => show vup _ _ _ _ 85 (70 * j + 54) = _; rw [vup_get, if_neg (by omega), vup_get, if_neg (by omega), vup_get, if_pos (by omega)]
    | 3, _ => show vup _ _ _ _ 85 (70 * j + 55) = _; rw [vup_get, if_neg (by omega), vup_get, if_pos (by omega)]
    | 6, _ => show vup _ _ _ _ 85 (70 * j + 56) = _; rw [vup_get, if_pos (by omega)]
  refine ⟨?_, ⟨?_, fun i hi => ?_⟩, fun n hn => ⟨?_, fun hκ => ?_⟩⟩
  · refine ⟨fun q hq => ?_, fun i hi q hq => ?_, fun i hi => ?_⟩
    · rw [e 69 (by omega) (by omega)]; exact h.1.1 q hq
    · rw [e (70 + i) (by omega) (by omega)]; exact h.1.2.1 i hi q hq
    · rw [e 74 (by omega) (by omega)]; exact h.1.2.2 i hi
  · rw [e 69 (by omega) (by omega)]; exact h.2.1.1
  · rw [e 75 (by omega) (by omega)]; exact h.2.1.2 i hi
  · show vup m 86 j (nI 1) 86 n = _
    rw [vup_get]
    unfold upN
    by_cases q : n = j
    · simp [q]
    · simp only [q, and_false, if_false]
      rw [← hm, vup_row (a := 86) _ _ _ (by decide), vup_row _ _ _ (by decide), vup_row (a := 86) _ _ _ (by decide), vup_row _ _ _ (by decide), vup_row (a := 86) _ _ _ (by decide), vup_row _ _ _ (by decide), vup_row (a := 86) _ _ _ (by decide), h1 86 (by decide)]
      exact (h.2.2 n hn).1
  · unfold upN at hκ ⊢
    unfold isI
    rw [e85]
    by_cases q : n = j
    · rw [if_pos q, q]
      refine ⟨hsc, fun i hi g hg => ?_, fun i hi => ?_⟩
      · rw [out _ (by omega)]; exact h3 i hi g hg
      · rw [out _ (by omega), out _ (by omega), h4 (2 * i) (by omega), h4 (2 * i + 1) (by omega)]
        exact h.1.2.2 i hi
    · rw [if_neg q] at hκ ⊢
      obtain ⟨g1, g2, g3⟩ := (h.2.2 n hn).2 hκ
      have hb : ∀ k, k < 7 → iF k < 57 := by decide
      refine ⟨fun k hk => ?_, fun i hi g hg => ?_, fun i hi => ?_⟩
      · have := hb k hk
        rw [out _ (by omega), h2 _ (by omega)]; exact g1 k hk
      · rw [out _ (by omega), h2 _ (by omega)]; exact g2 i hi g hg
      · rw [out _ (by omega), out _ (by omega), h2 _ (by omega), h2 _ (by omega)]; exact g3 i hi
set_option maxRecDepth 100000 in
set_option maxHeartbeats 4000000 in
theorem kM_image {G : VG} {d : Nat} {μ : VS} {Q : Option Value → VS → Prop} {P : PC} {L : Nat} {S κ : Nat → Nat} {I : Nat → PC} {n_ : Int32} (hRM : RM μ P L S κ I) (hQ : ∀ μ', RM μ' P L S (imageS P κ I n_).2.1 (imageS P κ I n_).2.2 → keepC μ μ' → Q (some (.int (imageS P κ I n_).1)) μ') : Call G (d + 2) yX9_image cX9_image 4 (some .int) [.ref 69, .int n_] μ Q := by
  intro X hX hR
  have hM := hRM.1
  show V G 4 X 0 [(0, .ref 69), (1, .int n_)] [] μ
  refine V_iload_n hX dX9_image_0 1 rfl ?_
  refine V_iconst (v := nI 0) hX dX9_image_1 (by decide) ?_
  refine V_iconst (v := nI 1) hX dX9_image_2 (by decide) ?_
  refine V_callS (As := [.int n_, .int (nI 0), .int (nI 1)]) (st := []) hX mX9_75 (k_in ?_) rfl (Nat.le_of_ble_eq_true rfl) (Nat.le_of_ble_eq_true rfl) dX9_image_3
  show V G 4 X 6 [(0, .ref 69), (1, .int n_)] [.int (bI (nI 0 ≤ n_ ∧ n_ ≤ nI 1))] μ
  refine V_if_neB (tgt := 12) hX dX9_image_6 (by decide) (fun c6 => ?_) (fun c6 => ?_)
  · obtain ⟨j_, hj0, hj7, rfl⟩ := nat_of_in (by decide) (by decide) c6
    refine V_bipush (v := nI 70) hX dX9_image_12 (by decide) ?_
    refine V_iload_n hX dX9_image_14 1 rfl ?_
    refine V_imulN hX dX9_image_15 ?_
    refine V_istore_n (ls' := [(0, .ref 69), (1, .int (nI j_)), (2, .int (nI (70 * j_)))]) hX dX9_image_16 (by decide) rfl ?_
    refine V_iconst (v := nI 0) hX dX9_image_17 (by decide) ?_
    refine V_istore_n (ls' := [(0, .ref 69), (1, .int (nI j_)), (2, .int (nI (70 * j_))), (3, .int (nI 0))]) hX dX9_image_18 (by decide) rfl ?_
    refine lpM_img1 hX hj7 hM (fun μa hIa => ?_) 9 0 μ (by decide) (by decide) ⟨fun _ _ => rfl, fun _ _ => rfl, fun _ _ g hg => absurd hg (by omega), fun _ hi => absurd hi (by omega)⟩
    refine V_iconst (v := nI 0) hX dX9_image_96 (by decide) ?_
    refine V_istore_n (ls' := [(0, .ref 69), (1, .int (nI j_)), (2, .int (nI (70 * j_))), (3, .int (nI 0))]) hX dX9_image_97 (by decide) rfl ?_
    refine lpM_img2 hX hj7 hM (fun μ1 hI2 => ?_) 17 0 μa (by decide) (by decide) hIa
    have hM := hI2.frame hM
    refine V_aload_n hX dX9_image_127 0 rfl ?_
    refine V_getr (j := 85) hX fX9_65 rfl rfl dX9_image_128 ?_
    refine V_iload_n hX dX9_image_131 2 rfl ?_
    refine V_bipush (v := nI 50) hX dX9_image_132 (by decide) ?_
    refine V_iaddN hX dX9_image_134 ?_
    refine V_aload_n hX dX9_image_135 0 rfl ?_
    refine V_getN (x := nI (P 0 0)) hX fX9_7 rfl (hM.1 0 (by decide)) dX9_image_136 ?_
    refine V_iastN hX rfl (by omega) (by decide) dX9_image_139 ?_
    show V G 4 X 140 [(0, .ref 69), (1, .int (nI j_)), (2, .int (nI (70 * j_))), (3, .int (nI 16))] [] (vup μ1.1 85 ((70 * j_) + 50) (nI (P 0 0)), μ1.2)
    refine V_aload_n hX dX9_image_140 0 rfl ?_
    refine V_getr (j := 85) hX fX9_65 rfl rfl dX9_image_141 ?_
    refine V_iload_n hX dX9_image_144 2 rfl ?_
    refine V_bipush (v := nI 51) hX dX9_image_145 (by decide) ?_
    refine V_iaddN hX dX9_image_147 ?_
    refine V_aload_n hX dX9_image_148 0 rfl ?_
    refine V_getN (x := nI (P 0 4)) hX fX9_72 rfl (hM.1 4 (by decide)) dX9_image_149 ?_
    refine V_iastN hX rfl (by omega) (by decide) dX9_image_152 ?_
    show V G 4 X 153 [(0, .ref 69), (1, .int (nI j_)), (2, .int (nI (70 * j_))), (3, .int (nI 16))] [] (vup (vup μ1.1 85 ((70 * j_) + 50) (nI (P 0 0))) 85 ((70 * j_) + 51) (nI (P 0 4)), μ1.2)
    refine V_aload_n hX dX9_image_153 0 rfl ?_
    refine V_getr (j := 85) hX fX9_65 rfl rfl dX9_image_154 ?_
    refine V_iload_n hX dX9_image_157 2 rfl ?_
    refine V_bipush (v := nI 52) hX dX9_image_158 (by decide) ?_
    refine V_iaddN hX dX9_image_160 ?_
    refine V_aload_n hX dX9_image_161 0 rfl ?_
    refine V_getN (x := nI (P 0 5)) hX fX9_83 rfl (hM.1 5 (by decide)) dX9_image_162 ?_
    refine V_iastN hX rfl (by omega) (by decide) dX9_image_165 ?_
    show V G 4 X 166 [(0, .ref 69), (1, .int (nI j_)), (2, .int (nI (70 * j_))), (3, .int (nI 16))] [] (vup (vup (vup μ1.1 85 ((70 * j_) + 50) (nI (P 0 0))) 85 ((70 * j_) + 51) (nI (P 0 4))) 85 ((70 * j_) + 52) (nI (P 0 5)), μ1.2)
    refine V_aload_n hX dX9_image_166 0 rfl ?_
    refine V_getr (j := 85) hX fX9_65 rfl rfl dX9_image_167 ?_
    refine V_iload_n hX dX9_image_170 2 rfl ?_
    refine V_bipush (v := nI 53) hX dX9_image_171 (by decide) ?_
    refine V_iaddN hX dX9_image_173 ?_
    refine V_aload_n hX dX9_image_174 0 rfl ?_
    refine V_getN (x := nI (P 0 1)) hX fX9_26 rfl (hM.1 1 (by decide)) dX9_image_175 ?_
    refine V_iastN hX rfl (by omega) (by decide) dX9_image_178 ?_
    show V G 4 X 179 [(0, .ref 69), (1, .int (nI j_)), (2, .int (nI (70 * j_))), (3, .int (nI 16))] [] (vup (vup (vup (vup μ1.1 85 ((70 * j_) + 50) (nI (P 0 0))) 85 ((70 * j_) + 51) (nI (P 0 4))) 85 ((70 * j_) + 52) (nI (P 0 5))) 85 ((70 * j_) + 53) (nI (P 0 1)), μ1.2)
    refine V_aload_n hX dX9_image_179 0 rfl ?_
    refine V_getr (j := 85) hX fX9_65 rfl rfl dX9_image_180 ?_
    refine V_iload_n hX dX9_image_183 2 rfl ?_
    refine V_bipush (v := nI 54) hX dX9_image_184 (by decide) ?_
    refine V_iaddN hX dX9_image_186 ?_
    refine V_aload_n hX dX9_image_187 0 rfl ?_
    refine V_getN (x := nI (P 0 2)) hX fX9_29 rfl (hM.1 2 (by decide)) dX9_image_188 ?_
    refine V_iastN hX rfl (by omega) (by decide) dX9_image_191 ?_
    show V G 4 X 192 [(0, .ref 69), (1, .int (nI j_)), (2, .int (nI (70 * j_))), (3, .int (nI 16))] [] (vup (vup (vup (vup (vup μ1.1 85 ((70 * j_) + 50) (nI (P 0 0))) 85 ((70 * j_) + 51) (nI (P 0 4))) 85 ((70 * j_) + 52) (nI (P 0 5))) 85 ((70 * j_) + 53) (nI (P 0 1))) 85 ((70 * j_) + 54) (nI (P 0 2)), μ1.2)
    refine V_aload_n hX dX9_image_192 0 rfl ?_
    refine V_getr (j := 85) hX fX9_65 rfl rfl dX9_image_193 ?_
    refine V_iload_n hX dX9_image_196 2 rfl ?_
    refine V_bipush (v := nI 55) hX dX9_image_197 (by decide) ?_
    refine V_iaddN hX dX9_image_199 ?_
    refine V_aload_n hX dX9_image_200 0 rfl ?_
    refine V_getN (x := nI (P 0 3)) hX fX9_89 rfl (hM.1 3 (by decide)) dX9_image_201 ?_
    refine V_iastN hX rfl (by omega) (by decide) dX9_image_204 ?_
    show V G 4 X 205 [(0, .ref 69), (1, .int (nI j_)), (2, .int (nI (70 * j_))), (3, .int (nI 16))] [] (vup (vup (vup (vup (vup (vup μ1.1 85 ((70 * j_) + 50) (nI (P 0 0))) 85 ((70 * j_) + 51) (nI (P 0 4))) 85 ((70 * j_) + 52) (nI (P 0 5))) 85 ((70 * j_) + 53) (nI (P 0 1))) 85 ((70 * j_) + 54) (nI (P 0 2))) 85 ((70 * j_) + 55) (nI (P 0 3)), μ1.2)
    refine V_aload_n hX dX9_image_205 0 rfl ?_
    refine V_getr (j := 85) hX fX9_65 rfl rfl dX9_image_206 ?_
    refine V_iload_n hX dX9_image_209 2 rfl ?_
    refine V_bipush (v := nI 56) hX dX9_image_210 (by decide) ?_
    refine V_iaddN hX dX9_image_212 ?_
    refine V_aload_n hX dX9_image_213 0 rfl ?_
    refine V_getN (x := nI (P 0 6)) hX fX9_86 rfl (hM.1 6 (by decide)) dX9_image_214 ?_
    refine V_iastN hX rfl (by omega) (by decide) dX9_image_217 ?_
    show V G 4 X 218 [(0, .ref 69), (1, .int (nI j_)), (2, .int (nI (70 * j_))), (3, .int (nI 16))] [] (vup (vup (vup (vup (vup (vup (vup μ1.1 85 ((70 * j_) + 50) (nI (P 0 0))) 85 ((70 * j_) + 51) (nI (P 0 4))) 85 ((70 * j_) + 52) (nI (P 0 5))) 85 ((70 * j_) + 53) (nI (P 0 1))) 85 ((70 * j_) + 54) (nI (P 0 2))) 85 ((70 * j_) + 55) (nI (P 0 3))) 85 ((70 * j_) + 56) (nI (P 0 6)), μ1.2)
    refine V_aload_n hX dX9_image_218 0 rfl ?_
    refine V_getr (j := 86) hX fX9_68 rfl rfl dX9_image_219 ?_
    refine V_iload_n hX dX9_image_222 1 rfl ?_
    refine V_iconst (v := nI 1) hX dX9_image_223 (by decide) ?_
    refine V_zastN hX rfl (by omega) (by decide) rfl dX9_image_224 ?_
    show V G 4 X 225 [(0, .ref 69), (1, .int (nI j_)), (2, .int (nI (70 * j_))), (3, .int (nI 16))] [] (vup (vup (vup (vup (vup (vup (vup (vup μ1.1 85 ((70 * j_) + 50) (nI (P 0 0))) 85 ((70 * j_) + 51) (nI (P 0 4))) 85 ((70 * j_) + 52) (nI (P 0 5))) 85 ((70 * j_) + 53) (nI (P 0 1))) 85 ((70 * j_) + 54) (nI (P 0 2))) 85 ((70 * j_) + 55) (nI (P 0 3))) 85 ((70 * j_) + 56) (nI (P 0 6))) 86 j_ (nI 1), μ1.2)
    refine V_iconst (v := nI 1) hX dX9_image_225 (by decide) ?_
    refine V_iret hX rfl dX9_image_226 ?_
    have h9 := hQ (vup (vup (vup (vup (vup (vup (vup (vup μ1.1 85 ((70 * j_) + 50) (nI (P 0 0))) 85 ((70 * j_) + 51) (nI (P 0 4))) 85 ((70 * j_) + 52) (nI (P 0 5))) 85 ((70 * j_) + 53) (nI (P 0 1))) 85 ((70 * j_) + 54) (nI (P 0 2))) 85 ((70 * j_) + 55) (nI (P 0 3))) 85 ((70 * j_) + 56) (nI (P 0 6))) 86 j_ (nI 1), μ1.2)
    rw [show imageS P κ I (nI j_) = _ from if_pos c6] at h9
    rw [nI_clamp (by omega)] at h9
    exact hR _ _ (h9 (hRM.image hj7 hI2) (fun a ha => by show vup _ _ _ _ a = _; rw [vup_row _ _ _ (by omega), vup_row _ _ _ (by omega), vup_row _ _ _ (by omega), vup_row _ _ _ (by omega), vup_row _ _ _ (by omega), vup_row _ _ _ (by omega), vup_row _ _ _ (by omega), vup_row _ _ _ (by omega), hI2.1 a (by omega)]))
  · refine V_bipush (v := (-2)) hX dX9_image_9 (by decide) ?_
    refine V_iret hX rfl dX9_image_11 ?_
    have h9 := hQ μ
    rw [show imageS P κ I n_ = (-2, κ, I) from if_neg c6] at h9
    exact hR _ _ (h9 hRM (keepC.rf μ))
def rstR (P : PC) (n : Nat) (μ μ1 : VS) (h s : Nat) : Prop := (∀ a, a < 70 ∨ 74 < a → μ1.1 a = μ.1 a) ∧ (∀ j, j < 4 → ∀ g, g < h → μ1.1 (70 + j) g = nI (P (j + 1) g)) ∧ ∀ i, i < s → μ1.1 74 i = μ.1 85 (70 * n + 32 + i)
theorem rstR.step1 {P : PC} {n : Nat} {μ μ1 : VS} {k : Nat} (h : rstR P n μ μ1 k 0) (hk : k < 8) : rstR P n μ (vup (vup (vup (vup μ1.1 70 k (nI (P 1 k))) 71 k (nI (P 2 k))) 72 k (nI (P 3 k))) 73 k (nI (P 4 k)), μ1.2) (k + 1) 0 := by
  obtain ⟨h1, h3, h4⟩ := h
  refine ⟨fun a ha => ?_, fun j hj g hg => ?_, fun i hi => absurd hi (by omega)⟩
  · dsimp only
    rw [vup_row _ _ _ (by omega), vup_row _ _ _ (by omega), vup_row _ _ _ (by omega), vup_row _ _ _ (by omega), h1 a ha]
  · dsimp only
    by_cases e : g = k
    · subst e
      match j, hj with
      | 0, _ => rw [vup_get, if_neg (by omega), vup_get, if_neg (by omega), vup_get, if_neg (by omega), vup_get, if_pos (by omega)]
      | 1, _ => rw [vup_get, if_neg (by omega), vup_get, if_neg (by omega), vup_get, if_pos (by omega)]
      | 2, _ => rw [vup_get, if_neg (by omega), vup_get, if_pos (by omega)]
      | 3, _ => rw [vup_get, if_pos (by omega)]
    · rw [vup_get, if_neg (by omega), vup_get, if_neg (by omega), vup_get, if_neg (by omega), vup_get, if_neg (by omega)]
      exact h3 j hj g (by omega)
theorem rstR.step2 {P : PC} {n : Nat} {μ μ1 : VS} {k : Nat} (h : rstR P n μ μ1 8 k) (hk : k < 16) : rstR P n μ (vup μ1.1 74 k (μ1.1 85 (70 * n + 32 + k)), μ1.2) 8 (k + 1) := by
  obtain ⟨h1, h3, h4⟩ := h
  refine ⟨fun a ha => ?_, fun j hj g hg => ?_, fun i hi => ?_⟩
  · dsimp only
    rw [vup_row _ _ _ (by omega), h1 a ha]
  · dsimp only
    rw [vup_row _ _ _ (by omega)]
    exact h3 j hj g hg
  · dsimp only
    by_cases e : i = k
    · subst e
      rw [vup_get, if_pos (by omega), h1 85 (by omega)]
    · rw [vup_get, if_neg (by omega)]
      exact h4 i (by omega)
theorem RM.restore {μ μ1 : VS} {P P' : PC} {L : Nat} {S κ : Nat → Nat} {I : Nat → PC} (h : RM μ P L S κ I) {j : Nat} (hI : isI μ j P') (hr : rstR P' j μ μ1 8 16) : RM (vup (vup (vup (vup (vup (vup (vup μ1.1 69 0 (nI (P' 0 0))) 69 1 (nI (P' 0 4))) 69 6 (nI (P' 0 5))) 69 7 (nI (P' 0 1))) 69 8 (nI (P' 0 2))) 69 9 (nI (P' 0 3))) 69 10 (nI (P' 0 6)), μ1.2) P' L S κ I := by
  obtain ⟨h1, h3, h4⟩ := hr
  generalize hm : (vup (vup (vup (vup (vup (vup (vup μ1.1 69 0 (nI (P' 0 0))) 69 1 (nI (P' 0 4))) 69 6 (nI (P' 0 5))) 69 7 (nI (P' 0 1))) 69 8 (nI (P' 0 2))) 69 9 (nI (P' 0 3))) 69 10 (nI (P' 0 6))) = m
  have e : ∀ a, a ≠ 69 → m a = μ1.1 a := fun a ha => by
    rw [← hm, vup_row _ _ _ ha, vup_row _ _ _ ha, vup_row _ _ _ ha, vup_row _ _ _ ha, vup_row _ _ _ ha, vup_row _ _ _ ha, vup_row _ _ _ ha]
  have hsc : ∀ k, k < 7 → m 69 (mF k) = nI (P' 0 k) := fun k hk => by
    rw [← hm]
    match k, hk with
    | 0, _ => rfl
    | 1, _ => rfl
    | 2, _ => rfl
    | 3, _ => rfl
    | 4, _ => rfl
    | 5, _ => rfl
    | 6, _ => rfl
  refine ⟨⟨hsc, fun i hi q hq => ?_, fun i hi => ?_⟩, ⟨?_, fun i hi => ?_⟩, fun n hn => ⟨?_, fun hκ => ?_⟩⟩
  · dsimp only; rw [e (70 + i) (by omega)]; exact h3 i hi q hq
  · dsimp only; rw [e 74 (by omega), h4 (2 * i) (by omega), h4 (2 * i + 1) (by omega)]; exact hI.2.2 i hi
  · show m 69 12 = _
    rw [← hm]
    show μ1.1 69 12 = _
    rw [h1 69 (by omega)]; exact h.2.1.1
  · dsimp only; rw [e 75 (by omega), h1 75 (by omega)]; exact h.2.1.2 i hi
  · dsimp only; rw [e 86 (by omega), h1 86 (by omega)]; exact (h.2.2 n hn).1
  · have g := (h.2.2 n hn).2 hκ
    unfold isI
    dsimp only
    rw [e 85 (by omega), h1 85 (by omega)]
    exact g
set_option maxRecDepth 100000 in
set_option maxHeartbeats 4000000 in
theorem lpM_rst1 {G : VG} {d : Nat} {μ : VS} {X : VX} {P' : PC} {j_ : Nat} (hX : Cx G d yX9_restore cX9_restore 4 (some .int) X) (hj : j_ ≤ 1) (hI : isI μ j_ P') (hE : ∀ μ1, rstR P' j_ μ μ1 8 0 → V G 4 X 108 [(0, .ref 69), (1, .int (nI j_)), (2, .int (nI (70 * j_))), (3, .int (nI 8))] [] μ1) : ∀ (j k_ : Nat) (μ1 : VS), k_ ≤ 8 → 9 ≤ k_ + j → rstR P' j_ μ μ1 k_ 0 → V G 4 X 31 [(0, .ref 69), (1, .int (nI j_)), (2, .int (nI (70 * j_))), (3, .int (nI k_))] [] μ1 := by
  intro j
  induction j with
  | zero =>
    intro k_ μ1 h1 h2
    exact absurd h2 (by omega)
  | succ j ih =>
    intro k_ μ1 h1 h2 hr
    refine V_iload_n hX dX9_restore_31 3 rfl ?_
    refine V_bipush (v := nI 8) hX dX9_restore_32 (by decide) ?_
    refine V_icmp_geN (tgt := 108) hX dX9_restore_34 (by decide) (by omega) (by omega) (fun c34 => ?_) (fun c34 => ?_)
    · obtain rfl : k_ = 8 := by omega
      exact hE μ1 hr
    · refine V_aload_n hX dX9_restore_37 0 rfl ?_
      refine V_getr (j := 70) hX fX9_13 rfl rfl dX9_restore_38 ?_
      refine V_iload_n hX dX9_restore_41 3 rfl ?_
      refine V_aload_n hX dX9_restore_42 0 rfl ?_
      refine V_getr (j := 85) hX fX9_65 rfl rfl dX9_restore_43 ?_
      refine V_iload_n hX dX9_restore_46 2 rfl ?_
      refine V_iload_n hX dX9_restore_47 3 rfl ?_
      refine V_iaddN hX dX9_restore_48 ?_
      refine V_ialdN (x := nI (P' 1 k_)) hX rfl (by omega) (by decide) ((congrFun (hr.1 85 (by omega)) _).trans (hI.2.1 0 (by decide) k_ (by omega))) dX9_restore_49 ?_
      refine V_iastN hX rfl (by omega) (by decide) dX9_restore_50 ?_
      show V G 4 X 51 [(0, .ref 69), (1, .int (nI j_)), (2, .int (nI (70 * j_))), (3, .int (nI k_))] [] (vup μ1.1 70 k_ (nI (P' 1 k_)), μ1.2)
      refine V_aload_n hX dX9_restore_51 0 rfl ?_
      refine V_getr (j := 71) hX fX9_17 rfl rfl dX9_restore_52 ?_
      refine V_iload_n hX dX9_restore_55 3 rfl ?_
      refine V_aload_n hX dX9_restore_56 0 rfl ?_
      refine V_getr (j := 85) hX fX9_65 rfl rfl dX9_restore_57 ?_
      refine V_iload_n hX dX9_restore_60 2 rfl ?_
      refine V_bipush (v := nI 8) hX dX9_restore_61 (by decide) ?_
      refine V_iaddN hX dX9_restore_63 ?_
      refine V_iload_n hX dX9_restore_64 3 rfl ?_
      refine V_iaddN hX dX9_restore_65 ?_
      refine V_ialdN (x := nI (P' 2 k_)) hX rfl (by omega) (by decide) ((congrFun (hr.1 85 (by omega)) _).trans (hI.2.1 1 (by decide) k_ (by omega))) dX9_restore_66 ?_
      refine V_iastN hX rfl (by omega) (by decide) dX9_restore_67 ?_
      show V G 4 X 68 [(0, .ref 69), (1, .int (nI j_)), (2, .int (nI (70 * j_))), (3, .int (nI k_))] [] (vup (vup μ1.1 70 k_ (nI (P' 1 k_))) 71 k_ (nI (P' 2 k_)), μ1.2)
      refine V_aload_n hX dX9_restore_68 0 rfl ?_
      refine V_getr (j := 72) hX fX9_20 rfl rfl dX9_restore_69 ?_
      refine V_iload_n hX dX9_restore_72 3 rfl ?_
      refine V_aload_n hX dX9_restore_73 0 rfl ?_
      refine V_getr (j := 85) hX fX9_65 rfl rfl dX9_restore_74 ?_
      refine V_iload_n hX dX9_restore_77 2 rfl ?_
      refine V_bipush (v := nI 16) hX dX9_restore_78 (by decide) ?_
      refine V_iaddN hX dX9_restore_80 ?_
      refine V_iload_n hX dX9_restore_81 3 rfl ?_
      refine V_iaddN hX dX9_restore_82 ?_
      refine V_ialdN (x := nI (P' 3 k_)) hX rfl (by omega) (by decide) ((congrFun (hr.1 85 (by omega)) _).trans (hI.2.1 2 (by decide) k_ (by omega))) dX9_restore_83 ?_
      refine V_iastN hX rfl (by omega) (by decide) dX9_restore_84 ?_
      show V G 4 X 85 [(0, .ref 69), (1, .int (nI j_)), (2, .int (nI (70 * j_))), (3, .int (nI k_))] [] (vup (vup (vup μ1.1 70 k_ (nI (P' 1 k_))) 71 k_ (nI (P' 2 k_))) 72 k_ (nI (P' 3 k_)), μ1.2)
      refine V_aload_n hX dX9_restore_85 0 rfl ?_
      refine V_getr (j := 73) hX fX9_23 rfl rfl dX9_restore_86 ?_
      refine V_iload_n hX dX9_restore_89 3 rfl ?_
      refine V_aload_n hX dX9_restore_90 0 rfl ?_
      refine V_getr (j := 85) hX fX9_65 rfl rfl dX9_restore_91 ?_
      refine V_iload_n hX dX9_restore_94 2 rfl ?_
      refine V_bipush (v := nI 24) hX dX9_restore_95 (by decide) ?_
      refine V_iaddN hX dX9_restore_97 ?_
      refine V_iload_n hX dX9_restore_98 3 rfl ?_
      refine V_iaddN hX dX9_restore_99 ?_
      refine V_ialdN (x := nI (P' 4 k_)) hX rfl (by omega) (by decide) ((congrFun (hr.1 85 (by omega)) _).trans (hI.2.1 3 (by decide) k_ (by omega))) dX9_restore_100 ?_
      refine V_iastN hX rfl (by omega) (by decide) dX9_restore_101 ?_
      show V G 4 X 102 [(0, .ref 69), (1, .int (nI j_)), (2, .int (nI (70 * j_))), (3, .int (nI k_))] [] (vup (vup (vup (vup μ1.1 70 k_ (nI (P' 1 k_))) 71 k_ (nI (P' 2 k_))) 72 k_ (nI (P' 3 k_))) 73 k_ (nI (P' 4 k_)), μ1.2)
      refine V_iincN (n := 1) (ls' := [(0, .ref 69), (1, .int (nI j_)), (2, .int (nI (70 * j_))), (3, .int (nI (k_ + 1)))]) hX dX9_restore_102 3 rfl (by decide) rfl ?_
      refine V_goto (tgt := 31) hX dX9_restore_105 (by decide) ?_
      exact ih (k_ + 1) _ (by omega) (by omega) (hr.step1 (by omega))
set_option maxRecDepth 100000 in
set_option maxHeartbeats 4000000 in
theorem lpM_rst2 {G : VG} {d : Nat} {μ : VS} {X : VX} {P' : PC} {j_ : Nat} (hX : Cx G d yX9_restore cX9_restore 4 (some .int) X) (hj : j_ ≤ 1) (hI : isI μ j_ P') (hE : ∀ μ1, rstR P' j_ μ μ1 8 16 → V G 4 X 139 [(0, .ref 69), (1, .int (nI j_)), (2, .int (nI (70 * j_))), (3, .int (nI 16))] [] μ1) : ∀ (j k_ : Nat) (μ1 : VS), k_ ≤ 16 → 17 ≤ k_ + j → rstR P' j_ μ μ1 8 k_ → V G 4 X 110 [(0, .ref 69), (1, .int (nI j_)), (2, .int (nI (70 * j_))), (3, .int (nI k_))] [] μ1 := by
  intro j
  induction j with
  | zero =>
    intro k_ μ1 h1 h2
    exact absurd h2 (by omega)
  | succ j ih =>
    intro k_ μ1 h1 h2 hr
    refine V_iload_n hX dX9_restore_110 3 rfl ?_
    refine V_bipush (v := nI 16) hX dX9_restore_111 (by decide) ?_
    refine V_icmp_geN (tgt := 139) hX dX9_restore_113 (by decide) (by omega) (by omega) (fun c113 => ?_) (fun c113 => ?_)
    · obtain rfl : k_ = 16 := by omega
      exact hE μ1 hr
    · refine V_aload_n hX dX9_restore_116 0 rfl ?_
      refine V_getr (j := 74) hX fX9_32 rfl rfl dX9_restore_117 ?_
      refine V_iload_n hX dX9_restore_120 3 rfl ?_
      refine V_aload_n hX dX9_restore_121 0 rfl ?_
      refine V_getr (j := 85) hX fX9_65 rfl rfl dX9_restore_122 ?_
      refine V_iload_n hX dX9_restore_125 2 rfl ?_
      refine V_bipush (v := nI 32) hX dX9_restore_126 (by decide) ?_
      refine V_iaddN hX dX9_restore_128 ?_
      refine V_iload_n hX dX9_restore_129 3 rfl ?_
      refine V_iaddN hX dX9_restore_130 ?_
      refine V_ialdN (x := μ1.1 85 (70 * j_ + 32 + k_)) hX rfl (by omega) (by decide) rfl dX9_restore_131 ?_
      refine V_iastN hX rfl (by omega) (by decide) dX9_restore_132 ?_
      show V G 4 X 133 [(0, .ref 69), (1, .int (nI j_)), (2, .int (nI (70 * j_))), (3, .int (nI k_))] [] (vup μ1.1 74 k_ (μ1.1 85 (70 * j_ + 32 + k_)), μ1.2)
      refine V_iincN (n := 1) (ls' := [(0, .ref 69), (1, .int (nI j_)), (2, .int (nI (70 * j_))), (3, .int (nI (k_ + 1)))]) hX dX9_restore_133 3 rfl (by decide) rfl ?_
      refine V_goto (tgt := 110) hX dX9_restore_136 (by decide) ?_
      exact ih (k_ + 1) _ (by omega) (by omega) (hr.step2 (by omega))
set_option maxRecDepth 100000 in
set_option maxHeartbeats 4000000 in
theorem kM_restore {G : VG} {d : Nat} {μ : VS} {Q : Option Value → VS → Prop} {P : PC} {L : Nat} {S κ : Nat → Nat} {I : Nat → PC} {n_ : Int32} (hRM : RM μ P L S κ I) (hκ : ∀ n, n < 2 → κ n ≤ 1) (hQ : ∀ μ', RM μ' (restoreS P κ I n_).2 L S κ I → keepC μ μ' → Q (some (.int (restoreS P κ I n_).1)) μ') : Call G (d + 2) yX9_restore cX9_restore 4 (some .int) [.ref 69, .int n_] μ Q := by
  intro X hX hR
  show V G 4 X 0 [(0, .ref 69), (1, .int n_)] [] μ
  refine V_iload_n hX dX9_restore_0 1 rfl ?_
  refine V_iconst (v := nI 0) hX dX9_restore_1 (by decide) ?_
  refine V_iconst (v := nI 1) hX dX9_restore_2 (by decide) ?_
  refine V_callS (As := [.int n_, .int (nI 0), .int (nI 1)]) (st := []) hX mX9_75 (k_in ?_) rfl (Nat.le_of_ble_eq_true rfl) (Nat.le_of_ble_eq_true rfl) dX9_restore_3
  show V G 4 X 6 [(0, .ref 69), (1, .int n_)] [.int (bI (nI 0 ≤ n_ ∧ n_ ≤ nI 1))] μ
  refine V_if_neB (tgt := 12) hX dX9_restore_6 (by decide) (fun c6 => ?_) (fun c6 => ?_)
  · obtain ⟨j_, hj0, hj7, rfl⟩ := nat_of_in (by decide) (by decide) c6
    refine V_aload_n hX dX9_restore_12 0 rfl ?_
    refine V_getr (j := 86) hX fX9_68 rfl rfl dX9_restore_13 ?_
    refine V_iload_n hX dX9_restore_16 1 rfl ?_
    refine V_zaldN (x := nI (κ j_)) hX rfl (by first | omega | (have := hκ j_ (by omega); omega)) (by decide) (hRM.2.2 j_ (by omega)).1 dX9_restore_17 ?_
    refine V_if_neN (tgt := 24) hX dX9_restore_18 (by decide) (by first | omega | (have := hκ j_ (by omega); omega)) (fun c18 => ?_) (fun c18 => ?_)
    · refine V_bipush (v := nI 70) hX dX9_restore_24 (by decide) ?_
      refine V_iload_n hX dX9_restore_26 1 rfl ?_
      refine V_imulN hX dX9_restore_27 ?_
      refine V_istore_n (ls' := [(0, .ref 69), (1, .int (nI j_)), (2, .int (nI (70 * j_)))]) hX dX9_restore_28 (by decide) rfl ?_
      refine V_iconst (v := nI 0) hX dX9_restore_29 (by decide) ?_
      refine V_istore_n (ls' := [(0, .ref 69), (1, .int (nI j_)), (2, .int (nI (70 * j_))), (3, .int (nI 0))]) hX dX9_restore_30 (by decide) rfl ?_
      have hκ1 : κ j_ = 1 := by have := hκ j_ (by omega); omega
      have hI := (hRM.2.2 j_ (by omega)).2 hκ1
      refine lpM_rst1 hX hj7 hI (fun μa hra => ?_) 9 0 μ (by decide) (by decide) ⟨fun _ _ => rfl, fun _ _ g hg => absurd hg (by omega), fun _ hi => absurd hi (by omega)⟩
      refine V_iconst (v := nI 0) hX dX9_restore_108 (by decide) ?_
      refine V_istore_n (ls' := [(0, .ref 69), (1, .int (nI j_)), (2, .int (nI (70 * j_))), (3, .int (nI 0))]) hX dX9_restore_109 (by decide) rfl ?_
      refine lpM_rst2 hX hj7 hI (fun μ1 hr => ?_) 17 0 μa (by decide) (by decide) hra
      refine V_aload_n hX dX9_restore_139 0 rfl ?_
      refine V_aload_n hX dX9_restore_140 0 rfl ?_
      refine V_getr (j := 85) hX fX9_65 rfl rfl dX9_restore_141 ?_
      refine V_iload_n hX dX9_restore_144 2 rfl ?_
      refine V_bipush (v := nI 50) hX dX9_restore_145 (by decide) ?_
      refine V_iaddN hX dX9_restore_147 ?_
      refine V_ialdN (x := nI (I j_ 0 0)) hX rfl (by omega) (by decide) ((congrFun (hr.1 85 (by omega)) _).trans (hI.1 0 (by decide))) dX9_restore_148 ?_
      refine V_puti hX fX9_7 fw_8_0 rfl dX9_restore_149 ?_
      show V G 4 X 152 [(0, .ref 69), (1, .int (nI j_)), (2, .int (nI (70 * j_))), (3, .int (nI 16))] [] (vup μ1.1 69 0 (nI (I j_ 0 0)), μ1.2)
      refine V_aload_n hX dX9_restore_152 0 rfl ?_
      refine V_aload_n hX dX9_restore_153 0 rfl ?_
      refine V_getr (j := 85) hX fX9_65 rfl rfl dX9_restore_154 ?_
      refine V_iload_n hX dX9_restore_157 2 rfl ?_
      refine V_bipush (v := nI 51) hX dX9_restore_158 (by decide) ?_
      refine V_iaddN hX dX9_restore_160 ?_
      refine V_ialdN (x := nI (I j_ 0 4)) hX rfl (by omega) (by decide) ((congrFun (hr.1 85 (by omega)) _).trans (hI.1 4 (by decide))) dX9_restore_161 ?_
      refine V_puti hX fX9_72 fw_8_1 rfl dX9_restore_162 ?_
      show V G 4 X 165 [(0, .ref 69), (1, .int (nI j_)), (2, .int (nI (70 * j_))), (3, .int (nI 16))] [] (vup (vup μ1.1 69 0 (nI (I j_ 0 0))) 69 1 (nI (I j_ 0 4)), μ1.2)
      refine V_aload_n hX dX9_restore_165 0 rfl ?_
      refine V_aload_n hX dX9_restore_166 0 rfl ?_
      refine V_getr (j := 85) hX fX9_65 rfl rfl dX9_restore_167 ?_
      refine V_iload_n hX dX9_restore_170 2 rfl ?_
      refine V_bipush (v := nI 52) hX dX9_restore_171 (by decide) ?_
      refine V_iaddN hX dX9_restore_173 ?_
      refine V_ialdN (x := nI (I j_ 0 5)) hX rfl (by omega) (by decide) ((congrFun (hr.1 85 (by omega)) _).trans (hI.1 5 (by decide))) dX9_restore_174 ?_
      refine V_puti hX fX9_83 fw_8_6 rfl dX9_restore_175 ?_
      show V G 4 X 178 [(0, .ref 69), (1, .int (nI j_)), (2, .int (nI (70 * j_))), (3, .int (nI 16))] [] (vup (vup (vup μ1.1 69 0 (nI (I j_ 0 0))) 69 1 (nI (I j_ 0 4))) 69 6 (nI (I j_ 0 5)), μ1.2)
      refine V_aload_n hX dX9_restore_178 0 rfl ?_
      refine V_aload_n hX dX9_restore_179 0 rfl ?_
      refine V_getr (j := 85) hX fX9_65 rfl rfl dX9_restore_180 ?_
      refine V_iload_n hX dX9_restore_183 2 rfl ?_
      refine V_bipush (v := nI 53) hX dX9_restore_184 (by decide) ?_
      refine V_iaddN hX dX9_restore_186 ?_
      refine V_ialdN (x := nI (I j_ 0 1)) hX rfl (by omega) (by decide) ((congrFun (hr.1 85 (by omega)) _).trans (hI.1 1 (by decide))) dX9_restore_187 ?_
      refine V_puti hX fX9_26 fw_8_7 rfl dX9_restore_188 ?_
      show V G 4 X 191 [(0, .ref 69), (1, .int (nI j_)), (2, .int (nI (70 * j_))), (3, .int (nI 16))] [] (vup (vup (vup (vup μ1.1 69 0 (nI (I j_ 0 0))) 69 1 (nI (I j_ 0 4))) 69 6 (nI (I j_ 0 5))) 69 7 (nI (I j_ 0 1)), μ1.2)
      refine V_aload_n hX dX9_restore_191 0 rfl ?_
      refine V_aload_n hX dX9_restore_192 0 rfl ?_
      refine V_getr (j := 85) hX fX9_65 rfl rfl dX9_restore_193 ?_
      refine V_iload_n hX dX9_restore_196 2 rfl ?_
      refine V_bipush (v := nI 54) hX dX9_restore_197 (by decide) ?_
      refine V_iaddN hX dX9_restore_199 ?_
      refine V_ialdN (x := nI (I j_ 0 2)) hX rfl (by omega) (by decide) ((congrFun (hr.1 85 (by omega)) _).trans (hI.1 2 (by decide))) dX9_restore_200 ?_
      refine V_puti hX fX9_29 fw_8_8 rfl dX9_restore_201 ?_
      show V G 4 X 204 [(0, .ref 69), (1, .int (nI j_)), (2, .int (nI (70 * j_))), (3, .int (nI 16))] [] (vup (vup (vup (vup (vup μ1.1 69 0 (nI (I j_ 0 0))) 69 1 (nI (I j_ 0 4))) 69 6 (nI (I j_ 0 5))) 69 7 (nI (I j_ 0 1))) 69 8 (nI (I j_ 0 2)), μ1.2)
      refine V_aload_n hX dX9_restore_204 0 rfl ?_
      refine V_aload_n hX dX9_restore_205 0 rfl ?_
      refine V_getr (j := 85) hX fX9_65 rfl rfl dX9_restore_206 ?_
      refine V_iload_n hX dX9_restore_209 2 rfl ?_
      refine V_bipush (v := nI 55) hX dX9_restore_210 (by decide) ?_
      refine V_iaddN hX dX9_restore_212 ?_
      refine V_ialdN (x := nI (I j_ 0 3)) hX rfl (by omega) (by decide) ((congrFun (hr.1 85 (by omega)) _).trans (hI.1 3 (by decide))) dX9_restore_213 ?_
      refine V_puti hX fX9_89 fw_8_9 rfl dX9_restore_214 ?_
      show V G 4 X 217 [(0, .ref 69), (1, .int (nI j_)), (2, .int (nI (70 * j_))), (3, .int (nI 16))] [] (vup (vup (vup (vup (vup (vup μ1.1 69 0 (nI (I j_ 0 0))) 69 1 (nI (I j_ 0 4))) 69 6 (nI (I j_ 0 5))) 69 7 (nI (I j_ 0 1))) 69 8 (nI (I j_ 0 2))) 69 9 (nI (I j_ 0 3)), μ1.2)
      refine V_aload_n hX dX9_restore_217 0 rfl ?_
      refine V_aload_n hX dX9_restore_218 0 rfl ?_
      refine V_getr (j := 85) hX fX9_65 rfl rfl dX9_restore_219 ?_
      refine V_iload_n hX dX9_restore_222 2 rfl ?_
      refine V_bipush (v := nI 56) hX dX9_restore_223 (by decide) ?_
      refine V_iaddN hX dX9_restore_225 ?_
      refine V_ialdN (x := nI (I j_ 0 6)) hX rfl (by omega) (by decide) ((congrFun (hr.1 85 (by omega)) _).trans (hI.1 6 (by decide))) dX9_restore_226 ?_
      refine V_puti hX fX9_86 fw_8_10 rfl dX9_restore_227 ?_
      show V G 4 X 230 [(0, .ref 69), (1, .int (nI j_)), (2, .int (nI (70 * j_))), (3, .int (nI 16))] [] (vup (vup (vup (vup (vup (vup (vup μ1.1 69 0 (nI (I j_ 0 0))) 69 1 (nI (I j_ 0 4))) 69 6 (nI (I j_ 0 5))) 69 7 (nI (I j_ 0 1))) 69 8 (nI (I j_ 0 2))) 69 9 (nI (I j_ 0 3))) 69 10 (nI (I j_ 0 6)), μ1.2)
      refine V_iconst (v := nI 1) hX dX9_restore_230 (by decide) ?_
      refine V_iret hX rfl dX9_restore_231 ?_
      have h9 := hQ (vup (vup (vup (vup (vup (vup (vup μ1.1 69 0 (nI ((I j_) 0 0))) 69 1 (nI ((I j_) 0 4))) 69 6 (nI ((I j_) 0 5))) 69 7 (nI ((I j_) 0 1))) 69 8 (nI ((I j_) 0 2))) 69 9 (nI ((I j_) 0 3))) 69 10 (nI ((I j_) 0 6)), μ1.2)
      rw [show restoreS P κ I (nI j_) = _ from (if_pos c6).trans (if_neg (by rw [nI_clamp (by omega)]; exact c18))] at h9
      rw [nI_clamp (by omega)] at h9
      exact hR _ _ (h9 (hRM.restore hI hr) (fun a ha => by dsimp only; rw [vup_row _ _ _ (by omega), vup_row _ _ _ (by omega), vup_row _ _ _ (by omega), vup_row _ _ _ (by omega), vup_row _ _ _ (by omega), vup_row _ _ _ (by omega), vup_row _ _ _ (by omega), hr.1 a (by omega)]))
    · refine V_bipush (v := (-3)) hX dX9_restore_21 (by decide) ?_
      refine V_iret hX rfl dX9_restore_23 ?_
      have h9 := hQ μ
      rw [show restoreS P κ I (nI j_) = (-3, P) from (if_pos c6).trans (if_pos (by rw [nI_clamp (by omega)]; exact c18))] at h9
      exact hR _ _ (h9 hRM (keepC.rf μ))
  · refine V_bipush (v := (-2)) hX dX9_restore_9 (by decide) ?_
    refine V_iret hX rfl dX9_restore_11 ?_
    have h9 := hQ μ
    rw [show restoreS P κ I n_ = (-2, P) from if_neg c6] at h9
    exact hR _ _ (h9 hRM (keepC.rf μ))
