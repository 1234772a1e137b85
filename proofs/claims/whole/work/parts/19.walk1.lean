theorem sno_mask {P : PC} {f : Nat → Bool} (h12 : ∀ h, h < 8 → P 1 h < 12) : sm (P 1) f 8 &&& rgtM (sm (P 1) f 8) &&& lftM (sm (P 1) f 8) = sm (P 1) (snoF P f) 8 := by
  apply Nat.eq_of_testBit_eq
  intro i
  rw [Nat.testBit_and, Nat.testBit_and, Bool.eq_iff_iff, Bool.and_eq_true, Bool.and_eq_true, sm_iff, sm_iff]
  constructor
  · rintro ⟨⟨⟨h, h1, h2, h3⟩, h4⟩, h5⟩
    subst h3
    rw [rgtM_bit (h12 h h1)] at h4
    rw [lftM_bit (h12 h h1)] at h5
    simp only [Bool.and_eq_true, decide_eq_true_eq, sm_iff] at h4 h5
    obtain ⟨⟨q1, g, g1, g2, g3⟩, q2⟩ := h4
    obtain ⟨⟨k, k1, k2, k3⟩, q3⟩ := h5
    refine ⟨h, h1, ?_, rfl⟩
    unfold snoF lftB rgtB
    rw [Bool.and_eq_true, Bool.and_eq_true, anyB_iff, anyB_iff]
    exact ⟨⟨h2, g, g1, by simp only [g2, q2, Bool.and_true, Bool.true_and, decide_eq_true_eq]; omega⟩, k, k1, by simp only [k2, q3, Bool.and_true, Bool.true_and, decide_eq_true_eq]; omega⟩
  · rintro ⟨h, h1, h2, h3⟩
    subst h3
    unfold snoF lftB rgtB at h2
    rw [Bool.and_eq_true, Bool.and_eq_true, anyB_iff, anyB_iff] at h2
    obtain ⟨⟨h2, g, g1, g2⟩, k, k1, k2⟩ := h2
    simp only [Bool.and_eq_true, decide_eq_true_eq] at g2 k2
    refine ⟨⟨⟨h, h1, h2, rfl⟩, ?_⟩, ?_⟩
    · rw [rgtM_bit (h12 h h1)]
      simp only [Bool.and_eq_true, decide_eq_true_eq, sm_iff]
      exact ⟨⟨by omega, g, g1, g2.1.1, by omega⟩, g2.2⟩
    · rw [lftM_bit (h12 h h1)]
      simp only [Bool.and_eq_true, sm_iff]
      exact ⟨⟨k, k1, k2.1.1, by omega⟩, k2.2⟩
theorem elb_mask {P : PC} {f : Nat → Bool} (h12 : ∀ h, h < 8 → P 1 h < 12) : sm (P 1) f 8 &&& (rgtM (sm (P 1) (othF P f) 8) ||| lftM (sm (P 1) (othF P f) 8)) = sm (P 1) (elbF P f) 8 := by
  apply Nat.eq_of_testBit_eq
  intro i
  rw [Nat.testBit_and, Nat.testBit_or, Bool.eq_iff_iff, Bool.and_eq_true, Bool.or_eq_true, sm_iff, sm_iff]
  constructor
  · rintro ⟨⟨h, h1, h2, h3⟩, h4⟩
    subst h3
    rw [rgtM_bit (h12 h h1), lftM_bit (h12 h h1)] at h4
    refine ⟨h, h1, ?_, rfl⟩
    unfold elbF lftB rgtB
    rw [Bool.and_eq_true, Bool.or_eq_true, anyB_iff, anyB_iff]
    refine ⟨h2, ?_⟩
    rcases h4 with h4 | h4
    · simp only [Bool.and_eq_true, decide_eq_true_eq, sm_iff] at h4
      obtain ⟨⟨q1, g, g1, g2, g3⟩, q2⟩ := h4
      exact Or.inl ⟨g, g1, by simp only [g2, q2, Bool.and_true, Bool.true_and, decide_eq_true_eq]; omega⟩
    · simp only [Bool.and_eq_true, sm_iff] at h4
      obtain ⟨⟨k, k1, k2, k3⟩, q3⟩ := h4
      exact Or.inr ⟨k, k1, by simp only [k2, q3, Bool.and_true, Bool.true_and, decide_eq_true_eq]; omega⟩
  · rintro ⟨h, h1, h2, h3⟩
    subst h3
    unfold elbF lftB rgtB at h2
    rw [Bool.and_eq_true, Bool.or_eq_true, anyB_iff, anyB_iff] at h2
    refine ⟨⟨h, h1, h2.1, rfl⟩, ?_⟩
    rw [rgtM_bit (h12 h h1), lftM_bit (h12 h h1)]
    rcases h2.2 with ⟨g, g1, g2⟩ | ⟨k, k1, k2⟩
    · simp only [Bool.and_eq_true, decide_eq_true_eq] at g2
      left
      simp only [Bool.and_eq_true, decide_eq_true_eq, sm_iff]
      exact ⟨⟨by omega, g, g1, g2.1.1, by omega⟩, g2.2⟩
    · simp only [Bool.and_eq_true, decide_eq_true_eq] at k2
      right
      simp only [Bool.and_eq_true, sm_iff]
      exact ⟨⟨k, k1, k2.1.1, by omega⟩, k2.2⟩
/-! whole numbers that may be less than nothing -/
def zI (z : Int) : Int32 := Int32.ofInt z
theorem zI_nat (n : Nat) : nI n = zI (n : Int) := (Int32.ofInt_eq_ofNat (n := n)).symm
theorem zI_add (a b : Int) : zI a + zI b = zI (a + b) := (Int32.ofInt_add a b).symm
theorem zI_sub (a b : Int) : zI a - zI b = zI (a - b) := (Int32.ofInt_sub a b).symm
theorem zI_toInt {z : Int} (h1 : -1000000 ≤ z) (h2 : z ≤ 1000000) : (zI z).toInt = z := Int32.toInt_ofInt_of_le (by omega) (by omega)
theorem zI_lt {a b : Int} (ha : -1000000 ≤ a ∧ a ≤ 1000000) (hb : -1000000 ≤ b ∧ b ≤ 1000000) : zI a < zI b ↔ a < b := by
  rw [Int32.lt_iff_toInt_lt, zI_toInt ha.1 ha.2, zI_toInt hb.1 hb.2]
theorem clamp_I {z : Int} {A : Nat} (hz : -1000 ≤ z ∧ z ≤ 1000) (hA : A ≤ 1000) : (if nI A < (if zI z < nI 0 then nI 0 else zI z) then nI A else (if zI z < nI 0 then nI 0 else zI z)) = nI (clampN z A) := by
  unfold clampN
  have e0 : zI z < nI 0 ↔ z < 0 := by
    rw [zI_nat 0]
    exact zI_lt (by omega) (by decide)
  by_cases h : z < 0
  · rw [if_pos h, if_pos (e0.mpr h)]
    rw [if_neg (nI_nlt (Nat.zero_le A) (by omega))]
  · rw [if_neg h, if_neg (fun q => h (e0.mp q))]
    have e1 : nI A < zI z ↔ (A : Int) < z := by
      rw [zI_nat A]
      exact zI_lt (by omega) (by omega)
    by_cases h2 : (A : Int) < z
    · rw [if_pos h2, if_pos (e1.mpr h2)]
    · rw [if_neg h2, if_neg (fun q => h2 (e1.mp q)), zI_nat, show ((z.toNat : Nat) : Int) = z by omega]
theorem max0_I {a b c : Nat} (ha : a ≤ 1000) (hb : b ≤ 1000) (hc : c ≤ 1000) : (if (nI a - nI b) - nI c < nI 0 then nI 0 else (nI a - nI b) - nI c) = nI (a - b - c) := by
  have e : (nI a - nI b) - nI c = zI ((a : Int) - b - c) := by rw [zI_nat a, zI_nat b, zI_nat c, zI_sub, zI_sub]
  have e0 : zI ((a : Int) - b - c) < nI 0 ↔ (a : Int) - b - c < 0 := by
    rw [zI_nat 0]
    exact zI_lt (by omega) (by decide)
  rw [e]
  by_cases h : (a : Int) - b - c < 0
  · rw [if_pos (e0.mpr h), show a - b - c = 0 by omega]
  · rw [if_neg (fun q => h (e0.mp q)), zI_nat, show (((a - b - c : Nat)) : Int) = (a : Int) - b - c by omega]
theorem clampN_le (z : Int) (A : Nat) : clampN z A ≤ A := by
  unfold clampN
  split
  · omega
  · split <;> omega
set_option maxRecDepth 100000 in
set_option maxHeartbeats 4000000 in
theorem k_forAll {G : VG} {d : Nat} {μ : VS} {Q : Option Value → VS → Prop} {n_ : Nat} (hn : n_ < 1000) (hQ : Q (some (.int (zI (faZ n_)))) μ) : Call G d yX6_forAll cX6_forAll 1 (some .int) [.int (nI n_)] μ Q := by
  intro X hX hR
  show V G 1 X 0 [(0, .int (nI n_))] [] μ
  refine V_iload_n hX dX6_forAll_0 0 rfl ?_
  by_cases e104 : n_ = 104
  · subst e104
    refine V_lookup (x := nI 104) (off := 46) (tgt := 47) hX dX6_forAll_1 (by decide) (by decide) (by decide) ?_
    refine V_iconst (v := nI 3) hX dX6_forAll_47 (by decide) ?_
    refine V_iret hX rfl dX6_forAll_48 ?_
    exact hR _ _ hQ
  · skip
    by_cases e111 : n_ = 111
    · subst e111
      refine V_lookup (x := nI 111) (off := 48) (tgt := 49) hX dX6_forAll_1 (by decide) (by decide) (by decide) ?_
      refine V_iconst (v := nI 1) hX dX6_forAll_49 (by decide) ?_
      refine V_iret hX rfl dX6_forAll_50 ?_
      exact hR _ _ hQ
    · skip
      by_cases e119 : n_ = 119
      · subst e119
        refine V_lookup (x := nI 119) (off := 43) (tgt := 44) hX dX6_forAll_1 (by decide) (by decide) (by decide) ?_
        refine V_bipush (v := (-2)) hX dX6_forAll_44 (by decide) ?_
        refine V_iret hX rfl dX6_forAll_46 ?_
        exact hR _ _ hQ
      · skip
        by_cases e126 : n_ = 126
        · subst e126
          refine V_lookup (x := nI 126) (off := 50) (tgt := 51) hX dX6_forAll_1 (by decide) (by decide) (by decide) ?_
          refine V_iconst (v := nI 2) hX dX6_forAll_51 (by decide) ?_
          refine V_iret hX rfl dX6_forAll_52 ?_
          exact hR _ _ hQ
        · skip
          refine V_lookup (off := 52) (tgt := 53) hX dX6_forAll_1 (by decide) ((lv_osw (k := nI 104) (fun z => e104 ((nI_eq (by omega) (by decide)).mp z)) rfl).trans ((lv_osw (k := nI 111) (fun z => e111 ((nI_eq (by omega) (by decide)).mp z)) rfl).trans ((lv_osw (k := nI 119) (fun z => e119 ((nI_eq (by omega) (by decide)).mp z)) rfl).trans ((lv_osw (k := nI 126) (fun z => e126 ((nI_eq (by omega) (by decide)).mp z)) rfl).trans rfl)))) (by decide) ?_
          refine V_iconst (v := nI 0) hX dX6_forAll_53 (by decide) ?_
          refine V_iret hX rfl dX6_forAll_54 ?_
          exact hR _ _ (by rw [show faZ n_ = 0 from by unfold faZ; rw [if_neg e119, if_neg e104, if_neg e111, if_neg e126]] at hQ; exact hQ)
set_option maxRecDepth 100000 in
set_option maxHeartbeats 4000000 in
theorem k_rightOf {G : VG} {d : Nat} {μ : VS} {Q : Option Value → VS → Prop} {a_ : Nat} (ha : a_ < 4096) (hQ : Q (some (.int (nI (rgtM a_)))) μ) : Call G d yX6_rightOf cX6_rightOf 1 (some .int) [.int (nI a_)] μ Q := by
  intro X hX hR
  show V G 1 X 0 [(0, .int (nI a_))] [] μ
  refine V_iload_n hX dX6_rightOf_0 0 rfl ?_
  refine V_iconst (v := nI 1) hX dX6_rightOf_1 (by decide) ?_
  refine V_ishlN hX dX6_rightOf_2 (by omega) (by omega) ?_
  refine V_sipush (v := nI 4294967022) hX dX6_rightOf_3 (by decide) ?_
  refine V_iandN hX dX6_rightOf_6 ?_
  refine V_iret hX rfl dX6_rightOf_7 ?_
  exact hR _ _ hQ
set_option maxRecDepth 100000 in
set_option maxHeartbeats 4000000 in
theorem k_leftOf {G : VG} {d : Nat} {μ : VS} {Q : Option Value → VS → Prop} {a_ : Nat} (ha : a_ < 4096) (hQ : Q (some (.int (nI (lftM a_)))) μ) : Call G d yX6_leftOf cX6_leftOf 1 (some .int) [.int (nI a_)] μ Q := by
  intro X hX hR
  show V G 1 X 0 [(0, .int (nI a_))] [] μ
  refine V_iload_n hX dX6_leftOf_0 0 rfl ?_
  refine V_iconst (v := nI 1) hX dX6_leftOf_1 (by decide) ?_
  refine V_ishrN hX dX6_leftOf_2 (by omega) (by omega) ?_
  refine V_sipush (v := nI 4294965111) hX dX6_leftOf_3 (by decide) ?_
  refine V_iandN hX dX6_leftOf_6 ?_
  refine V_iret hX rfl dX6_leftOf_7 ?_
  exact hR _ _ hQ
