theorem ret1 {μ : VS} {Q : Option Value → VS → Prop} {p : Prop} [Decidable p] (h : p) (hQ : Q (some (.int (bI p))) μ) : Q (some (.int (nI 1))) μ := by rw [bI_t h] at hQ; exact hQ
theorem ret0 {μ : VS} {Q : Option Value → VS → Prop} {p : Prop} [Decidable p] (h : ¬ p) (hQ : Q (some (.int (bI p))) μ) : Q (some (.int (nI 0))) μ := by rw [bI_f h] at hQ; exact hQ
set_option maxRecDepth 100000 in
set_option maxHeartbeats 4000000 in
theorem k_in {G : VG} {d : Nat} {μ : VS} {Q : Option Value → VS → Prop} {v lo hi : Int32} (hQ : Q (some (.int (bI (lo ≤ v ∧ v ≤ hi)))) μ) : Call G d yX9_in cX9_in 3 (some .boolean) [.int v, .int lo, .int hi] μ Q := by
  intro X hX hR
  show V G 3 X 0 [(0, .int v), (1, .int lo), (2, .int hi)] [] μ
  refine V_iload_n hX dX9_in_0 0 rfl ?_
  refine V_iload_n hX dX9_in_1 1 rfl ?_
  refine V_icmp_lt (tgt := 14) hX dX9_in_2 (by decide) (fun c2 => ?_) (fun c2 => ?_)
  · refine V_iconst (v := nI 0) hX dX9_in_14 (by decide) ?_
    refine V_zret hX rfl rfl dX9_in_15 ?_
    first | exact hR _ _ (ret1 ⟨Int32.not_lt.mp c2, Int32.not_lt.mp c7⟩ hQ) | exact hR _ _ (ret0 (fun h => absurd h.1 (Int32.not_le.mpr c2)) hQ) | exact hR _ _ (ret0 (fun h => absurd h.2 (Int32.not_le.mpr c7)) hQ)
  · refine V_iload_n hX dX9_in_5 0 rfl ?_
    refine V_iload_n hX dX9_in_6 2 rfl ?_
    refine V_icmp_gt (tgt := 14) hX dX9_in_7 (by decide) (fun c7 => ?_) (fun c7 => ?_)
    · refine V_iconst (v := nI 0) hX dX9_in_14 (by decide) ?_
      refine V_zret hX rfl rfl dX9_in_15 ?_
      first | exact hR _ _ (ret1 ⟨Int32.not_lt.mp c2, Int32.not_lt.mp c7⟩ hQ) | exact hR _ _ (ret0 (fun h => absurd h.1 (Int32.not_le.mpr c2)) hQ) | exact hR _ _ (ret0 (fun h => absurd h.2 (Int32.not_le.mpr c7)) hQ)
    · refine V_iconst (v := nI 1) hX dX9_in_10 (by decide) ?_
      refine V_goto (tgt := 15) hX dX9_in_11 (by decide) ?_
      refine V_zret hX rfl rfl dX9_in_15 ?_
      first | exact hR _ _ (ret1 ⟨Int32.not_lt.mp c2, Int32.not_lt.mp c7⟩ hQ) | exact hR _ _ (ret0 (fun h => absurd h.1 (Int32.not_le.mpr c2)) hQ) | exact hR _ _ (ret0 (fun h => absurd h.2 (Int32.not_le.mpr c7)) hQ)
set_option maxRecDepth 100000 in
set_option maxHeartbeats 4000000 in
theorem k_isOutside {G : VG} {d : Nat} {μ : VS} {Q : Option Value → VS → Prop} {v lo hi : Int32} (hQ : Q (some (.int (bI (v < lo ∨ hi < v)))) μ) : Call G d yX8_isOutside cX8_isOutside 3 (some .boolean) [.int v, .int lo, .int hi] μ Q := by
  intro X hX hR
  show V G 3 X 0 [(0, .int v), (1, .int lo), (2, .int hi)] [] μ
  refine V_iload_n hX dX8_isOutside_0 0 rfl ?_
  refine V_iload_n hX dX8_isOutside_1 1 rfl ?_
  refine V_icmp_lt (tgt := 10) hX dX8_isOutside_2 (by decide) (fun c2 => ?_) (fun c2 => ?_)
  · refine V_iconst (v := nI 1) hX dX8_isOutside_10 (by decide) ?_
    refine V_goto (tgt := 15) hX dX8_isOutside_11 (by decide) ?_
    refine V_zret hX rfl rfl dX8_isOutside_15 ?_
    first | exact hR _ _ (ret1 (Or.inl c2) hQ) | exact hR _ _ (ret1 (Or.inr (Int32.not_le.mp c7)) hQ) | exact hR _ _ (ret0 (fun h => h.elim c2 (fun z => absurd c7 (Int32.not_le.mpr z))) hQ)
  · refine V_iload_n hX dX8_isOutside_5 0 rfl ?_
    refine V_iload_n hX dX8_isOutside_6 2 rfl ?_
    refine V_icmp_le (tgt := 14) hX dX8_isOutside_7 (by decide) (fun c7 => ?_) (fun c7 => ?_)
    · refine V_iconst (v := nI 0) hX dX8_isOutside_14 (by decide) ?_
      refine V_zret hX rfl rfl dX8_isOutside_15 ?_
      first | exact hR _ _ (ret1 (Or.inl c2) hQ) | exact hR _ _ (ret1 (Or.inr (Int32.not_le.mp c7)) hQ) | exact hR _ _ (ret0 (fun h => h.elim c2 (fun z => absurd c7 (Int32.not_le.mpr z))) hQ)
    · refine V_iconst (v := nI 1) hX dX8_isOutside_10 (by decide) ?_
      refine V_goto (tgt := 15) hX dX8_isOutside_11 (by decide) ?_
      refine V_zret hX rfl rfl dX8_isOutside_15 ?_
      first | exact hR _ _ (ret1 (Or.inl c2) hQ) | exact hR _ _ (ret1 (Or.inr (Int32.not_le.mp c7)) hQ) | exact hR _ _ (ret0 (fun h => h.elim c2 (fun z => absurd c7 (Int32.not_le.mpr z))) hQ)
set_option maxRecDepth 100000 in
set_option maxHeartbeats 4000000 in
theorem k_hasR {G : VG} {d : Nat} {μ : VS} {Q : Option Value → VS → Prop} {s k : Int32} (hQ : Q (some (.int (bI ((s >>> (k &&& 31)) &&& nI 1 = nI 1)))) μ) : Call G d yX9_has cX9_has 2 (some .boolean) [.int s, .int k] μ Q := by
  intro X hX hR
  show V G 2 X 0 [(0, .int s), (1, .int k)] [] μ
  refine V_iload_n hX dX9_has_0 0 rfl ?_
  refine V_iload_n hX dX9_has_1 1 rfl ?_
  refine V_ishr hX dX9_has_2 ?_
  refine V_iconst (v := nI 1) hX dX9_has_3 (by decide) ?_
  refine V_iand hX dX9_has_4 ?_
  refine V_iconst (v := nI 1) hX dX9_has_5 (by decide) ?_
  refine V_icmp_ne (tgt := 13) hX dX9_has_6 (by decide) (fun c6 => ?_) (fun c6 => ?_)
  · refine V_iconst (v := nI 0) hX dX9_has_13 (by decide) ?_
    refine V_zret hX rfl rfl dX9_has_14 ?_
    exact hR _ _ (ret0 c6 hQ)
  · refine V_iconst (v := nI 1) hX dX9_has_9 (by decide) ?_
    refine V_goto (tgt := 14) hX dX9_has_10 (by decide) ?_
    refine V_zret hX rfl rfl dX9_has_14 ?_
    exact hR _ _ (ret1 c6 hQ)
theorem shr_test (n j : Nat) : (n >>> j &&& 1 = 1) ↔ n.testBit j = true := by
  rw [Nat.testBit_eq_decide_div_mod_eq, decide_eq_true_iff, Nat.and_one_is_mod, Nat.shiftRight_eq_div_pow]
theorem bI_iff {p q : Prop} [Decidable p] [Decidable q] (h : p ↔ q) : bI p = bI q := by
  unfold bI
  by_cases hp : p
  · rw [if_pos hp, if_pos (h.mp hp)]
  · rw [if_neg hp, if_neg (fun z => hp (h.mpr z))]
theorem has_nat {n j : Nat} (hn : n < 2 ^ 31) (hj : j < 32) : ((nI n >>> (nI j &&& 31)) &&& nI 1 = nI 1) ↔ n.testBit j = true := by
  rw [nI_shrI hj hn, nI_andI, nI_eq (by have := Nat.and_le_right (n := n >>> j) (m := 1); omega) (by decide), shr_test]
theorem k_has {G : VG} {d : Nat} {μ : VS} {Q : Option Value → VS → Prop} {n j : Nat} (hn : n < 2 ^ 31) (hj : j < 32) (hQ : Q (some (.int (bI (n.testBit j = true)))) μ) : Call G d yX9_has cX9_has 2 (some .boolean) [.int (nI n), .int (nI j)] μ Q := k_hasR (by rw [bI_iff (has_nat hn hj)]; exact hQ)
/-- how many of the first k bits of n are set -/
def popN (n : Nat) : Nat → Nat
  | 0 => 0
  | k + 1 => popN n k + (n >>> k &&& 1)
theorem popN_le (n k : Nat) : popN n k ≤ k := by
  induction k with
  | zero => exact Nat.le_refl _
  | succ k ih =>
    have := Nat.and_le_right (n := n >>> k) (m := 1)
    show popN n k + (n >>> k &&& 1) ≤ k + 1
    omega
set_option maxRecDepth 100000 in
set_option maxHeartbeats 4000000 in
theorem lp_bits {G : VG} {d : Nat} {μ : VS} {X : VX} {n : Nat} (hn : n < 256) (hX : Cx G d yX9_bits cX9_bits 3 (some .int) X) (hE : V G 3 X 24 [(0, .int (nI n)), (1, .int (nI (popN n 8)))] [] μ) : ∀ (j k : Nat), k ≤ 8 → 9 ≤ k + j → V G 3 X 4 [(0, .int (nI n)), (1, .int (nI (popN n k))), (2, .int (nI k))] [] μ := by
  intro j
  induction j with
  | zero =>
    intro k h1 h2
    exact absurd h2 (by omega)
  | succ j ih =>
    intro k h1 h2
    refine V_iload_n hX dX9_bits_4 2 rfl ?_
    refine V_bipush (v := nI 8) hX dX9_bits_5 (by decide) ?_
    refine V_icmp_geN (tgt := 24) hX dX9_bits_7 (by decide) (by omega) (by omega) (fun c7 => ?_) (fun c7 => ?_)
    · obtain rfl : k = 8 := by omega
      exact V_sub [0, 1] rfl hE
    · refine V_iload_n hX dX9_bits_10 1 rfl ?_
      refine V_iload_n hX dX9_bits_11 0 rfl ?_
      refine V_iload_n hX dX9_bits_12 2 rfl ?_
      refine V_ishrN hX dX9_bits_13 (by omega) (by omega) ?_
      refine V_iconst (v := nI 1) hX dX9_bits_14 (by decide) ?_
      refine V_iandN hX dX9_bits_15 ?_
      refine V_iaddN hX dX9_bits_16 ?_
      refine V_istore_n (ls' := [(0, .int (nI n)), (1, .int (nI ((popN n k) + ((n >>> k) &&& 1)))), (2, .int (nI k))]) hX dX9_bits_17 (by decide) rfl ?_
      refine V_iincN (n := 1) (ls' := [(0, .int (nI n)), (1, .int (nI ((popN n k) + ((n >>> k) &&& 1)))), (2, .int (nI (k + 1)))]) hX dX9_bits_18 2 rfl (by decide) rfl ?_
      refine V_goto (tgt := 4) hX dX9_bits_21 (by decide) ?_
      exact ih (k + 1) (by omega) (by omega)
set_option maxRecDepth 100000 in
set_option maxHeartbeats 4000000 in
theorem k_bits {G : VG} {d : Nat} {μ : VS} {Q : Option Value → VS → Prop} {n : Nat} (hn : n < 256) (hQ : Q (some (.int (nI (popN n 8)))) μ) : Call G d yX9_bits cX9_bits 3 (some .int) [.int (nI n)] μ Q := by
  intro X hX hR
  show V G 3 X 0 [(0, .int (nI n))] [] μ
  refine V_iconst (v := nI 0) hX dX9_bits_0 (by decide) ?_
  refine V_istore_n (ls' := [(0, .int (nI n)), (1, .int (nI 0))]) hX dX9_bits_1 (by decide) rfl ?_
  refine V_iconst (v := nI 0) hX dX9_bits_2 (by decide) ?_
  refine V_istore_n (ls' := [(0, .int (nI n)), (1, .int (nI 0)), (2, .int (nI 0))]) hX dX9_bits_3 (by decide) rfl ?_
  refine lp_bits hn hX ?_ 9 0 (by decide) (by decide)
  refine V_iload_n hX dX9_bits_24 1 rfl ?_
  refine V_iret hX rfl dX9_bits_25 ?_
  exact hR _ _ hQ
