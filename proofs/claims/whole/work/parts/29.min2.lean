def bsK (B : Nat → Bool) : Nat → Int32
  | 0 => -6
  | k + 1 => if B k = true then nI k else bsK B k
theorem bsK_cases (B : Nat → Bool) (k : Nat) : (bsK B k = -6 ∧ ∀ h, h < k → ¬ B h = true) ∨ ∃ h, h < k ∧ B h = true ∧ bsK B k = nI h := by
  induction k with
  | zero => exact Or.inl ⟨rfl, fun h hh => absurd hh (by omega)⟩
  | succ k ih =>
    unfold bsK
    by_cases c : B k = true
    · rw [if_pos c]
      exact Or.inr ⟨k, by omega, c, rfl⟩
    · rw [if_neg c]
      rcases ih with ⟨h, h2⟩ | ⟨h, h1, h2⟩
      · exact Or.inl ⟨h, lt_s h2 c⟩
      · exact Or.inr ⟨h, by omega, h2⟩
def besL (E : PC) (h q : Nat) : Bool := pPres E q && decide (E 1 q + 1 = E 1 h) && !decide (E 1 h % 4 = 0)
def besR (E : PC) (h q : Nat) : Bool := pPres E q && decide (E 1 q = E 1 h + 1) && !decide (E 1 h % 4 = 3)
def bsOK (E : PC) (h : Nat) (z : Int32) (B : Nat → Bool) : Prop := ∀ q, q < 8 → (B q = true ↔ (pPres E q = true ∧ nI (E 1 q) = z ∧ inZ z 0 11 ∧ z / nI 4 = nI (E 1 h / 4)))
set_option maxRecDepth 100000 in
set_option maxHeartbeats 4000000 in
theorem lpM_beside {G : VG} {d : Nat} {X : VX} {μ : VS} {h_ : Nat} {o_ z_ : Int32} {E : PC} {B_ : Nat → Bool} (hX : Cx G (d + 1) yX9_beside cX9_beside 6 (some .int) X) (hE : isE μ E) (h4 : E 0 4 < 256) (h12 : ∀ h, h < 8 → E 1 h < 12) (hh : h_ < 8) (hB : bsOK E h_ z_ B_) (hF : V G 6 X 85 [(0, .ref 69), (1, .int (nI h_)), (2, .int o_), (3, .int z_), (4, .int (bsK B_ 8)), (5, .int (nI 8))] [] μ) : ∀ (j k_ : Nat), k_ ≤ 8 → 9 ≤ k_ + j → V G 6 X 16 [(0, .ref 69), (1, .int (nI h_)), (2, .int o_), (3, .int z_), (4, .int (bsK B_ k_)), (5, .int (nI k_))] [] μ := by
  intro j
  induction j with
  | zero =>
    intro k_ h1 h2
    exact absurd h2 (by omega)
  | succ j ih =>
    intro k_ h1 h2
    refine V_iload hX dX9_beside_16 5 rfl ?_
    refine V_bipush (v := nI 8) hX dX9_beside_18 (by decide) ?_
    refine V_icmp_geN (tgt := 85) hX dX9_beside_20 (by decide) (by first | omega | (have := h12 h_ hh; omega) | (have := h12 k_ (by omega); omega)) (by first | omega | (have := h12 h_ hh; omega) | (have := h12 k_ (by omega); omega)) (fun c20 => ?_) (fun c20 => ?_)
    · obtain rfl : k_ = 8 := by omega
      exact hF
    · refine V_aload_n hX dX9_beside_23 0 rfl ?_
      refine V_getN (x := nI (E 0 4)) hX fX9_72 rfl hE.1.1 dX9_beside_24 ?_
      refine V_iload hX dX9_beside_27 5 rfl ?_
      refine V_callS (As := [.int (nI (E 0 4)), .int (nI k_)]) (st := []) hX mX9_79 (k_has (by first | omega | (have := h12 h_ hh; omega) | (have := h12 k_ (by omega); omega)) (by first | omega | (have := h12 h_ hh; omega) | (have := h12 k_ (by omega); omega)) ?_) rfl (Nat.le_of_ble_eq_true rfl) (Nat.le_of_ble_eq_true rfl) dX9_beside_29
      show V G 6 X 32 [(0, .ref 69), (1, .int (nI h_)), (2, .int o_), (3, .int z_), (4, .int (bsK B_ k_)), (5, .int (nI k_))] [.int (bI ((E 0 4).testBit k_ = true))] μ
      refine V_if_eqB (tgt := 75) hX dX9_beside_32 (by decide) (fun c32 => ?_) (fun c32 => ?_)
      · refine V_iload hX dX9_beside_75 4 rfl ?_
        refine V_istore (ls' := [(0, .ref 69), (1, .int (nI h_)), (2, .int o_), (3, .int z_), (4, .int (bsK B_ k_)), (5, .int (nI k_))]) hX dX9_beside_77 (by decide) rfl ?_
        refine V_iincN (n := 1) (ls' := [(0, .ref 69), (1, .int (nI h_)), (2, .int o_), (3, .int z_), (4, .int (bsK B_ k_)), (5, .int (nI (k_ + 1)))]) hX dX9_beside_79 5 rfl (by decide) rfl ?_
        refine V_goto (tgt := 16) hX dX9_beside_82 (by decide) ?_
        have h9 := ih (k_ + 1) (by omega) (by omega)
        rw [show bsK B_ (k_ + 1) = bsK B_ k_ from if_neg (fun z => c32 ((hB k_ (by omega)).mp z).1)] at h9
        exact h9
      · refine V_aload_n hX dX9_beside_35 0 rfl ?_
        refine V_getr (j := 77) hX fX9_41 rfl rfl dX9_beside_36 ?_
        refine V_iload hX dX9_beside_39 5 rfl ?_
        refine V_ialdN (x := nI (E 1 k_)) hX rfl (by first | omega | (have := h12 h_ hh; omega) | (have := h12 k_ (by omega); omega)) (by decide) (hE.2.1 _ (by omega)) dX9_beside_41 ?_
        refine V_iload_n hX dX9_beside_42 3 rfl ?_
        refine V_icmp_ne (tgt := 75) hX dX9_beside_43 (by decide) (fun c43 => ?_) (fun c43 => ?_)
        · refine V_iload hX dX9_beside_75 4 rfl ?_
          refine V_istore (ls' := [(0, .ref 69), (1, .int (nI h_)), (2, .int o_), (3, .int z_), (4, .int (bsK B_ k_)), (5, .int (nI k_))]) hX dX9_beside_77 (by decide) rfl ?_
          refine V_iincN (n := 1) (ls' := [(0, .ref 69), (1, .int (nI h_)), (2, .int o_), (3, .int z_), (4, .int (bsK B_ k_)), (5, .int (nI (k_ + 1)))]) hX dX9_beside_79 5 rfl (by decide) rfl ?_
          refine V_goto (tgt := 16) hX dX9_beside_82 (by decide) ?_
          have h9 := ih (k_ + 1) (by omega) (by omega)
          rw [show bsK B_ (k_ + 1) = bsK B_ k_ from if_neg (fun z => c43 ((hB k_ (by omega)).mp z).2.1)] at h9
          exact h9
        · refine V_iload_n hX dX9_beside_46 3 rfl ?_
          refine V_iconst (v := nI 0) hX dX9_beside_47 (by decide) ?_
          refine V_bipush (v := nI 11) hX dX9_beside_48 (by decide) ?_
          refine V_callS (As := [.int z_, .int (nI 0), .int (nI 11)]) (st := []) hX mX9_75 (k_in ?_) rfl (Nat.le_of_ble_eq_true rfl) (Nat.le_of_ble_eq_true rfl) dX9_beside_50
          show V G 6 X 53 [(0, .ref 69), (1, .int (nI h_)), (2, .int o_), (3, .int z_), (4, .int (bsK B_ k_)), (5, .int (nI k_))] [.int (bI (nI 0 ≤ z_ ∧ z_ ≤ nI 11))] μ
          refine V_if_eqB (tgt := 75) hX dX9_beside_53 (by decide) (fun c53 => ?_) (fun c53 => ?_)
          · refine V_iload hX dX9_beside_75 4 rfl ?_
            refine V_istore (ls' := [(0, .ref 69), (1, .int (nI h_)), (2, .int o_), (3, .int z_), (4, .int (bsK B_ k_)), (5, .int (nI k_))]) hX dX9_beside_77 (by decide) rfl ?_
            refine V_iincN (n := 1) (ls' := [(0, .ref 69), (1, .int (nI h_)), (2, .int o_), (3, .int z_), (4, .int (bsK B_ k_)), (5, .int (nI (k_ + 1)))]) hX dX9_beside_79 5 rfl (by decide) rfl ?_
            refine V_goto (tgt := 16) hX dX9_beside_82 (by decide) ?_
            have h9 := ih (k_ + 1) (by omega) (by omega)
            rw [show bsK B_ (k_ + 1) = bsK B_ k_ from if_neg (fun z => c53 ((hB k_ (by omega)).mp z).2.2.1)] at h9
            exact h9
          · refine V_iload_n hX dX9_beside_56 3 rfl ?_
            refine V_iconst (v := nI 4) hX dX9_beside_57 (by decide) ?_
            refine V_idiv hX dX9_beside_58 (by decide) ?_
            refine V_aload_n hX dX9_beside_59 0 rfl ?_
            refine V_getr (j := 77) hX fX9_41 rfl rfl dX9_beside_60 ?_
            refine V_iload_n hX dX9_beside_63 1 rfl ?_
            refine V_ialdN (x := nI (E 1 h_)) hX rfl (by first | omega | (have := h12 h_ hh; omega) | (have := h12 k_ (by omega); omega)) (by decide) (hE.2.1 _ (by omega)) dX9_beside_64 ?_
            refine V_iconst (v := nI 4) hX dX9_beside_65 (by decide) ?_
            refine V_idivN hX dX9_beside_66 (by decide) (by first | omega | (have := h12 h_ hh; omega) | (have := h12 k_ (by omega); omega)) (by decide) ?_
            refine V_icmp_ne (tgt := 75) hX dX9_beside_67 (by decide) (fun c67 => ?_) (fun c67 => ?_)
            · refine V_iload hX dX9_beside_75 4 rfl ?_
              refine V_istore (ls' := [(0, .ref 69), (1, .int (nI h_)), (2, .int o_), (3, .int z_), (4, .int (bsK B_ k_)), (5, .int (nI k_))]) hX dX9_beside_77 (by decide) rfl ?_
              refine V_iincN (n := 1) (ls' := [(0, .ref 69), (1, .int (nI h_)), (2, .int o_), (3, .int z_), (4, .int (bsK B_ k_)), (5, .int (nI (k_ + 1)))]) hX dX9_beside_79 5 rfl (by decide) rfl ?_
              refine V_goto (tgt := 16) hX dX9_beside_82 (by decide) ?_
              have h9 := ih (k_ + 1) (by omega) (by omega)
              rw [show bsK B_ (k_ + 1) = bsK B_ k_ from if_neg (fun z => c67 ((hB k_ (by omega)).mp z).2.2.2)] at h9
              exact h9
            · refine V_iload hX dX9_beside_70 5 rfl ?_
              refine V_goto (tgt := 77) hX dX9_beside_72 (by decide) ?_
              refine V_istore (ls' := [(0, .ref 69), (1, .int (nI h_)), (2, .int o_), (3, .int z_), (4, .int (nI k_)), (5, .int (nI k_))]) hX dX9_beside_77 (by decide) rfl ?_
              refine V_iincN (n := 1) (ls' := [(0, .ref 69), (1, .int (nI h_)), (2, .int o_), (3, .int z_), (4, .int (nI k_)), (5, .int (nI (k_ + 1)))]) hX dX9_beside_79 5 rfl (by decide) rfl ?_
              refine V_goto (tgt := 16) hX dX9_beside_82 (by decide) ?_
              have h9 := ih (k_ + 1) (by omega) (by omega)
              rw [show bsK B_ (k_ + 1) = nI k_ from if_pos ((hB k_ (by omega)).mpr ⟨c32, c43, c53, c67⟩)] at h9
              exact h9
theorem besR_ok {E : PC} {h : Nat} (h12 : ∀ h, h < 8 → E 1 h < 12) (hh : h < 8) : bsOK E h (nI (E 1 h + 1)) (besR E h) := fun q hq => by
  have := h12 h hh
  have := h12 q hq
  unfold besR
  rw [Bool.and_eq_true, Bool.and_eq_true, decide_eq_true_eq, Bool.not_eq_true', decide_eq_false_iff_not, nI_eq (by omega) (by omega), pk_div (by omega) (by decide) (by decide), nI_eq (by omega) (by omega)]
  constructor
  · rintro ⟨⟨h1, h2⟩, h3⟩
    exact ⟨h1, h2, in_of_nat (by decide) (by omega) (by omega), by omega⟩
  · rintro ⟨h1, h2, -, h3⟩
    exact ⟨⟨h1, h2⟩, by omega⟩
theorem besL_ok {E : PC} {h : Nat} (h12 : ∀ h, h < 8 → E 1 h < 12) (hh : h < 8) : bsOK E h (nI (E 1 h) + (-1)) (besL E h) := fun q hq => by
  have := h12 h hh
  have := h12 q hq
  unfold besL
  rw [Bool.and_eq_true, Bool.and_eq_true, decide_eq_true_eq, Bool.not_eq_true', decide_eq_false_iff_not]
  by_cases e : E 1 h = 0
  · rw [e]
    constructor
    · rintro ⟨⟨h1, h2⟩, h3⟩
      omega
    · rintro ⟨h1, h2, h3, -⟩
      exact absurd h3.1 (by decide)
  · obtain ⟨b, hb⟩ : ∃ b, E 1 h = b + 1 := ⟨E 1 h - 1, by omega⟩
    rw [hb, pk_m1, nI_eq (by omega) (by omega), pk_div (by omega) (by decide) (by decide), nI_eq (by omega) (by omega)]
    constructor
    · rintro ⟨⟨h1, h2⟩, h3⟩
      exact ⟨h1, by omega, in_of_nat (by decide) (by omega) (by omega), by omega⟩
    · rintro ⟨h1, h2, -, h3⟩
      exact ⟨⟨h1, by omega⟩, by omega⟩
set_option maxRecDepth 100000 in
set_option maxHeartbeats 4000000 in
theorem kM_besideL {G : VG} {d : Nat} {μ : VS} {Q : Option Value → VS → Prop} {h_ : Nat} {E : PC} (hE : isE μ E) (h4 : E 0 4 < 256) (h12 : ∀ h, h < 8 → E 1 h < 12) (hh : h_ < 8) (hQ : Q (some (.int (bsK (besL E h_) 8))) μ) : Call G (d + 1) yX9_beside cX9_beside 6 (some .int) [.ref 69, .int (nI h_), .int (-1)] μ Q := by
  intro X hX hR
  show V G 6 X 0 [(0, .ref 69), (1, .int (nI h_)), (2, .int (-1))] [] μ
  refine V_aload_n hX dX9_beside_0 0 rfl ?_
  refine V_getr (j := 77) hX fX9_41 rfl rfl dX9_beside_1 ?_
  refine V_iload_n hX dX9_beside_4 1 rfl ?_
  refine V_ialdN (x := nI (E 1 h_)) hX rfl (by omega) (by decide) (hE.2.1 _ (by omega)) dX9_beside_5 ?_
  refine V_iload_n hX dX9_beside_6 2 rfl ?_
  refine V_iadd hX dX9_beside_7 ?_
  refine V_istore_n (ls' := [(0, .ref 69), (1, .int (nI h_)), (2, .int (-1)), (3, .int ((nI (E 1 h_)) + (-1)))]) hX dX9_beside_8 (by decide) rfl ?_
  refine V_bipush (v := (-6)) hX dX9_beside_9 (by decide) ?_
  refine V_istore (ls' := [(0, .ref 69), (1, .int (nI h_)), (2, .int (-1)), (3, .int ((nI (E 1 h_)) + (-1))), (4, .int (-6))]) hX dX9_beside_11 (by decide) rfl ?_
  refine V_iconst (v := nI 0) hX dX9_beside_13 (by decide) ?_
  refine V_istore (ls' := [(0, .ref 69), (1, .int (nI h_)), (2, .int (-1)), (3, .int ((nI (E 1 h_)) + (-1))), (4, .int (-6)), (5, .int (nI 0))]) hX dX9_beside_14 (by decide) rfl ?_
  refine lpM_beside (B_ := besL E h_) hX hE h4 h12 hh (besL_ok h12 hh) ?_ 9 0 (by decide) (by decide)
  refine V_iload hX dX9_beside_85 4 rfl ?_
  refine V_iret hX rfl dX9_beside_87 ?_
  exact hR _ _ hQ
set_option maxRecDepth 100000 in
set_option maxHeartbeats 4000000 in
theorem kM_besideR {G : VG} {d : Nat} {μ : VS} {Q : Option Value → VS → Prop} {h_ : Nat} {E : PC} (hE : isE μ E) (h4 : E 0 4 < 256) (h12 : ∀ h, h < 8 → E 1 h < 12) (hh : h_ < 8) (hQ : Q (some (.int (bsK (besR E h_) 8))) μ) : Call G (d + 1) yX9_beside cX9_beside 6 (some .int) [.ref 69, .int (nI h_), .int (nI 1)] μ Q := by
  intro X hX hR
  show V G 6 X 0 [(0, .ref 69), (1, .int (nI h_)), (2, .int (nI 1))] [] μ
  refine V_aload_n hX dX9_beside_0 0 rfl ?_
  refine V_getr (j := 77) hX fX9_41 rfl rfl dX9_beside_1 ?_
  refine V_iload_n hX dX9_beside_4 1 rfl ?_
  refine V_ialdN (x := nI (E 1 h_)) hX rfl (by omega) (by decide) (hE.2.1 _ (by omega)) dX9_beside_5 ?_
  refine V_iload_n hX dX9_beside_6 2 rfl ?_
  refine V_iaddN hX dX9_beside_7 ?_
  refine V_istore_n (ls' := [(0, .ref 69), (1, .int (nI h_)), (2, .int (nI 1)), (3, .int (nI ((E 1 h_) + 1)))]) hX dX9_beside_8 (by decide) rfl ?_
  refine V_bipush (v := (-6)) hX dX9_beside_9 (by decide) ?_
  refine V_istore (ls' := [(0, .ref 69), (1, .int (nI h_)), (2, .int (nI 1)), (3, .int (nI ((E 1 h_) + 1))), (4, .int (-6))]) hX dX9_beside_11 (by decide) rfl ?_
  refine V_iconst (v := nI 0) hX dX9_beside_13 (by decide) ?_
  refine V_istore (ls' := [(0, .ref 69), (1, .int (nI h_)), (2, .int (nI 1)), (3, .int (nI ((E 1 h_) + 1))), (4, .int (-6)), (5, .int (nI 0))]) hX dX9_beside_14 (by decide) rfl ?_
  refine lpM_beside (B_ := besR E h_) hX hE h4 h12 hh (besR_ok h12 hh) ?_ 9 0 (by decide) (by decide)
  refine V_iload hX dX9_beside_85 4 rfl ?_
  refine V_iret hX rfl dX9_beside_87 ?_
  exact hR _ _ hQ
