theorem pw_apart {p w : Nat} (hp : vk p = (3, 0)) (hw : vk w = (5, 0)) : w + 2 ≤ p ∨ p + 7 ≤ w := by
  have key : ∀ p, p < 87 → vk p = (3, 0) → ∀ w, w < 87 → vk w = (5, 0) → w + 2 ≤ p ∨ p + 7 ≤ w := by decide +kernel
  exact key p (vk_lt hp (by decide)) hp w (vk_lt hw (by decide)) hw
def nmI (nm : Nat) : Int32 := if nm = 99 then -6 else nI nm
theorem nmI_eq {h nm : Nat} (hh : h < 8) (hn : nm < 8 ∨ nm = 99) : nI h = nmI nm ↔ h = nm := by
  unfold nmI
  rcases hn with q | q
  · rw [if_neg (by omega), nI_eq (by omega) (by omega)]
  · rw [if_pos q]
    constructor
    · intro e
      have := nI_pos (n := h) (by omega)
      rw [e] at this
      exact absurd (by decide) this
    · intro e
      omega
theorem nthG_lt (f : Nat → Bool) : ∀ j h n, h + j ≤ 8 → nthG f j h n < 8 ∨ nthG f j h n = 99
  | 0, h, n, _ => Or.inr rfl
  | j + 1, h, n, hj => by
    unfold nthG
    by_cases q : f h = true
    · rw [if_pos q]
      by_cases e : n = 0
      · rw [if_pos e]; exact Or.inl (by omega)
      · rw [if_neg e]; exact nthG_lt f j (h + 1) (n - 1) (by omega)
    · rw [if_neg q]; exact nthG_lt f j (h + 1) n (by omega)
theorem nmdN_lt (P : PC) (sg names : Nat) : nmdN P sg names < 8 ∨ nmdN P sg names = 99 := by
  unfold nmdN
  by_cases q : sg = 110
  · rw [if_pos q]
    by_cases e : popN (P 0 4) 8 = 0
    · rw [if_pos e]; exact Or.inr rfl
    · rw [if_neg e]; exact nthG_lt _ _ _ _ (by decide)
  · rw [if_neg q]; exact Or.inr rfl
theorem faZ_bd (sg : Nat) : -2 ≤ faZ sg ∧ faZ sg ≤ 3 := by
  unfold faZ
  repeat' split <;> omega
theorem dz_bd {P : PC} (hok : okP P) {sg st nm h : Nat} {cold : Bool} (hh : h < 8) : -10 ≤ dzZ P sg st nm cold h ∧ dzZ P sg st nm cold h ≤ 20 := by
  have h1 := faZ_bd sg
  have h2 := (hok.2.2.2.2.2.2.2.1 h hh).2.2.1
  have h3 : stlN P st h ≤ 9 := by unfold stlN; have := hok.2.1.2; omega
  unfold dzZ
  repeat' split <;> omega
def levK (P : PC) (sg st nm : Nat) (cold : Bool) (lev : Nat → Nat) (k h : Nat) : Nat := if h < k then lev1 P sg st nm cold lev h else lev h
set_option maxRecDepth 100000 in
set_option maxHeartbeats 4000000 in
theorem k_startled {G : VG} {d : Nat} {μ : VS} {Q : Option Value → VS → Prop} {w_ p_ h_ st_ : Nat} {P : PC} (hkw : vk w_ = (5, 0)) (hkp : vk p_ = (3, 0)) (hP : isP μ p_ P) (hok : okP P) (hst : μ.1 w_ 2 = nI st_) (hs100 : st_ ≤ 100) (hh : h_ < 8) (hQ : Q (some (.int (nI (stlN P st_ h_)))) μ) : Call G (d + 1) yX6_startled cX6_startled 4 (some .int) [.ref w_, .ref p_, .int (nI h_)] μ Q := by
  intro X hX hR
  have hs12 := (hok.2.2.2.2.2.2.2.1 h_ hh).1
  have hr9 := hok.2.1.2
  show V G 4 X 0 [(0, .ref w_), (1, .ref p_), (2, .int (nI h_))] [] μ
  refine V_aload_n hX dX6_startled_0 1 rfl ?_
  refine V_getr (j := p_ + 1) hX fX6_114 hkp rfl dX6_startled_1 ?_
  refine V_iload_n hX dX6_startled_4 2 rfl ?_
  refine V_ialdN (x := nI (P 1 h_)) hX (vk_par hkp 0 (by decide)) (by omega) (by decide) (hP.2 0 (by decide) _ (by omega)) dX6_startled_5 ?_
  refine V_iconst (v := nI 4) hX dX6_startled_6 (by decide) ?_
  refine V_idivN hX dX6_startled_7 (by decide) (by omega) (by decide) ?_
  refine V_istore_n (ls' := [(0, .ref w_), (1, .ref p_), (2, .int (nI h_)), (3, .int (nI ((P 1 h_) / 4)))]) hX dX6_startled_8 (by decide) rfl ?_
  refine V_aload_n hX dX6_startled_9 1 rfl ?_
  refine V_getN (x := nI (P 0 1)) hX fX6_117 hkp (hP.1 1 (by decide)) dX6_startled_10 ?_
  refine V_iconst (v := nI 2) hX dX6_startled_13 (by decide) ?_
  refine V_iload_n hX dX6_startled_14 3 rfl ?_
  refine V_imulN hX dX6_startled_15 ?_
  refine V_isub hX dX6_startled_16 ?_
  refine V_aload_n hX dX6_startled_17 0 rfl ?_
  refine V_getN (x := nI st_) hX fX6_19 hkw hst dX6_startled_18 ?_
  refine V_isub hX dX6_startled_21 ?_
  refine V_iconst (v := nI 0) hX dX6_startled_22 (by decide) ?_
  refine V_mmax hX mX6_105 mmax1 mmath2 mmax3 (Nat.le_of_ble_eq_true rfl) dX6_startled_23 ?_
  rw [show (if (((nI (P 0 1)) - (nI (2 * ((P 1 h_) / 4)))) - (nI st_)) < (nI 0) then (nI 0) else (((nI (P 0 1)) - (nI (2 * ((P 1 h_) / 4)))) - (nI st_))) = nI (stlN P st_ h_) from max0_I (by omega) (by omega) (by omega)]
  refine V_iret hX rfl dX6_startled_26 ?_
  exact hR _ _ hQ
set_option maxRecDepth 100000 in
set_option maxHeartbeats 4000000 in
theorem k_dipping {G : VG} {d : Nat} {μ : VS} {Q : Option Value → VS → Prop} {w_ a_ b_ : Nat} (hkw : vk w_ = (5, 0)) (h4 : μ.1 w_ 4 = nI a_) (h5 : μ.1 w_ 5 = nI b_) (hQ : Q (some (.int (nI (a_ ||| b_)))) μ) : Call G d yX6_dipping cX6_dipping 1 (some .int) [.ref w_] μ Q := by
  intro X hX hR
  show V G 1 X 0 [(0, .ref w_)] [] μ
  refine V_aload_n hX dX6_dipping_0 0 rfl ?_
  refine V_getN (x := nI a_) hX fX6_25 hkw h4 dX6_dipping_1 ?_
  refine V_aload_n hX dX6_dipping_4 0 rfl ?_
  refine V_getN (x := nI b_) hX fX6_28 hkw h5 dX6_dipping_5 ?_
  refine V_iorN hX dX6_dipping_8 ?_
  refine V_iret hX rfl dX6_dipping_9 ?_
  exact hR _ _ hQ
theorem nthG_no {f : Nat → Bool} {k n : Nat} (hk : k < 8) (h : ¬ f k = true) : nthG f (8 - k) k n = nthG f (8 - (k + 1)) (k + 1) n := by
  rw [show 8 - k = (8 - (k + 1)) + 1 by omega]
  exact if_neg h
theorem nthG_yes {f : Nat → Bool} {k n : Nat} (hk : k < 8) (h : f k = true) (hn : ¬ n = 0) : nthG f (8 - k) k n = nthG f (8 - (k + 1)) (k + 1) (n - 1) := by
  rw [show 8 - k = (8 - (k + 1)) + 1 by omega]
  exact (if_pos h).trans (if_neg hn)
theorem nthG_hit {f : Nat → Bool} {k n : Nat} (hk : k < 8) (h : f k = true) (hn : n = 0) : nthG f (8 - k) k n = k := by
  rw [show 8 - k = (8 - (k + 1)) + 1 by omega]
  exact (if_pos h).trans (if_pos hn)
set_option maxRecDepth 100000 in
set_option maxHeartbeats 4000000 in
theorem lp_named {G : VG} {d : Nat} {μ : VS} {Q : Option Value → VS → Prop} {X : VX} {p_ n_ t_ : Nat} {P : PC} (hX : Cx G (d + 1) yX4_named cX4_named 5 (some .int) X) (hR : ∀ r μ', Q r μ' → Ret G X r μ') (hkp : vk p_ = (3, 0)) (hP : isP μ p_ P) (h4 : P 0 4 < 256) : ∀ (j k_ m_ : Nat), k_ ≤ 8 → 9 ≤ k_ + j → m_ < 1000 → Q (some (.int (nmI (nthG (pPres P) (8 - k_) k_ m_)))) μ → V G 5 X 22 [(0, .ref p_), (1, .int (nI n_)), (2, .int (nI t_)), (3, .int (nI m_)), (4, .int (nI k_))] [] μ := by
  intro j
  induction j with
  | zero =>
    intro k_ m_ h1 h2
    exact absurd h2 (by omega)
  | succ j ih =>
    intro k_ m_ h1 h2 hm hQ2
    by_cases hj8 : k_ < 8
    rotate_left
    · obtain rfl : k_ = 8 := by omega
      refine V_iload hX dX4_named_22 4 rfl ?_
      refine V_bipush (v := nI 8) hX dX4_named_24 (by decide) ?_
      refine V_icmp_geN (tgt := 54) hX dX4_named_26 (by decide) (by omega) (by omega) (fun c26 => ?_) (fun c26 => ?_)
      · refine V_bipush (v := (-6)) hX dX4_named_54 (by decide) ?_
        refine V_iret hX rfl dX4_named_56 ?_
        exact hR _ _ hQ2
      · exact absurd c26 (by decide)
    refine V_iload hX dX4_named_22 4 rfl ?_
    refine V_bipush (v := nI 8) hX dX4_named_24 (by decide) ?_
    refine V_icmp_geN (tgt := 54) hX dX4_named_26 (by decide) (by omega) (by omega) (fun c26 => ?_) (fun c26 => ?_)
    · exact absurd c26 (by omega)
    · refine V_aload_n hX dX4_named_29 0 rfl ?_
      refine V_iload hX dX4_named_30 4 rfl ?_
      refine V_callV (As := [.int (nI k_)]) (st := []) hX mX4_64 hkp (kC_isThere hkp hP (by omega) ?_) rfl (Nat.le_of_ble_eq_true rfl) (Nat.le_of_ble_eq_true rfl) dX4_named_32
      show V G 5 X 35 [(0, .ref p_), (1, .int (nI n_)), (2, .int (nI t_)), (3, .int (nI m_)), (4, .int (nI k_))] [.int (bI (thr P (nI k_)))] μ
      refine V_if_eqB (tgt := 48) hX dX4_named_35 (by decide) (fun c35 => ?_) (fun c35 => ?_)
      · refine V_iincN (n := 1) (ls' := [(0, .ref p_), (1, .int (nI n_)), (2, .int (nI t_)), (3, .int (nI m_)), (4, .int (nI (k_ + 1)))]) hX dX4_named_48 4 rfl (by decide) rfl ?_
        refine V_goto (tgt := 22) hX dX4_named_51 (by decide) ?_
        exact ih (k_ + 1) m_ (by omega) (by omega) (by omega) (by rw [nthG_no hj8 (fun z => c35 (thr_of (by omega) z))] at hQ2; exact hQ2)
      · refine V_iload_n hX dX4_named_38 3 rfl ?_
        refine V_if_neN (tgt := 45) hX dX4_named_39 (by decide) (by omega) (fun c39 => ?_) (fun c39 => ?_)
        · refine V_iinc (v := -1) (ls' := [(0, .ref p_), (1, .int (nI n_)), (2, .int (nI t_)), (3, .int ((nI m_) + (-1))), (4, .int (nI k_))]) hX dX4_named_45 3 rfl (by decide) (by decide) rfl ?_
          rw [show (nI m_) + (-1) = nI (m_ - 1) from by rw [show m_ = (m_ - 1) + 1 by omega]; exact pk_m1 (m_ - 1)]
          refine V_iincN (n := 1) (ls' := [(0, .ref p_), (1, .int (nI n_)), (2, .int (nI t_)), (3, .int (nI (m_ - 1))), (4, .int (nI (k_ + 1)))]) hX dX4_named_48 4 rfl (by decide) rfl ?_
          refine V_goto (tgt := 22) hX dX4_named_51 (by decide) ?_
          exact ih (k_ + 1) (m_ - 1) (by omega) (by omega) (by omega) (by rw [nthG_yes hj8 (by obtain ⟨j2, hj2, ej2, hp2⟩ := thr_nat c35; have e2 : k_ = j2 := (nI_eq (by omega) (by omega)).mp ej2; subst e2; exact hp2) c39] at hQ2; exact hQ2)
        · refine V_iload hX dX4_named_42 4 rfl ?_
          refine V_iret hX rfl dX4_named_44 ?_
          exact hR _ _ (by rw [nthG_hit hj8 (by obtain ⟨j2, hj2, ej2, hp2⟩ := thr_nat c35; have e2 : k_ = j2 := (nI_eq (by omega) (by omega)).mp ej2; subst e2; exact hp2) c39] at hQ2; unfold nmI at hQ2; rw [if_neg (by omega)] at hQ2; exact hQ2)
set_option maxRecDepth 100000 in
set_option maxHeartbeats 4000000 in
theorem k_named {G : VG} {d : Nat} {μ : VS} {Q : Option Value → VS → Prop} {p_ n_ : Nat} {P : PC} (hkp : vk p_ = (3, 0)) (hP : isP μ p_ P) (h4 : P 0 4 < 256) (hn : n_ < 1000000) (hQ : Q (some (.int (nmI (nmdN P 110 n_)))) μ) : Call G (d + 1) yX4_named cX4_named 5 (some .int) [.ref p_, .int (nI n_)] μ Q := by
  intro X hX hR
  show V G 5 X 0 [(0, .ref p_), (1, .int (nI n_))] [] μ
  refine V_aload_n hX dX4_named_0 0 rfl ?_
  refine V_getN (x := nI (P 0 4)) hX fX4_24 hkp (hP.1 4 (by decide)) dX4_named_1 ?_
  refine V_callS (As := [.int (nI (P 0 4))]) (st := []) hX mX4_58 (k_bitCount8 (by omega) ?_) rfl (Nat.le_of_ble_eq_true rfl) (Nat.le_of_ble_eq_true rfl) dX4_named_4
  show V G 5 X 7 [(0, .ref p_), (1, .int (nI n_))] [.int (nI (popN (P 0 4) 8))] μ
  refine V_istore_n (ls' := [(0, .ref p_), (1, .int (nI n_)), (2, .int (nI (popN (P 0 4) 8)))]) hX dX4_named_7 (by decide) rfl ?_
  refine V_iload_n hX dX4_named_8 2 rfl ?_
  refine V_if_neN (tgt := 15) hX dX4_named_9 (by decide) (by first | omega | (have := popN_le (P 0 4) 8; omega)) (fun c9 => ?_) (fun c9 => ?_)
  · refine V_iload_n hX dX4_named_15 1 rfl ?_
    refine V_iload_n hX dX4_named_16 2 rfl ?_
    refine V_iremN hX dX4_named_17 (Nat.pos_of_ne_zero c9) (by omega) (by have := popN_le (P 0 4) 8; omega) ?_
    refine V_istore_n (ls' := [(0, .ref p_), (1, .int (nI n_)), (2, .int (nI (popN (P 0 4) 8))), (3, .int (nI (n_ % (popN (P 0 4) 8))))]) hX dX4_named_18 (by decide) rfl ?_
    refine V_iconst (v := nI 0) hX dX4_named_19 (by decide) ?_
    refine V_istore (ls' := [(0, .ref p_), (1, .int (nI n_)), (2, .int (nI (popN (P 0 4) 8))), (3, .int (nI (n_ % (popN (P 0 4) 8)))), (4, .int (nI 0))]) hX dX4_named_20 (by decide) rfl ?_
    exact lp_named hX hR hkp hP h4 9 0 _ (by decide) (by decide) (by have := Nat.mod_lt n_ (Nat.pos_of_ne_zero c9); have := popN_le (P 0 4) 8; omega) (by rw [show nmdN P 110 n_ = _ from (if_pos rfl).trans (if_neg c9)] at hQ; exact hQ)
  · refine V_bipush (v := (-6)) hX dX4_named_12 (by decide) ?_
    refine V_iret hX rfl dX4_named_14 ?_
    exact hR _ _ (by rw [show nmdN P 110 n_ = 99 from (if_pos rfl).trans (if_pos c9)] at hQ; exact hQ)
