def insS (S : Nat → Nat) (k x : Nat) : Nat → Nat := fun i => if i < k then S i else if i = k then x else S (i - 1)
def bsP (f : Nat → Int) : Nat → Nat
  | 0 => 0
  | k + 1 => if f (bsP f k) < f (k + 1) then k + 1 else bsP f k
def stZ (P : PC) (S : Nat → Nat) (L k : Nat) : Int := ((uAt P (insS S k 115) (L + 1)).2.2.2 10 : Int) - (uAt P (insS S k 115) (L + 1)).2.2.2 9
def startS (P : PC) (L : Nat) (S : Nat → Nat) (w : Int32) : Int32 := if inZ w 0 1 then (if fltU S L = -6 then (if 60 ≤ L then -4 else if w.toNatClampNeg = 0 then zI (10000 + stZ P S L (bsP (stZ P S L) L)) else nI (bsP (stZ P S L) L)) else -5) else -2
theorem stZ_bd {P : PC} (h : P 0 2 ≤ 9) {S : Nat → Nat} {L : Nat} (hL : L ≤ 60) (k : Nat) : -10000 ≤ stZ P S L k ∧ stZ P S L k ≤ 10000 := by
  have b9 := uAt9 h (insS S k 115) (L + 1)
  have b10 := uAt10 h (insS S k 115) (L + 1)
  unfold stZ
  omega
theorem ins_run {P : PC} {S : Nat → Nat} {k L : Nat} (hk : k ≤ L) : mwR P (fun i => S (k + i)) noC (mwStep P 115 false (uAt P S k)) (L - k) = uAt P (insS S k 115) (L + 1) := by
  have e1 : uAt P (insS S k 115) (k + 1) = mwStep P 115 false (uAt P S k) := by
    show mwStep P (insS S k 115 k) false (mwR P (insS S k 115) noC (mw0 P) k) = _
    rw [show insS S k 115 k = 115 from (if_neg (Nat.lt_irrefl k)).trans (if_pos rfl), mwR_congr k (fun i hi => show insS S k 115 i = S i from if_pos hi) (fun _ _ => rfl)]
  rw [← e1, show L + 1 = (k + 1) + (L - k) by omega]
  have e2 := mwR_add P (insS S k 115) noC (mw0 P) (k + 1) (L - k)
  rw [show uAt P (insS S k 115) (k + 1 + (L - k)) = mwR P (insS S k 115) noC (mw0 P) (k + 1 + (L - k)) from rfl, e2]
  exact mwR_congr (L - k) (fun i hi => show S (k + i) = insS S k 115 (k + 1 + i) from ((if_neg (by omega)).trans ((if_neg (by omega)).trans (by rw [show k + 1 + i - 1 = k + i by omega]))).symm) (fun _ _ => rfl)
theorem gain_st {P : PC} {S : Nat → Nat} {L k : Nat} : gainI (uAt P (insS S k 115) (L + 1)) = zI (10000 + stZ P S L k) := by unfold gainI stZ; congr 1; omega
theorem isW.fr {μ μ' : VS} {w : Nat} {u : MW} (h : isW μ w u) (e0 : μ'.1 w = μ.1 w) (e1 : μ'.1 (w + 1) = μ.1 (w + 1)) : isW μ' w u := by
  unfold isW
  rw [e0, e1]
  exact h
theorem minN_I {a b : Nat} (ha : a < 2 ^ 31) (hb : b < 2 ^ 31) : (if nI b < nI a then nI b else nI a) = nI (min a b) := by
  by_cases h : b < a
  · rw [if_pos ((nI_ltI hb ha).mpr h), Nat.min_eq_right (by omega)]
  · rw [if_neg (fun z => h ((nI_ltI hb ha).mp z)), Nat.min_eq_left (by omega)]
theorem run_min {P : PC} {S : Nat → Nat} {k t : Nat} (h : k ≤ t) : mwR P (fun i => S (k + i)) noC (uAt P S k) (t - k) = uAt P S t := by
  have e := mwR_add P S noC (mw0 P) k (t - k)
  rw [show k + (t - k) = t by omega] at e
  exact e.symm
theorem nI_n6 {k : Nat} (h : k ≤ 1000) : ¬ nI k = -6 := fun e => by
  have := nI_pos (n := k) (by omega)
  rw [e] at this
  exact this (by decide)
def stI (f : Nat → Int) (k : Nat) (m b : Int32) : Prop := (k = 0 ∧ b = -6) ∨ (1 ≤ k ∧ b = nI (bsP f (k - 1)) ∧ m = zI (10000 + f (bsP f (k - 1))))
theorem bsP_le (f : Nat → Int) : ∀ k, bsP f k ≤ k
  | 0 => Nat.le_refl _
  | k + 1 => by
    have := bsP_le f k
    unfold bsP
    split <;> omega
theorem stI.new {f : Nat → Int} (hf : ∀ i, -10000 ≤ f i ∧ f i ≤ 10000) {k : Nat} {m b : Int32} (hk : k ≤ 1000) (h : stI f k m b) (c : b = -6 ∨ ¬ zI (10000 + f k) ≤ m) : stI f (k + 1) (zI (10000 + f k)) (nI k) := by
  have key : bsP f k = k := by
    rcases h with ⟨rfl, -⟩ | ⟨h1, h2, h3⟩
    · rfl
    · obtain ⟨q, rfl⟩ : ∃ q, k = q + 1 := ⟨k - 1, by omega⟩
      rw [Nat.add_sub_cancel] at h2 h3
      have c2 : ¬ zI (10000 + f (q + 1)) ≤ m := by
        rcases c with c | c
        · rw [h2] at c
          exact absurd c (nI_n6 (by have := bsP_le f q; omega))
        · exact c
      show (if f (bsP f q) < f (q + 1) then q + 1 else bsP f q) = q + 1
      rw [h3] at c2
      have g1 := hf (q + 1)
      have g2 := hf (bsP f q)
      have c3 := (zI_lt (by omega) (by omega)).mp (Int32.not_le.mp c2)
      rw [if_pos (by omega)]
  refine Or.inr ⟨by omega, ?_, ?_⟩
  · rw [Nat.add_sub_cancel, key]
  · rw [Nat.add_sub_cancel, key]
theorem stI.old {f : Nat → Int} (hf : ∀ i, -10000 ≤ f i ∧ f i ≤ 10000) {k : Nat} {m b : Int32} (h : stI f k m b) (c : ¬ b = -6) (c2 : zI (10000 + f k) ≤ m) : stI f (k + 1) m b := by
  rcases h with ⟨-, h⟩ | ⟨h1, h2, h3⟩
  · exact absurd h c
  · obtain ⟨q, rfl⟩ : ∃ q, k = q + 1 := ⟨k - 1, by omega⟩
    rw [Nat.add_sub_cancel] at h2 h3
    have key : bsP f (q + 1) = bsP f q := by
      show (if f (bsP f q) < f (q + 1) then q + 1 else bsP f q) = _
      rw [h3] at c2
      have g1 := hf (q + 1)
      have g2 := hf (bsP f q)
      rw [if_neg (fun z => Int32.not_lt.mpr c2 ((zI_lt (by omega) (by omega)).mpr (by omega)))]
    refine Or.inr ⟨by omega, ?_, ?_⟩
    · rw [Nat.add_sub_cancel, key, h2]
    · rw [Nat.add_sub_cancel, key, h3]
def stM (f : Nat → Int) (k : Nat) (m b : Int32) : Prop := (k = 0 ∧ m = zI (-1000000)) ∨ (1 ≤ k ∧ b = nI (bsP f (k - 1)) ∧ m = zI (f (bsP f (k - 1))))
theorem stM.new {f : Nat → Int} (hf : ∀ i, -10000 ≤ f i ∧ f i ≤ 10000) {k : Nat} {m b : Int32} (h : stM f k m b) (c : m < zI (f k)) : stM f (k + 1) (zI (f k)) (nI k) := by
  have key : bsP f k = k := by
    rcases h with ⟨rfl, -⟩ | ⟨h1, h2, h3⟩
    · rfl
    · obtain ⟨q, rfl⟩ : ∃ q, k = q + 1 := ⟨k - 1, by omega⟩
      rw [Nat.add_sub_cancel] at h2 h3
      show (if f (bsP f q) < f (q + 1) then q + 1 else bsP f q) = q + 1
      rw [h3] at c
      have g1 := hf (q + 1)
      have g2 := hf (bsP f q)
      rw [if_pos ((zI_lt (by omega) (by omega)).mp c)]
  refine Or.inr ⟨by omega, ?_, ?_⟩
  · rw [Nat.add_sub_cancel, key]
  · rw [Nat.add_sub_cancel, key]
theorem stM.old {f : Nat → Int} (hf : ∀ i, -10000 ≤ f i ∧ f i ≤ 10000) {k : Nat} {m b : Int32} (h : stM f k m b) (c : ¬ m < zI (f k)) : stM f (k + 1) m b := by
  have g1 := hf k
  rcases h with ⟨h0, h⟩ | ⟨h1, h2, h3⟩
  · rw [h] at c
    exact absurd ((zI_lt (by omega) (by omega)).mpr (by omega)) c
  · obtain ⟨q, rfl⟩ : ∃ q, k = q + 1 := ⟨k - 1, by omega⟩
    rw [Nat.add_sub_cancel] at h2 h3
    have key : bsP f (q + 1) = bsP f q := by
      show (if f (bsP f q) < f (q + 1) then q + 1 else bsP f q) = _
      rw [h3] at c
      have g2 := hf (bsP f q)
      rw [if_neg (fun z => c ((zI_lt (by omega) (by omega)).mpr z))]
    refine Or.inr ⟨by omega, ?_, ?_⟩
    · rw [Nat.add_sub_cancel, key, h2]
    · rw [Nat.add_sub_cancel, key, h3]
theorem nI_dec (n : Nat) : nI (n + 1) + (-1) = nI n := by rw [zI_nat, zI_nat, show (-1 : Int32) = zI (-1) from rfl, zI_add]; congr 1; omega
theorem zdiff {P : PC} {S : Nat → Nat} {L k : Nat} : nI ((uAt P (insS S k 115) (L + 1)).2.2.2 10) - nI ((uAt P (insS S k 115) (L + 1)).2.2.2 9) = zI (stZ P S L k) := by rw [zI_nat, zI_nat, zI_sub]; rfl
set_option maxRecDepth 100000 in
set_option maxHeartbeats 4000000 in
theorem lpC_start0 {G : VG} {d : Nat} {μ : VS} {Q : Option Value → VS → Prop} {X : VX} {P : PC} {L : Nat} {S κ : Nat → Nat} {I : Nat → PC} (hX : Cx G (d + 5) yX8_bestStart cX8_bestStart 7 (some .int) X) (hR : ∀ r μ', Q r μ' → Ret G X r μ') (hok : okP P) (hpd : okPad L S) (hL59 : L ≤ 59) (hQ : ∀ μ', RC μ' P L S κ I → keepM μ μ' → Q (some (.int (zI (10000 + stZ P S L (bsP (stZ P S L) L))))) μ') : ∀ (j k_ : Nat) (μ1 : VS) (m_ b_ : Int32), k_ ≤ L + 1 → L + 2 ≤ k_ + j → RC μ1 P L S κ I → keepM μ μ1 → isW μ1 34 (uAt P S (min k_ L)) → stI (stZ P S L) k_ m_ b_ → V G 7 X 23 [(0, .ref 0), (1, .int (nI 0)), (2, .ref 34), (3, .ref 36), (4, .int m_), (5, .int b_), (6, .int (nI k_))] [] μ1 := by
  have hL60 := hpd.1
  have hS := hpd.2
  have hf := fun i => stZ_bd (S := S) hok.2.2.1 hL60 i
  intro j
  induction j with
  | zero =>
    intro k_ μ1 m_ b_ h1 h2
    exact absurd h2 (by omega)
  | succ j ih =>
    intro k_ μ1 m_ b_ h1 h2 hR1 hM1 hU1 hB
    refine V_iload hX dX8_bestStart_23 6 rfl ?_
    refine V_aload_n hX dX8_bestStart_25 0 rfl ?_
    refine V_getr (j := 31) hX fX8_30 rfl rfl dX8_bestStart_26 ?_
    refine V_getN (x := nI L) hX fX8_128 rfl hR1.2.1.1 dX8_bestStart_29 ?_
    refine V_icmp_gtN (tgt := 132) hX dX8_bestStart_32 (by decide) (by omega) (by omega) (fun c32 => ?_) (fun c32 => ?_)
    · refine V_iload_n hX dX8_bestStart_132 1 rfl ?_
      refine V_if_eqN (tgt := 141) hX dX8_bestStart_133 (by decide) (by omega) (fun c133 => ?_) (fun c133 => ?_)
      · refine V_iload hX dX8_bestStart_141 4 rfl ?_
        refine V_iret hX rfl dX8_bestStart_143 ?_
        obtain rfl : k_ = L + 1 := by omega
        rcases hB with ⟨z, -⟩ | ⟨-, h2, h3⟩
        · exact absurd z (by omega)
        · rw [Nat.add_sub_cancel] at h2 h3
          exact hR _ _ (by rw [h3]; exact hQ μ1 hR1 hM1)
      · exact absurd c133 (by decide)
    · rw [Nat.min_eq_left (by omega)] at hU1
      refine V_aload_n hX dX8_bestStart_35 3 rfl ?_
      refine V_aload_n hX dX8_bestStart_36 2 rfl ?_
      refine V_callV (As := [.ref 34]) (st := []) hX mX8_297 rfl (k_become (w_ := 36) (v_ := 34) rfl rfl (by decide) hU1 (fun μ2 a2 b2 d2 => ?_)) rfl (Nat.le_of_ble_eq_true rfl) (Nat.le_of_ble_eq_true rfl) dX8_bestStart_37
      show V G 7 X 40 [(0, .ref 0), (1, .int (nI 0)), (2, .ref 34), (3, .ref 36), (4, .int m_), (5, .int b_), (6, .int (nI k_))] [] μ2
      have hR2 : RC μ2 P L S κ I := hR1.frame (fun a ha => a2 a (by omega) (by omega))
      have hA2 := hU1.fr (a2 34 (by decide) (by decide)) (a2 35 (by decide) (by decide))
      refine V_aload_n hX dX8_bestStart_40 3 rfl ?_
      refine V_aload_n hX dX8_bestStart_41 0 rfl ?_
      refine V_getr (j := 1) hX fX8_10 rfl rfl dX8_bestStart_42 ?_
      refine V_bipush (v := nI 115) hX dX8_bestStart_45 (by decide) ?_
      refine V_iconst (v := nI 0) hX dX8_bestStart_47 (by decide) ?_
      show V G 7 X 48 [(0, .ref 0), (1, .int (nI 0)), (2, .ref 34), (3, .ref 36), (4, .int m_), (5, .int b_), (6, .int (nI k_))] [.int (bI (false = true)), .int (nI 115), .ref 1, .ref 36] μ2
      refine V_callV (As := [.ref 1, .int (nI 115), .int (bI (false = true))]) (st := []) hX mX8_155 rfl (k_pass (w_ := 36) (cold_ := false) (P := P) rfl rfl hR2.1 hok (by decide) b2 (mwR_ok hok (mw0_ok hok) k_) (by omega) (fun μ3 a3 b3 c3 d3 => ?_)) rfl (Nat.le_of_ble_eq_true rfl) (Nat.le_of_ble_eq_true rfl) dX8_bestStart_48
      show V G 7 X 51 [(0, .ref 0), (1, .int (nI 0)), (2, .ref 34), (3, .ref 36), (4, .int m_), (5, .int b_), (6, .int (nI k_))] [] μ3
      have hR3 : RC μ3 P L S κ I := hR2.frame (fun a ha => a3 a (by omega) (by omega))
      have hA3 := hA2.fr (a3 34 (by decide) (by decide)) (a3 35 (by decide) (by decide))
      refine V_aload_n hX dX8_bestStart_51 3 rfl ?_
      refine V_aload_n hX dX8_bestStart_52 0 rfl ?_
      refine V_getr (j := 1) hX fX8_10 rfl rfl dX8_bestStart_53 ?_
      refine V_aload_n hX dX8_bestStart_56 0 rfl ?_
      refine V_getr (j := 31) hX fX8_30 rfl rfl dX8_bestStart_57 ?_
      refine V_iload hX dX8_bestStart_60 6 rfl ?_
      refine V_aload_n hX dX8_bestStart_62 0 rfl ?_
      refine V_getr (j := 31) hX fX8_30 rfl rfl dX8_bestStart_63 ?_
      refine V_getN (x := nI L) hX fX8_128 rfl hR3.2.1.1 dX8_bestStart_66 ?_
      refine V_callV (As := [.ref 1, .ref 31, .int (nI k_), .int (nI L)]) (st := []) hX mX8_290 rfl (k_passAll (w_ := 36) (P := P) (n_ := 0 + k_ + 1) rfl rfl hR3.1 hok hR3.2.1 hS hL60 ((mwR_ok hok (mw0_ok hok) k_).step hok) (Nat.le_refl L) (by omega) (by omega) b3 (fun μ4 a4 b4 c4 d4 => ?_)) rfl (Nat.le_of_ble_eq_true rfl) (Nat.le_of_ble_eq_true rfl) dX8_bestStart_69
      show V G 7 X 72 [(0, .ref 0), (1, .int (nI 0)), (2, .ref 34), (3, .ref 36), (4, .int m_), (5, .int b_), (6, .int (nI k_))] [] μ4
      have hR4 : RC μ4 P L S κ I := hR3.frame (fun a ha => a4 a (by omega) (by omega))
      have hA4 := hA3.fr (a4 34 (by decide) (by decide)) (a4 35 (by decide) (by decide))
      rw [ins_run (by omega)] at b4
      refine V_iload hX dX8_bestStart_72 5 rfl ?_
      refine V_bipush (v := (-6)) hX dX8_bestStart_74 (by decide) ?_
      refine V_icmp_eq (tgt := 88) hX dX8_bestStart_76 (by decide) (fun c76 => ?_) (fun c76 => ?_)
      · refine V_aload_n hX dX8_bestStart_88 3 rfl ?_
        refine V_callV (As := []) (st := []) hX mX8_165 rfl (k_gained rfl b4 ?_) rfl (Nat.le_of_ble_eq_true rfl) (Nat.le_of_ble_eq_true rfl) dX8_bestStart_89
        rw [gain_st]
        show V G 7 X 92 [(0, .ref 0), (1, .int (nI 0)), (2, .ref 34), (3, .ref 36), (4, .int m_), (5, .int b_), (6, .int (nI k_))] [.int (zI (10000 + stZ P S L k_))] μ4
        refine V_istore (ls' := [(0, .ref 0), (1, .int (nI 0)), (2, .ref 34), (3, .ref 36), (4, .int (zI (10000 + stZ P S L k_))), (5, .int b_), (6, .int (nI k_))]) hX dX8_bestStart_92 (by decide) rfl ?_
        refine V_iload hX dX8_bestStart_94 6 rfl ?_
        refine V_istore (ls' := [(0, .ref 0), (1, .int (nI 0)), (2, .ref 34), (3, .ref 36), (4, .int (zI (10000 + stZ P S L k_))), (5, .int (nI k_)), (6, .int (nI k_))]) hX dX8_bestStart_96 (by decide) rfl ?_
        refine V_aload_n hX dX8_bestStart_98 2 rfl ?_
        refine V_aload_n hX dX8_bestStart_99 0 rfl ?_
        refine V_getr (j := 1) hX fX8_10 rfl rfl dX8_bestStart_100 ?_
        refine V_aload_n hX dX8_bestStart_103 0 rfl ?_
        refine V_getr (j := 31) hX fX8_30 rfl rfl dX8_bestStart_104 ?_
        refine V_iload hX dX8_bestStart_107 6 rfl ?_
        refine V_iload hX dX8_bestStart_109 6 rfl ?_
        refine V_iconst (v := nI 1) hX dX8_bestStart_111 (by decide) ?_
        refine V_iaddN hX dX8_bestStart_112 ?_
        refine V_aload_n hX dX8_bestStart_113 0 rfl ?_
        refine V_getr (j := 31) hX fX8_30 rfl rfl dX8_bestStart_114 ?_
        refine V_getN (x := nI L) hX fX8_128 rfl hR4.2.1.1 dX8_bestStart_117 ?_
        refine V_mmin hX mX8_300 mmin1 mmath2 mmin3 (Nat.le_of_ble_eq_true rfl) dX8_bestStart_120 ?_
        rw [show (if (nI L) < (nI (k_ + 1)) then (nI L) else (nI (k_ + 1))) = nI (min (k_ + 1) L) from minN_I (by omega) (by omega)]
        refine V_callV (As := [.ref 1, .ref 31, .int (nI k_), .int (nI (min (k_ + 1) L))]) (st := []) hX mX8_290 rfl (k_passAll (w_ := 34) (P := P) (n_ := 0 + k_) rfl rfl hR4.1 hok hR4.2.1 hS hL60 (mwR_ok hok (mw0_ok hok) k_) (by omega) (by omega) (by omega) hA4 (fun μ5 a5 b5 c5 d5 => ?_)) rfl (Nat.le_of_ble_eq_true rfl) (Nat.le_of_ble_eq_true rfl) dX8_bestStart_123
        show V G 7 X 126 [(0, .ref 0), (1, .int (nI 0)), (2, .ref 34), (3, .ref 36), (4, .int (zI (10000 + stZ P S L k_))), (5, .int (nI k_)), (6, .int (nI k_))] [] μ5
        have hR5 : RC μ5 P L S κ I := hR4.frame (fun a ha => a5 a (by omega) (by omega))
        have hM5 : keepM μ μ5 := hM1.tr (fun a ha => by rw [a5 a (by omega) (by omega), a4 a (by omega) (by omega), a3 a (by omega) (by omega), a2 a (by omega) (by omega)])
        rw [run_min (by omega)] at b5
        refine V_iincN (n := 1) (ls' := [(0, .ref 0), (1, .int (nI 0)), (2, .ref 34), (3, .ref 36), (4, .int (zI (10000 + stZ P S L k_))), (5, .int (nI k_)), (6, .int (nI (k_ + 1)))]) hX dX8_bestStart_126 6 rfl (by decide) rfl ?_
        refine V_goto (tgt := 23) hX dX8_bestStart_129 (by decide) ?_
        exact ih (k_ + 1) μ5 _ _ (by omega) (by omega) hR5 hM5 b5 (hB.new hf (by omega) (Or.inl c76))
      · refine V_aload_n hX dX8_bestStart_79 3 rfl ?_
        refine V_callV (As := []) (st := []) hX mX8_165 rfl (k_gained rfl b4 ?_) rfl (Nat.le_of_ble_eq_true rfl) (Nat.le_of_ble_eq_true rfl) dX8_bestStart_80
        rw [gain_st]
        show V G 7 X 83 [(0, .ref 0), (1, .int (nI 0)), (2, .ref 34), (3, .ref 36), (4, .int m_), (5, .int b_), (6, .int (nI k_))] [.int (zI (10000 + stZ P S L k_))] μ4
        refine V_iload hX dX8_bestStart_83 4 rfl ?_
        refine V_icmp_le (tgt := 98) hX dX8_bestStart_85 (by decide) (fun c85 => ?_) (fun c85 => ?_)
        · refine V_aload_n hX dX8_bestStart_98 2 rfl ?_
          refine V_aload_n hX dX8_bestStart_99 0 rfl ?_
          refine V_getr (j := 1) hX fX8_10 rfl rfl dX8_bestStart_100 ?_
          refine V_aload_n hX dX8_bestStart_103 0 rfl ?_
          refine V_getr (j := 31) hX fX8_30 rfl rfl dX8_bestStart_104 ?_
          refine V_iload hX dX8_bestStart_107 6 rfl ?_
          refine V_iload hX dX8_bestStart_109 6 rfl ?_
          refine V_iconst (v := nI 1) hX dX8_bestStart_111 (by decide) ?_
          refine V_iaddN hX dX8_bestStart_112 ?_
          refine V_aload_n hX dX8_bestStart_113 0 rfl ?_
          refine V_getr (j := 31) hX fX8_30 rfl rfl dX8_bestStart_114 ?_
          refine V_getN (x := nI L) hX fX8_128 rfl hR4.2.1.1 dX8_bestStart_117 ?_
          refine V_mmin hX mX8_300 mmin1 mmath2 mmin3 (Nat.le_of_ble_eq_true rfl) dX8_bestStart_120 ?_
          rw [show (if (nI L) < (nI (k_ + 1)) then (nI L) else (nI (k_ + 1))) = nI (min (k_ + 1) L) from minN_I (by omega) (by omega)]
          refine V_callV (As := [.ref 1, .ref 31, .int (nI k_), .int (nI (min (k_ + 1) L))]) (st := []) hX mX8_290 rfl (k_passAll (w_ := 34) (P := P) (n_ := 0 + k_) rfl rfl hR4.1 hok hR4.2.1 hS hL60 (mwR_ok hok (mw0_ok hok) k_) (by omega) (by omega) (by omega) hA4 (fun μ5 a5 b5 c5 d5 => ?_)) rfl (Nat.le_of_ble_eq_true rfl) (Nat.le_of_ble_eq_true rfl) dX8_bestStart_123
          show V G 7 X 126 [(0, .ref 0), (1, .int (nI 0)), (2, .ref 34), (3, .ref 36), (4, .int m_), (5, .int b_), (6, .int (nI k_))] [] μ5
          have hR5 : RC μ5 P L S κ I := hR4.frame (fun a ha => a5 a (by omega) (by omega))
          have hM5 : keepM μ μ5 := hM1.tr (fun a ha => by rw [a5 a (by omega) (by omega), a4 a (by omega) (by omega), a3 a (by omega) (by omega), a2 a (by omega) (by omega)])
          rw [run_min (by omega)] at b5
          refine V_iincN (n := 1) (ls' := [(0, .ref 0), (1, .int (nI 0)), (2, .ref 34), (3, .ref 36), (4, .int m_), (5, .int b_), (6, .int (nI (k_ + 1)))]) hX dX8_bestStart_126 6 rfl (by decide) rfl ?_
          refine V_goto (tgt := 23) hX dX8_bestStart_129 (by decide) ?_
          exact ih (k_ + 1) μ5 _ _ (by omega) (by omega) hR5 hM5 b5 (hB.old hf c76 c85)
        · refine V_aload_n hX dX8_bestStart_88 3 rfl ?_
          refine V_callV (As := []) (st := []) hX mX8_165 rfl (k_gained rfl b4 ?_) rfl (Nat.le_of_ble_eq_true rfl) (Nat.le_of_ble_eq_true rfl) dX8_bestStart_89
          rw [gain_st]
          show V G 7 X 92 [(0, .ref 0), (1, .int (nI 0)), (2, .ref 34), (3, .ref 36), (4, .int m_), (5, .int b_), (6, .int (nI k_))] [.int (zI (10000 + stZ P S L k_))] μ4
          refine V_istore (ls' := [(0, .ref 0), (1, .int (nI 0)), (2, .ref 34), (3, .ref 36), (4, .int (zI (10000 + stZ P S L k_))), (5, .int b_), (6, .int (nI k_))]) hX dX8_bestStart_92 (by decide) rfl ?_
          refine V_iload hX dX8_bestStart_94 6 rfl ?_
          refine V_istore (ls' := [(0, .ref 0), (1, .int (nI 0)), (2, .ref 34), (3, .ref 36), (4, .int (zI (10000 + stZ P S L k_))), (5, .int (nI k_)), (6, .int (nI k_))]) hX dX8_bestStart_96 (by decide) rfl ?_
          refine V_aload_n hX dX8_bestStart_98 2 rfl ?_
          refine V_aload_n hX dX8_bestStart_99 0 rfl ?_
          refine V_getr (j := 1) hX fX8_10 rfl rfl dX8_bestStart_100 ?_
          refine V_aload_n hX dX8_bestStart_103 0 rfl ?_
          refine V_getr (j := 31) hX fX8_30 rfl rfl dX8_bestStart_104 ?_
          refine V_iload hX dX8_bestStart_107 6 rfl ?_
          refine V_iload hX dX8_bestStart_109 6 rfl ?_
          refine V_iconst (v := nI 1) hX dX8_bestStart_111 (by decide) ?_
          refine V_iaddN hX dX8_bestStart_112 ?_
          refine V_aload_n hX dX8_bestStart_113 0 rfl ?_
          refine V_getr (j := 31) hX fX8_30 rfl rfl dX8_bestStart_114 ?_
          refine V_getN (x := nI L) hX fX8_128 rfl hR4.2.1.1 dX8_bestStart_117 ?_
          refine V_mmin hX mX8_300 mmin1 mmath2 mmin3 (Nat.le_of_ble_eq_true rfl) dX8_bestStart_120 ?_
          rw [show (if (nI L) < (nI (k_ + 1)) then (nI L) else (nI (k_ + 1))) = nI (min (k_ + 1) L) from minN_I (by omega) (by omega)]
          refine V_callV (As := [.ref 1, .ref 31, .int (nI k_), .int (nI (min (k_ + 1) L))]) (st := []) hX mX8_290 rfl (k_passAll (w_ := 34) (P := P) (n_ := 0 + k_) rfl rfl hR4.1 hok hR4.2.1 hS hL60 (mwR_ok hok (mw0_ok hok) k_) (by omega) (by omega) (by omega) hA4 (fun μ5 a5 b5 c5 d5 => ?_)) rfl (Nat.le_of_ble_eq_true rfl) (Nat.le_of_ble_eq_true rfl) dX8_bestStart_123
          show V G 7 X 126 [(0, .ref 0), (1, .int (nI 0)), (2, .ref 34), (3, .ref 36), (4, .int (zI (10000 + stZ P S L k_))), (5, .int (nI k_)), (6, .int (nI k_))] [] μ5
          have hR5 : RC μ5 P L S κ I := hR4.frame (fun a ha => a5 a (by omega) (by omega))
          have hM5 : keepM μ μ5 := hM1.tr (fun a ha => by rw [a5 a (by omega) (by omega), a4 a (by omega) (by omega), a3 a (by omega) (by omega), a2 a (by omega) (by omega)])
          rw [run_min (by omega)] at b5
          refine V_iincN (n := 1) (ls' := [(0, .ref 0), (1, .int (nI 0)), (2, .ref 34), (3, .ref 36), (4, .int (zI (10000 + stZ P S L k_))), (5, .int (nI k_)), (6, .int (nI (k_ + 1)))]) hX dX8_bestStart_126 6 rfl (by decide) rfl ?_
          refine V_goto (tgt := 23) hX dX8_bestStart_129 (by decide) ?_
          exact ih (k_ + 1) μ5 _ _ (by omega) (by omega) hR5 hM5 b5 (hB.new hf (by omega) (Or.inr c85))
set_option maxRecDepth 100000 in
set_option maxHeartbeats 4000000 in
theorem k_bestStart0 {G : VG} {d : Nat} {μ : VS} {Q : Option Value → VS → Prop} {P : PC} {L : Nat} {S κ : Nat → Nat} {I : Nat → PC} (hRC : RC μ P L S κ I) (hok : okP P) (hpd : okPad L S) (hL59 : L ≤ 59) (hQ : ∀ μ', RC μ' P L S κ I → keepM μ μ' → Q (some (.int (zI (10000 + stZ P S L (bsP (stZ P S L) L))))) μ') : Call G (d + 6) yX8_bestStart cX8_bestStart 7 (some .int) [.ref 0, .int (nI 0)] μ Q := by
  intro X hX hR
  have hP := hRC.1
  have hL := hRC.2.1
  have hS := hpd.2
  have hL60 := hpd.1
  have hP4 := hok.2.2.2.2.1
  show V G 7 X 0 [(0, .ref 0), (1, .int (nI 0))] [] μ
  refine V_aload_n hX dX8_bestStart_0 0 rfl ?_
  refine V_iconst (v := nI 0) hX dX8_bestStart_1 (by decide) ?_
  refine V_callV (As := [.int (nI 0)]) (st := []) hX mX8_141 rfl (k_goneThrough hP hok hL hS hL60 (by omega) (fun μ2 a2 b2 k2 d2 => ?_)) rfl (Nat.le_of_ble_eq_true rfl) (Nat.le_of_ble_eq_true rfl) dX8_bestStart_2
  show V G 7 X 5 [(0, .ref 0), (1, .int (nI 0))] [.ref 34] μ2
  have hRC2 : RC μ2 P L S κ I := hRC.frame (fun a ha => a2 a (by omega) (by omega))
  have hkM : keepM μ μ2 := fun a ha => a2 a (by omega) (by omega)
  refine V_astore_n (ls' := [(0, .ref 0), (1, .int (nI 0)), (2, .ref 34)]) hX dX8_bestStart_5 (by decide) rfl ?_
  refine V_aload_n hX dX8_bestStart_6 0 rfl ?_
  refine V_getr (j := 33) hX fX8_36 rfl rfl dX8_bestStart_7 ?_
  refine V_iconst (v := nI 1) hX dX8_bestStart_10 (by decide) ?_
  refine V_waldN (r := 36) hX rfl (by omega) (by decide) rfl dX8_bestStart_11 ?_
  refine V_astore_n (ls' := [(0, .ref 0), (1, .int (nI 0)), (2, .ref 34), (3, .ref 36)]) hX dX8_bestStart_12 (by decide) rfl ?_
  refine V_iconst (v := nI 0) hX dX8_bestStart_13 (by decide) ?_
  refine V_istore (ls' := [(0, .ref 0), (1, .int (nI 0)), (2, .ref 34), (3, .ref 36), (4, .int (nI 0))]) hX dX8_bestStart_14 (by decide) rfl ?_
  refine V_bipush (v := (-6)) hX dX8_bestStart_16 (by decide) ?_
  refine V_istore (ls' := [(0, .ref 0), (1, .int (nI 0)), (2, .ref 34), (3, .ref 36), (4, .int (nI 0)), (5, .int (-6))]) hX dX8_bestStart_18 (by decide) rfl ?_
  refine V_iconst (v := nI 0) hX dX8_bestStart_20 (by decide) ?_
  refine V_istore (ls' := [(0, .ref 0), (1, .int (nI 0)), (2, .ref 34), (3, .ref 36), (4, .int (nI 0)), (5, .int (-6)), (6, .int (nI 0))]) hX dX8_bestStart_21 (by decide) rfl ?_
  exact lpC_start0 (μ := μ) hX hR hok hpd hL59 hQ (L + 2) 0 μ2 _ _ (by omega) (by omega) hRC2 hkM (by rw [Nat.zero_min]; exact b2) (Or.inl ⟨rfl, rfl⟩)
set_option maxRecDepth 100000 in
set_option maxHeartbeats 4000000 in
theorem kC_start0 {G : VG} {d : Nat} {μ : VS} {Q : Option Value → VS → Prop} {P : PC} {L : Nat} {S κ : Nat → Nat} {I : Nat → PC} (hRC : RC μ P L S κ I) (hok : okP P) (hpd : okPad L S) (hQ : ∀ μ', RC μ' P L S κ I → keepM μ μ' → Q (some (.int (startS P L S (nI 0)))) μ') : Call G (d + 7) yX8_start cX8_start 2 (some .int) [.ref 0, .int (nI 0)] μ Q := by
  intro X hX hR
  have hP := hRC.1
  have hL := hRC.2.1
  have hS := hpd.2
  have hL60 := hpd.1
  have hP4 := hok.2.2.2.2.1
  show V G 2 X 0 [(0, .ref 0), (1, .int (nI 0))] [] μ
  refine V_iload_n hX dX8_start_0 1 rfl ?_
  refine V_iconst (v := nI 0) hX dX8_start_1 (by decide) ?_
  refine V_iconst (v := nI 1) hX dX8_start_2 (by decide) ?_
  refine V_callS (As := [.int (nI 0), .int (nI 0), .int (nI 1)]) (st := []) hX mX8_73 (k_isOutside ?_) rfl (Nat.le_of_ble_eq_true rfl) (Nat.le_of_ble_eq_true rfl) dX8_start_3
  show V G 2 X 6 [(0, .ref 0), (1, .int (nI 0))] [.int (bI (nI 0 < nI 0 ∨ nI 1 < nI 0))] μ
  refine V_if_eqB (tgt := 12) hX dX8_start_6 (by decide) (fun c6 => ?_) (fun c6 => ?_)
  · refine V_aload_n hX dX8_start_12 0 rfl ?_
    refine V_getr (j := 31) hX fX8_30 rfl rfl dX8_start_13 ?_
    refine V_callV (As := []) (st := []) hX mX8_137 rfl (kC_hasFault hL hS hL60 ?_) rfl (Nat.le_of_ble_eq_true rfl) (Nat.le_of_ble_eq_true rfl) dX8_start_16
    show V G 2 X 19 [(0, .ref 0), (1, .int (nI 0))] [.int (bI (¬ fltU S L = -6))] μ
    refine V_if_eqB (tgt := 25) hX dX8_start_19 (by decide) (fun c19 => ?_) (fun c19 => ?_)
    · refine V_aload_n hX dX8_start_25 0 rfl ?_
      refine V_getr (j := 31) hX fX8_30 rfl rfl dX8_start_26 ?_
      refine V_getN (x := nI L) hX fX8_128 rfl hL.1 dX8_start_29 ?_
      refine V_bipush (v := nI 60) hX dX8_start_32 (by decide) ?_
      refine V_icmp_ltN (tgt := 42) hX dX8_start_34 (by decide) (by omega) (by omega) (fun c34 => ?_) (fun c34 => ?_)
      · refine V_aload_n hX dX8_start_42 0 rfl ?_
        refine V_iload_n hX dX8_start_43 1 rfl ?_
        refine V_iconst (v := nI 1) hX dX8_start_44 (by decide) ?_
        refine V_icmp_neN (tgt := 52) hX dX8_start_45 (by decide) (by omega) (by omega) (fun c45 => ?_) (fun c45 => ?_)
        · refine V_iconst (v := nI 0) hX dX8_start_52 (by decide) ?_
          refine V_callV (As := [.int (nI 0)]) (st := []) hX mX8_182 rfl (k_bestStart0 hRC hok hpd (by omega) (fun μ2 hRC2 hkM => ?_)) rfl (Nat.le_of_ble_eq_true rfl) (Nat.le_of_ble_eq_true rfl) dX8_start_53
          show V G 2 X 56 [(0, .ref 0), (1, .int (nI 0))] [.int (zI (10000 + stZ P S L (bsP (stZ P S L) L)))] μ2
          refine V_iret hX rfl dX8_start_56 ?_
          have h9 := hQ μ2
          rw [show startS P L S (nI 0) = zI (10000 + stZ P S L (bsP (stZ P S L) L)) from (if_pos (in_of_not_out c6)).trans ((if_pos (Decidable.not_not.mp c19)).trans ((if_neg (by omega)).trans (if_pos (nI_clamp (by decide)))))] at h9
          exact hR _ _ (h9 hRC2 hkM)
        · exact absurd c45 (by decide)
      · refine V_bipush (v := (-4)) hX dX8_start_37 (by decide) ?_
        refine V_goto (tgt := 56) hX dX8_start_39 (by decide) ?_
        refine V_iret hX rfl dX8_start_56 ?_
        have h9 := hQ μ
        rw [show startS P L S (nI 0) = -4 from (if_pos (in_of_not_out c6)).trans ((if_pos (Decidable.not_not.mp c19)).trans (if_pos (by omega)))] at h9
        exact hR _ _ (h9 hRC (keepM.rf μ))
    · refine V_bipush (v := (-5)) hX dX8_start_22 (by decide) ?_
      refine V_iret hX rfl dX8_start_24 ?_
      have h9 := hQ μ
      rw [show startS P L S (nI 0) = -5 from (if_pos (in_of_not_out c6)).trans (if_neg c19)] at h9
      exact hR _ _ (h9 hRC (keepM.rf μ))
  · refine V_bipush (v := (-2)) hX dX8_start_9 (by decide) ?_
    refine V_iret hX rfl dX8_start_11 ?_
    exact absurd c6 (by decide)
set_option maxRecDepth 100000 in
set_option maxHeartbeats 4000000 in
theorem lpC_start1 {G : VG} {d : Nat} {μ : VS} {Q : Option Value → VS → Prop} {X : VX} {P : PC} {L : Nat} {S κ : Nat → Nat} {I : Nat → PC} (hX : Cx G (d + 5) yX8_bestStart cX8_bestStart 7 (some .int) X) (hR : ∀ r μ', Q r μ' → Ret G X r μ') (hok : okP P) (hpd : okPad L S) (hL59 : L ≤ 59) (hQ : ∀ μ', RC μ' P L S κ I → keepM μ μ' → Q (some (.int (nI (bsP (stZ P S L) L)))) μ') : ∀ (j k_ : Nat) (μ1 : VS) (m_ b_ : Int32), k_ ≤ L + 1 → L + 2 ≤ k_ + j → RC μ1 P L S κ I → keepM μ μ1 → isW μ1 34 (uAt P S (min k_ L)) → stI (stZ P S L) k_ m_ b_ → V G 7 X 23 [(0, .ref 0), (1, .int (nI 1)), (2, .ref 34), (3, .ref 36), (4, .int m_), (5, .int b_), (6, .int (nI k_))] [] μ1 := by
  have hL60 := hpd.1
  have hS := hpd.2
  have hf := fun i => stZ_bd (S := S) hok.2.2.1 hL60 i
  intro j
  induction j with
  | zero =>
    intro k_ μ1 m_ b_ h1 h2
    exact absurd h2 (by omega)
  | succ j ih =>
    intro k_ μ1 m_ b_ h1 h2 hR1 hM1 hU1 hB
    refine V_iload hX dX8_bestStart_23 6 rfl ?_
    refine V_aload_n hX dX8_bestStart_25 0 rfl ?_
    refine V_getr (j := 31) hX fX8_30 rfl rfl dX8_bestStart_26 ?_
    refine V_getN (x := nI L) hX fX8_128 rfl hR1.2.1.1 dX8_bestStart_29 ?_
    refine V_icmp_gtN (tgt := 132) hX dX8_bestStart_32 (by decide) (by omega) (by omega) (fun c32 => ?_) (fun c32 => ?_)
    · refine V_iload_n hX dX8_bestStart_132 1 rfl ?_
      refine V_if_eqN (tgt := 141) hX dX8_bestStart_133 (by decide) (by omega) (fun c133 => ?_) (fun c133 => ?_)
      · exact absurd c133 (by decide)
      · refine V_iload hX dX8_bestStart_136 5 rfl ?_
        refine V_goto (tgt := 143) hX dX8_bestStart_138 (by decide) ?_
        refine V_iret hX rfl dX8_bestStart_143 ?_
        obtain rfl : k_ = L + 1 := by omega
        rcases hB with ⟨z, -⟩ | ⟨-, h2, h3⟩
        · exact absurd z (by omega)
        · rw [Nat.add_sub_cancel] at h2 h3
          exact hR _ _ (by rw [h2]; exact hQ μ1 hR1 hM1)
    · rw [Nat.min_eq_left (by omega)] at hU1
      refine V_aload_n hX dX8_bestStart_35 3 rfl ?_
      refine V_aload_n hX dX8_bestStart_36 2 rfl ?_
      refine V_callV (As := [.ref 34]) (st := []) hX mX8_297 rfl (k_become (w_ := 36) (v_ := 34) rfl rfl (by decide) hU1 (fun μ2 a2 b2 d2 => ?_)) rfl (Nat.le_of_ble_eq_true rfl) (Nat.le_of_ble_eq_true rfl) dX8_bestStart_37
      show V G 7 X 40 [(0, .ref 0), (1, .int (nI 1)), (2, .ref 34), (3, .ref 36), (4, .int m_), (5, .int b_), (6, .int (nI k_))] [] μ2
      have hR2 : RC μ2 P L S κ I := hR1.frame (fun a ha => a2 a (by omega) (by omega))
      have hA2 := hU1.fr (a2 34 (by decide) (by decide)) (a2 35 (by decide) (by decide))
      refine V_aload_n hX dX8_bestStart_40 3 rfl ?_
      refine V_aload_n hX dX8_bestStart_41 0 rfl ?_
      refine V_getr (j := 1) hX fX8_10 rfl rfl dX8_bestStart_42 ?_
      refine V_bipush (v := nI 115) hX dX8_bestStart_45 (by decide) ?_
      refine V_iconst (v := nI 0) hX dX8_bestStart_47 (by decide) ?_
      show V G 7 X 48 [(0, .ref 0), (1, .int (nI 1)), (2, .ref 34), (3, .ref 36), (4, .int m_), (5, .int b_), (6, .int (nI k_))] [.int (bI (false = true)), .int (nI 115), .ref 1, .ref 36] μ2
      refine V_callV (As := [.ref 1, .int (nI 115), .int (bI (false = true))]) (st := []) hX mX8_155 rfl (k_pass (w_ := 36) (cold_ := false) (P := P) rfl rfl hR2.1 hok (by decide) b2 (mwR_ok hok (mw0_ok hok) k_) (by omega) (fun μ3 a3 b3 c3 d3 => ?_)) rfl (Nat.le_of_ble_eq_true rfl) (Nat.le_of_ble_eq_true rfl) dX8_bestStart_48
      show V G 7 X 51 [(0, .ref 0), (1, .int (nI 1)), (2, .ref 34), (3, .ref 36), (4, .int m_), (5, .int b_), (6, .int (nI k_))] [] μ3
      have hR3 : RC μ3 P L S κ I := hR2.frame (fun a ha => a3 a (by omega) (by omega))
      have hA3 := hA2.fr (a3 34 (by decide) (by decide)) (a3 35 (by decide) (by decide))
      refine V_aload_n hX dX8_bestStart_51 3 rfl ?_
      refine V_aload_n hX dX8_bestStart_52 0 rfl ?_
      refine V_getr (j := 1) hX fX8_10 rfl rfl dX8_bestStart_53 ?_
      refine V_aload_n hX dX8_bestStart_56 0 rfl ?_
      refine V_getr (j := 31) hX fX8_30 rfl rfl dX8_bestStart_57 ?_
      refine V_iload hX dX8_bestStart_60 6 rfl ?_
      refine V_aload_n hX dX8_bestStart_62 0 rfl ?_
      refine V_getr (j := 31) hX fX8_30 rfl rfl dX8_bestStart_63 ?_
      refine V_getN (x := nI L) hX fX8_128 rfl hR3.2.1.1 dX8_bestStart_66 ?_
      refine V_callV (As := [.ref 1, .ref 31, .int (nI k_), .int (nI L)]) (st := []) hX mX8_290 rfl (k_passAll (w_ := 36) (P := P) (n_ := 0 + k_ + 1) rfl rfl hR3.1 hok hR3.2.1 hS hL60 ((mwR_ok hok (mw0_ok hok) k_).step hok) (Nat.le_refl L) (by omega) (by omega) b3 (fun μ4 a4 b4 c4 d4 => ?_)) rfl (Nat.le_of_ble_eq_true rfl) (Nat.le_of_ble_eq_true rfl) dX8_bestStart_69
      show V G 7 X 72 [(0, .ref 0), (1, .int (nI 1)), (2, .ref 34), (3, .ref 36), (4, .int m_), (5, .int b_), (6, .int (nI k_))] [] μ4
      have hR4 : RC μ4 P L S κ I := hR3.frame (fun a ha => a4 a (by omega) (by omega))
      have hA4 := hA3.fr (a4 34 (by decide) (by decide)) (a4 35 (by decide) (by decide))
      rw [ins_run (by omega)] at b4
      refine V_iload hX dX8_bestStart_72 5 rfl ?_
      refine V_bipush (v := (-6)) hX dX8_bestStart_74 (by decide) ?_
      refine V_icmp_eq (tgt := 88) hX dX8_bestStart_76 (by decide) (fun c76 => ?_) (fun c76 => ?_)
      · refine V_aload_n hX dX8_bestStart_88 3 rfl ?_
        refine V_callV (As := []) (st := []) hX mX8_165 rfl (k_gained rfl b4 ?_) rfl (Nat.le_of_ble_eq_true rfl) (Nat.le_of_ble_eq_true rfl) dX8_bestStart_89
        rw [gain_st]
        show V G 7 X 92 [(0, .ref 0), (1, .int (nI 1)), (2, .ref 34), (3, .ref 36), (4, .int m_), (5, .int b_), (6, .int (nI k_))] [.int (zI (10000 + stZ P S L k_))] μ4
        refine V_istore (ls' := [(0, .ref 0), (1, .int (nI 1)), (2, .ref 34), (3, .ref 36), (4, .int (zI (10000 + stZ P S L k_))), (5, .int b_), (6, .int (nI k_))]) hX dX8_bestStart_92 (by decide) rfl ?_
        refine V_iload hX dX8_bestStart_94 6 rfl ?_
        refine V_istore (ls' := [(0, .ref 0), (1, .int (nI 1)), (2, .ref 34), (3, .ref 36), (4, .int (zI (10000 + stZ P S L k_))), (5, .int (nI k_)), (6, .int (nI k_))]) hX dX8_bestStart_96 (by decide) rfl ?_
        refine V_aload_n hX dX8_bestStart_98 2 rfl ?_
        refine V_aload_n hX dX8_bestStart_99 0 rfl ?_
        refine V_getr (j := 1) hX fX8_10 rfl rfl dX8_bestStart_100 ?_
        refine V_aload_n hX dX8_bestStart_103 0 rfl ?_
        refine V_getr (j := 31) hX fX8_30 rfl rfl dX8_bestStart_104 ?_
        refine V_iload hX dX8_bestStart_107 6 rfl ?_
        refine V_iload hX dX8_bestStart_109 6 rfl ?_
        refine V_iconst (v := nI 1) hX dX8_bestStart_111 (by decide) ?_
        refine V_iaddN hX dX8_bestStart_112 ?_
        refine V_aload_n hX dX8_bestStart_113 0 rfl ?_
        refine V_getr (j := 31) hX fX8_30 rfl rfl dX8_bestStart_114 ?_
        refine V_getN (x := nI L) hX fX8_128 rfl hR4.2.1.1 dX8_bestStart_117 ?_
        refine V_mmin hX mX8_300 mmin1 mmath2 mmin3 (Nat.le_of_ble_eq_true rfl) dX8_bestStart_120 ?_
        rw [show (if (nI L) < (nI (k_ + 1)) then (nI L) else (nI (k_ + 1))) = nI (min (k_ + 1) L) from minN_I (by omega) (by omega)]
        refine V_callV (As := [.ref 1, .ref 31, .int (nI k_), .int (nI (min (k_ + 1) L))]) (st := []) hX mX8_290 rfl (k_passAll (w_ := 34) (P := P) (n_ := 0 + k_) rfl rfl hR4.1 hok hR4.2.1 hS hL60 (mwR_ok hok (mw0_ok hok) k_) (by omega) (by omega) (by omega) hA4 (fun μ5 a5 b5 c5 d5 => ?_)) rfl (Nat.le_of_ble_eq_true rfl) (Nat.le_of_ble_eq_true rfl) dX8_bestStart_123
        show V G 7 X 126 [(0, .ref 0), (1, .int (nI 1)), (2, .ref 34), (3, .ref 36), (4, .int (zI (10000 + stZ P S L k_))), (5, .int (nI k_)), (6, .int (nI k_))] [] μ5
        have hR5 : RC μ5 P L S κ I := hR4.frame (fun a ha => a5 a (by omega) (by omega))
        have hM5 : keepM μ μ5 := hM1.tr (fun a ha => by rw [a5 a (by omega) (by omega), a4 a (by omega) (by omega), a3 a (by omega) (by omega), a2 a (by omega) (by omega)])
        rw [run_min (by omega)] at b5
        refine V_iincN (n := 1) (ls' := [(0, .ref 0), (1, .int (nI 1)), (2, .ref 34), (3, .ref 36), (4, .int (zI (10000 + stZ P S L k_))), (5, .int (nI k_)), (6, .int (nI (k_ + 1)))]) hX dX8_bestStart_126 6 rfl (by decide) rfl ?_
        refine V_goto (tgt := 23) hX dX8_bestStart_129 (by decide) ?_
        exact ih (k_ + 1) μ5 _ _ (by omega) (by omega) hR5 hM5 b5 (hB.new hf (by omega) (Or.inl c76))
      · refine V_aload_n hX dX8_bestStart_79 3 rfl ?_
        refine V_callV (As := []) (st := []) hX mX8_165 rfl (k_gained rfl b4 ?_) rfl (Nat.le_of_ble_eq_true rfl) (Nat.le_of_ble_eq_true rfl) dX8_bestStart_80
        rw [gain_st]
        show V G 7 X 83 [(0, .ref 0), (1, .int (nI 1)), (2, .ref 34), (3, .ref 36), (4, .int m_), (5, .int b_), (6, .int (nI k_))] [.int (zI (10000 + stZ P S L k_))] μ4
        refine V_iload hX dX8_bestStart_83 4 rfl ?_
        refine V_icmp_le (tgt := 98) hX dX8_bestStart_85 (by decide) (fun c85 => ?_) (fun c85 => ?_)
        · refine V_aload_n hX dX8_bestStart_98 2 rfl ?_
          refine V_aload_n hX dX8_bestStart_99 0 rfl ?_
          refine V_getr (j := 1) hX fX8_10 rfl rfl dX8_bestStart_100 ?_
          refine V_aload_n hX dX8_bestStart_103 0 rfl ?_
          refine V_getr (j := 31) hX fX8_30 rfl rfl dX8_bestStart_104 ?_
          refine V_iload hX dX8_bestStart_107 6 rfl ?_
          refine V_iload hX dX8_bestStart_109 6 rfl ?_
          refine V_iconst (v := nI 1) hX dX8_bestStart_111 (by decide) ?_
          refine V_iaddN hX dX8_bestStart_112 ?_
          refine V_aload_n hX dX8_bestStart_113 0 rfl ?_
          refine V_getr (j := 31) hX fX8_30 rfl rfl dX8_bestStart_114 ?_
          refine V_getN (x := nI L) hX fX8_128 rfl hR4.2.1.1 dX8_bestStart_117 ?_
          refine V_mmin hX mX8_300 mmin1 mmath2 mmin3 (Nat.le_of_ble_eq_true rfl) dX8_bestStart_120 ?_
          rw [show (if (nI L) < (nI (k_ + 1)) then (nI L) else (nI (k_ + 1))) = nI (min (k_ + 1) L) from minN_I (by omega) (by omega)]
          refine V_callV (As := [.ref 1, .ref 31, .int (nI k_), .int (nI (min (k_ + 1) L))]) (st := []) hX mX8_290 rfl (k_passAll (w_ := 34) (P := P) (n_ := 0 + k_) rfl rfl hR4.1 hok hR4.2.1 hS hL60 (mwR_ok hok (mw0_ok hok) k_) (by omega) (by omega) (by omega) hA4 (fun μ5 a5 b5 c5 d5 => ?_)) rfl (Nat.le_of_ble_eq_true rfl) (Nat.le_of_ble_eq_true rfl) dX8_bestStart_123
          show V G 7 X 126 [(0, .ref 0), (1, .int (nI 1)), (2, .ref 34), (3, .ref 36), (4, .int m_), (5, .int b_), (6, .int (nI k_))] [] μ5
          have hR5 : RC μ5 P L S κ I := hR4.frame (fun a ha => a5 a (by omega) (by omega))
          have hM5 : keepM μ μ5 := hM1.tr (fun a ha => by rw [a5 a (by omega) (by omega), a4 a (by omega) (by omega), a3 a (by omega) (by omega), a2 a (by omega) (by omega)])
          rw [run_min (by omega)] at b5
          refine V_iincN (n := 1) (ls' := [(0, .ref 0), (1, .int (nI 1)), (2, .ref 34), (3, .ref 36), (4, .int m_), (5, .int b_), (6, .int (nI (k_ + 1)))]) hX dX8_bestStart_126 6 rfl (by decide) rfl ?_
          refine V_goto (tgt := 23) hX dX8_bestStart_129 (by decide) ?_
          exact ih (k_ + 1) μ5 _ _ (by omega) (by omega) hR5 hM5 b5 (hB.old hf c76 c85)
        · refine V_aload_n hX dX8_bestStart_88 3 rfl ?_
          refine V_callV (As := []) (st := []) hX mX8_165 rfl (k_gained rfl b4 ?_) rfl (Nat.le_of_ble_eq_true rfl) (Nat.le_of_ble_eq_true rfl) dX8_bestStart_89
          rw [gain_st]
          show V G 7 X 92 [(0, .ref 0), (1, .int (nI 1)), (2, .ref 34), (3, .ref 36), (4, .int m_), (5, .int b_), (6, .int (nI k_))] [.int (zI (10000 + stZ P S L k_))] μ4
          refine V_istore (ls' := [(0, .ref 0), (1, .int (nI 1)), (2, .ref 34), (3, .ref 36), (4, .int (zI (10000 + stZ P S L k_))), (5, .int b_), (6, .int (nI k_))]) hX dX8_bestStart_92 (by decide) rfl ?_
          refine V_iload hX dX8_bestStart_94 6 rfl ?_
          refine V_istore (ls' := [(0, .ref 0), (1, .int (nI 1)), (2, .ref 34), (3, .ref 36), (4, .int (zI (10000 + stZ P S L k_))), (5, .int (nI k_)), (6, .int (nI k_))]) hX dX8_bestStart_96 (by decide) rfl ?_
          refine V_aload_n hX dX8_bestStart_98 2 rfl ?_
          refine V_aload_n hX dX8_bestStart_99 0 rfl ?_
          refine V_getr (j := 1) hX fX8_10 rfl rfl dX8_bestStart_100 ?_
          refine V_aload_n hX dX8_bestStart_103 0 rfl ?_
          refine V_getr (j := 31) hX fX8_30 rfl rfl dX8_bestStart_104 ?_
          refine V_iload hX dX8_bestStart_107 6 rfl ?_
          refine V_iload hX dX8_bestStart_109 6 rfl ?_
          refine V_iconst (v := nI 1) hX dX8_bestStart_111 (by decide) ?_
          refine V_iaddN hX dX8_bestStart_112 ?_
          refine V_aload_n hX dX8_bestStart_113 0 rfl ?_
          refine V_getr (j := 31) hX fX8_30 rfl rfl dX8_bestStart_114 ?_
          refine V_getN (x := nI L) hX fX8_128 rfl hR4.2.1.1 dX8_bestStart_117 ?_
          refine V_mmin hX mX8_300 mmin1 mmath2 mmin3 (Nat.le_of_ble_eq_true rfl) dX8_bestStart_120 ?_
          rw [show (if (nI L) < (nI (k_ + 1)) then (nI L) else (nI (k_ + 1))) = nI (min (k_ + 1) L) from minN_I (by omega) (by omega)]
          refine V_callV (As := [.ref 1, .ref 31, .int (nI k_), .int (nI (min (k_ + 1) L))]) (st := []) hX mX8_290 rfl (k_passAll (w_ := 34) (P := P) (n_ := 0 + k_) rfl rfl hR4.1 hok hR4.2.1 hS hL60 (mwR_ok hok (mw0_ok hok) k_) (by omega) (by omega) (by omega) hA4 (fun μ5 a5 b5 c5 d5 => ?_)) rfl (Nat.le_of_ble_eq_true rfl) (Nat.le_of_ble_eq_true rfl) dX8_bestStart_123
          show V G 7 X 126 [(0, .ref 0), (1, .int (nI 1)), (2, .ref 34), (3, .ref 36), (4, .int (zI (10000 + stZ P S L k_))), (5, .int (nI k_)), (6, .int (nI k_))] [] μ5
          have hR5 : RC μ5 P L S κ I := hR4.frame (fun a ha => a5 a (by omega) (by omega))
          have hM5 : keepM μ μ5 := hM1.tr (fun a ha => by rw [a5 a (by omega) (by omega), a4 a (by omega) (by omega), a3 a (by omega) (by omega), a2 a (by omega) (by omega)])
          rw [run_min (by omega)] at b5
          refine V_iincN (n := 1) (ls' := [(0, .ref 0), (1, .int (nI 1)), (2, .ref 34), (3, .ref 36), (4, .int (zI (10000 + stZ P S L k_))), (5, .int (nI k_)), (6, .int (nI (k_ + 1)))]) hX dX8_bestStart_126 6 rfl (by decide) rfl ?_
          refine V_goto (tgt := 23) hX dX8_bestStart_129 (by decide) ?_
          exact ih (k_ + 1) μ5 _ _ (by omega) (by omega) hR5 hM5 b5 (hB.new hf (by omega) (Or.inr c85))
set_option maxRecDepth 100000 in
set_option maxHeartbeats 4000000 in
theorem k_bestStart1 {G : VG} {d : Nat} {μ : VS} {Q : Option Value → VS → Prop} {P : PC} {L : Nat} {S κ : Nat → Nat} {I : Nat → PC} (hRC : RC μ P L S κ I) (hok : okP P) (hpd : okPad L S) (hL59 : L ≤ 59) (hQ : ∀ μ', RC μ' P L S κ I → keepM μ μ' → Q (some (.int (nI (bsP (stZ P S L) L)))) μ') : Call G (d + 6) yX8_bestStart cX8_bestStart 7 (some .int) [.ref 0, .int (nI 1)] μ Q := by
  intro X hX hR
  have hP := hRC.1
  have hL := hRC.2.1
  have hS := hpd.2
  have hL60 := hpd.1
  have hP4 := hok.2.2.2.2.1
  show V G 7 X 0 [(0, .ref 0), (1, .int (nI 1))] [] μ
  refine V_aload_n hX dX8_bestStart_0 0 rfl ?_
  refine V_iconst (v := nI 0) hX dX8_bestStart_1 (by decide) ?_
  refine V_callV (As := [.int (nI 0)]) (st := []) hX mX8_141 rfl (k_goneThrough hP hok hL hS hL60 (by omega) (fun μ2 a2 b2 k2 d2 => ?_)) rfl (Nat.le_of_ble_eq_true rfl) (Nat.le_of_ble_eq_true rfl) dX8_bestStart_2
  show V G 7 X 5 [(0, .ref 0), (1, .int (nI 1))] [.ref 34] μ2
  have hRC2 : RC μ2 P L S κ I := hRC.frame (fun a ha => a2 a (by omega) (by omega))
  have hkM : keepM μ μ2 := fun a ha => a2 a (by omega) (by omega)
  refine V_astore_n (ls' := [(0, .ref 0), (1, .int (nI 1)), (2, .ref 34)]) hX dX8_bestStart_5 (by decide) rfl ?_
  refine V_aload_n hX dX8_bestStart_6 0 rfl ?_
  refine V_getr (j := 33) hX fX8_36 rfl rfl dX8_bestStart_7 ?_
  refine V_iconst (v := nI 1) hX dX8_bestStart_10 (by decide) ?_
  refine V_waldN (r := 36) hX rfl (by omega) (by decide) rfl dX8_bestStart_11 ?_
  refine V_astore_n (ls' := [(0, .ref 0), (1, .int (nI 1)), (2, .ref 34), (3, .ref 36)]) hX dX8_bestStart_12 (by decide) rfl ?_
  refine V_iconst (v := nI 0) hX dX8_bestStart_13 (by decide) ?_
  refine V_istore (ls' := [(0, .ref 0), (1, .int (nI 1)), (2, .ref 34), (3, .ref 36), (4, .int (nI 0))]) hX dX8_bestStart_14 (by decide) rfl ?_
  refine V_bipush (v := (-6)) hX dX8_bestStart_16 (by decide) ?_
  refine V_istore (ls' := [(0, .ref 0), (1, .int (nI 1)), (2, .ref 34), (3, .ref 36), (4, .int (nI 0)), (5, .int (-6))]) hX dX8_bestStart_18 (by decide) rfl ?_
  refine V_iconst (v := nI 0) hX dX8_bestStart_20 (by decide) ?_
  refine V_istore (ls' := [(0, .ref 0), (1, .int (nI 1)), (2, .ref 34), (3, .ref 36), (4, .int (nI 0)), (5, .int (-6)), (6, .int (nI 0))]) hX dX8_bestStart_21 (by decide) rfl ?_
  exact lpC_start1 (μ := μ) hX hR hok hpd hL59 hQ (L + 2) 0 μ2 _ _ (by omega) (by omega) hRC2 hkM (by rw [Nat.zero_min]; exact b2) (Or.inl ⟨rfl, rfl⟩)
set_option maxRecDepth 100000 in
set_option maxHeartbeats 4000000 in
theorem kC_start1 {G : VG} {d : Nat} {μ : VS} {Q : Option Value → VS → Prop} {P : PC} {L : Nat} {S κ : Nat → Nat} {I : Nat → PC} (hRC : RC μ P L S κ I) (hok : okP P) (hpd : okPad L S) (hQ : ∀ μ', RC μ' P L S κ I → keepM μ μ' → Q (some (.int (startS P L S (nI 1)))) μ') : Call G (d + 7) yX8_start cX8_start 2 (some .int) [.ref 0, .int (nI 1)] μ Q := by
  intro X hX hR
  have hP := hRC.1
  have hL := hRC.2.1
  have hS := hpd.2
  have hL60 := hpd.1
  have hP4 := hok.2.2.2.2.1
  show V G 2 X 0 [(0, .ref 0), (1, .int (nI 1))] [] μ
  refine V_iload_n hX dX8_start_0 1 rfl ?_
  refine V_iconst (v := nI 0) hX dX8_start_1 (by decide) ?_
  refine V_iconst (v := nI 1) hX dX8_start_2 (by decide) ?_
  refine V_callS (As := [.int (nI 1), .int (nI 0), .int (nI 1)]) (st := []) hX mX8_73 (k_isOutside ?_) rfl (Nat.le_of_ble_eq_true rfl) (Nat.le_of_ble_eq_true rfl) dX8_start_3
  show V G 2 X 6 [(0, .ref 0), (1, .int (nI 1))] [.int (bI (nI 1 < nI 0 ∨ nI 1 < nI 1))] μ
  refine V_if_eqB (tgt := 12) hX dX8_start_6 (by decide) (fun c6 => ?_) (fun c6 => ?_)
  · refine V_aload_n hX dX8_start_12 0 rfl ?_
    refine V_getr (j := 31) hX fX8_30 rfl rfl dX8_start_13 ?_
    refine V_callV (As := []) (st := []) hX mX8_137 rfl (kC_hasFault hL hS hL60 ?_) rfl (Nat.le_of_ble_eq_true rfl) (Nat.le_of_ble_eq_true rfl) dX8_start_16
    show V G 2 X 19 [(0, .ref 0), (1, .int (nI 1))] [.int (bI (¬ fltU S L = -6))] μ
    refine V_if_eqB (tgt := 25) hX dX8_start_19 (by decide) (fun c19 => ?_) (fun c19 => ?_)
    · refine V_aload_n hX dX8_start_25 0 rfl ?_
      refine V_getr (j := 31) hX fX8_30 rfl rfl dX8_start_26 ?_
      refine V_getN (x := nI L) hX fX8_128 rfl hL.1 dX8_start_29 ?_
      refine V_bipush (v := nI 60) hX dX8_start_32 (by decide) ?_
      refine V_icmp_ltN (tgt := 42) hX dX8_start_34 (by decide) (by omega) (by omega) (fun c34 => ?_) (fun c34 => ?_)
      · refine V_aload_n hX dX8_start_42 0 rfl ?_
        refine V_iload_n hX dX8_start_43 1 rfl ?_
        refine V_iconst (v := nI 1) hX dX8_start_44 (by decide) ?_
        refine V_icmp_neN (tgt := 52) hX dX8_start_45 (by decide) (by omega) (by omega) (fun c45 => ?_) (fun c45 => ?_)
        · exact absurd c45 (by decide)
        · refine V_iconst (v := nI 1) hX dX8_start_48 (by decide) ?_
          refine V_goto (tgt := 53) hX dX8_start_49 (by decide) ?_
          refine V_callV (As := [.int (nI 1)]) (st := []) hX mX8_182 rfl (k_bestStart1 hRC hok hpd (by omega) (fun μ2 hRC2 hkM => ?_)) rfl (Nat.le_of_ble_eq_true rfl) (Nat.le_of_ble_eq_true rfl) dX8_start_53
          show V G 2 X 56 [(0, .ref 0), (1, .int (nI 1))] [.int (nI (bsP (stZ P S L) L))] μ2
          refine V_iret hX rfl dX8_start_56 ?_
          have h9 := hQ μ2
          rw [show startS P L S (nI 1) = nI (bsP (stZ P S L) L) from (if_pos (in_of_not_out c6)).trans ((if_pos (Decidable.not_not.mp c19)).trans ((if_neg (by omega)).trans (if_neg (by rw [nI_clamp (by decide)]; decide))))] at h9
          exact hR _ _ (h9 hRC2 hkM)
      · refine V_bipush (v := (-4)) hX dX8_start_37 (by decide) ?_
        refine V_goto (tgt := 56) hX dX8_start_39 (by decide) ?_
        refine V_iret hX rfl dX8_start_56 ?_
        have h9 := hQ μ
        rw [show startS P L S (nI 1) = -4 from (if_pos (in_of_not_out c6)).trans ((if_pos (Decidable.not_not.mp c19)).trans (if_pos (by omega)))] at h9
        exact hR _ _ (h9 hRC (keepM.rf μ))
    · refine V_bipush (v := (-5)) hX dX8_start_22 (by decide) ?_
      refine V_iret hX rfl dX8_start_24 ?_
      have h9 := hQ μ
      rw [show startS P L S (nI 1) = -5 from (if_pos (in_of_not_out c6)).trans (if_neg c19)] at h9
      exact hR _ _ (h9 hRC (keepM.rf μ))
  · refine V_bipush (v := (-2)) hX dX8_start_9 (by decide) ?_
    refine V_iret hX rfl dX8_start_11 ?_
    exact absurd c6 (by decide)
set_option maxRecDepth 100000 in
set_option maxHeartbeats 4000000 in
theorem kC_start2 {G : VG} {d : Nat} {μ : VS} {Q : Option Value → VS → Prop} {P : PC} {L : Nat} {S κ : Nat → Nat} {I : Nat → PC} {w_ : Int32} (hw : ¬ inZ w_ 0 1) (hRC : RC μ P L S κ I) (hok : okP P) (hpd : okPad L S) (hQ : ∀ μ', RC μ' P L S κ I → keepM μ μ' → Q (some (.int (startS P L S w_))) μ') : Call G (d + 7) yX8_start cX8_start 2 (some .int) [.ref 0, .int w_] μ Q := by
  intro X hX hR
  have hP := hRC.1
  have hL := hRC.2.1
  have hS := hpd.2
  have hL60 := hpd.1
  have hP4 := hok.2.2.2.2.1
  show V G 2 X 0 [(0, .ref 0), (1, .int w_)] [] μ
  refine V_iload_n hX dX8_start_0 1 rfl ?_
  refine V_iconst (v := nI 0) hX dX8_start_1 (by decide) ?_
  refine V_iconst (v := nI 1) hX dX8_start_2 (by decide) ?_
  refine V_callS (As := [.int w_, .int (nI 0), .int (nI 1)]) (st := []) hX mX8_73 (k_isOutside ?_) rfl (Nat.le_of_ble_eq_true rfl) (Nat.le_of_ble_eq_true rfl) dX8_start_3
  show V G 2 X 6 [(0, .ref 0), (1, .int w_)] [.int (bI (w_ < nI 0 ∨ nI 1 < w_))] μ
  refine V_if_eqB (tgt := 12) hX dX8_start_6 (by decide) (fun c6 => ?_) (fun c6 => ?_)
  · exact absurd (in_of_not_out c6) hw
  · refine V_bipush (v := (-2)) hX dX8_start_9 (by decide) ?_
    refine V_iret hX rfl dX8_start_11 ?_
    have h9 := hQ μ
    rw [show startS P L S w_ = -2 from if_neg hw] at h9
    exact hR _ _ (h9 hRC (keepM.rf μ))
theorem kC_start {G : VG} {d : Nat} {μ : VS} {Q : Option Value → VS → Prop} {P : PC} {L : Nat} {S κ : Nat → Nat} {I : Nat → PC} {w_ : Int32} (hRC : RC μ P L S κ I) (hok : okP P) (hpd : okPad L S)  (hQ : ∀ μ', RC μ' P L S κ I → keepM μ μ' → Q (some (.int (startS P L S w_))) μ') : Call G (d + 7) yX8_start cX8_start 2 (some .int) [.ref 0, .int w_] μ Q := by
  by_cases hw : inZ w_ 0 1
  · obtain ⟨j, -, hj, rfl⟩ := nat_of_in (by decide) (by decide) hw
    rcases (by omega : j = 0 ∨ j = 1) with e | e <;> subst e
    · exact kC_start0 hRC hok hpd hQ
    · exact kC_start1 hRC hok hpd hQ
  · exact kC_start2 hw hRC hok hpd hQ
set_option maxRecDepth 100000 in
set_option maxHeartbeats 4000000 in
theorem lpM_start1 {G : VG} {d : Nat} {μ : VS} {X : VX} {L k_ b_ : Nat} {S : Nat → Nat} {m_ f_ : Int32} (hX : Cx G (d + 4) yX9_start cX9_start 6 (some .int) X) (hpM : isPadM μ L S) (hL59 : L ≤ 59) (hk : k_ ≤ L) (hF : ∀ μ1 : VS, (∀ a, a ≠ 76 → μ1.1 a = μ.1 a) ∧ (∀ i, i ≤ k_ → i < L → μ1.1 76 i = nI (S i)) ∧ (∀ i, k_ < i → i ≤ L → μ1.1 76 i = nI (S (i - 1))) ∧ μ1.2 = μ.2 → V G 6 X 100 [(0, .ref 69), (1, .int (nI b_)), (2, .int m_), (3, .int f_), (4, .int (nI k_)), (5, .int (nI k_))] [] μ1) : ∀ (e_ : Nat) (μ1 : VS), k_ + e_ ≤ L → (∀ a, a ≠ 76 → μ1.1 a = μ.1 a) ∧ (∀ i, i ≤ (k_ + e_) → i < L → μ1.1 76 i = nI (S i)) ∧ (∀ i, (k_ + e_) < i → i ≤ L → μ1.1 76 i = nI (S (i - 1))) ∧ μ1.2 = μ.2 → V G 6 X 71 [(0, .ref 69), (1, .int (nI b_)), (2, .int m_), (3, .int f_), (4, .int (nI k_)), (5, .int (nI (k_ + e_)))] [] μ1 := by
  intro e_
  induction e_ with
  | zero =>
    intro μ1 h1 hV
    refine V_iload hX dX9_start_71 5 rfl ?_
    refine V_iload hX dX9_start_73 4 rfl ?_
    refine V_icmp_leN (tgt := 100) hX dX9_start_75 (by decide) (by omega) (by omega) (fun c75 => ?_) (fun c75 => ?_)
    · exact hF μ1 hV
    · exact absurd c75 (by omega)
  | succ e_ ih =>
    intro μ1 h1 hV
    refine V_iload hX dX9_start_71 5 rfl ?_
    refine V_iload hX dX9_start_73 4 rfl ?_
    refine V_icmp_leN (tgt := 100) hX dX9_start_75 (by decide) (by omega) (by omega) (fun c75 => ?_) (fun c75 => ?_)
    · exact absurd c75 (by omega)
    · refine V_aload_n hX dX9_start_78 0 rfl ?_
      refine V_getr (j := 76) hX fX9_38 rfl rfl dX9_start_79 ?_
      refine V_iload hX dX9_start_82 5 rfl ?_
      refine V_aload_n hX dX9_start_84 0 rfl ?_
      refine V_getr (j := 75) hX fX9_35 rfl rfl dX9_start_85 ?_
      refine V_iload hX dX9_start_88 5 rfl ?_
      refine V_iconst (v := nI 1) hX dX9_start_90 (by decide) ?_
      refine V_isubN hX dX9_start_91 (by omega) ?_
      refine V_ialdN (x := nI (S ((k_ + e_ + 1) - 1))) hX rfl (by omega) (by decide) (by rw [hV.1 75 (by decide)]; exact hpM.2 _ (by omega)) dX9_start_92 ?_
      refine V_iastN hX rfl (by omega) (by decide) dX9_start_93 ?_
      show V G 6 X 94 [(0, .ref 69), (1, .int (nI b_)), (2, .int m_), (3, .int f_), (4, .int (nI k_)), (5, .int (nI (k_ + e_ + 1)))] [] (vup μ1.1 76 (k_ + e_ + 1) (nI (S ((k_ + e_ + 1) - 1))), μ1.2)
      refine V_iinc (v := -1) (ls' := [(0, .ref 69), (1, .int (nI b_)), (2, .int m_), (3, .int f_), (4, .int (nI k_)), (5, .int ((nI (k_ + e_ + 1)) + (-1)))]) hX dX9_start_94 5 rfl (by decide) (by decide) rfl ?_
      refine V_goto (tgt := 71) hX dX9_start_97 (by decide) ?_
      refine V_ls (ls' := [(0, .ref 69), (1, .int (nI b_)), (2, .int m_), (3, .int f_), (4, .int (nI k_)), (5, .int (nI (k_ + e_)))]) (by rw [nI_dec]) ?_
      refine ih _ (by omega) ⟨fun a ha => ?_, fun i h1 h2 => ?_, fun i h1 h2 => ?_, hV.2.2.2⟩
      · dsimp only; rw [vup_row _ _ _ ha]; exact hV.1 a ha
      · dsimp only; rw [vup_ne (by omega)]; exact hV.2.1 i (by omega) h2
      · dsimp only
        rw [vup_get]
        by_cases e : i = k_ + e_ + 1
        · rw [if_pos ⟨rfl, e⟩, e]
        · rw [if_neg (by omega)]; exact hV.2.2.1 i (by omega) h2
set_option maxRecDepth 100000 in
set_option maxHeartbeats 4000000 in
theorem lpM_start20 {G : VG} {d : Nat} {μ : VS} {Q : Option Value → VS → Prop} {X : VX} {P : PC} {L : Nat} {S κ : Nat → Nat} {I : Nat → PC} (hX : Cx G (d + 6) yX9_start cX9_start 6 (some .int) X) (hR : ∀ r μ', Q r μ' → Ret G X r μ') (hok : okP P) (hpd : okPad L S) (hL59 : L ≤ 59) (hQ : ∀ μ', RM μ' P L S κ I → keepC μ μ' → Q (some (.int (zI (10000 + stZ P S L (bsP (stZ P S L) L))))) μ') : ∀ (j k_ : Nat) (μ0 : VS) (m_ f_ : Int32), k_ ≤ L + 1 → L + 2 ≤ k_ + j → RM μ0 P L S κ I → keepC μ μ0 → stM (stZ P S L) k_ m_ f_ → V G 6 X 42 [(0, .ref 69), (1, .int (nI 0)), (2, .int m_), (3, .int f_), (4, .int (nI k_))] [] μ0 := by
  have hL60 := hpd.1
  have hS := hpd.2
  have hf := fun i => stZ_bd (S := S) hok.2.2.1 hL60 i
  intro j
  induction j with
  | zero =>
    intro k_ μ0 m_ f_ h1 h2
    exact absurd h2 (by omega)
  | succ j ih =>
    intro k_ μ0 m_ f_ h1 h2 hR0 hC0 hB
    refine V_iload hX dX9_start_42 4 rfl ?_
    refine V_aload_n hX dX9_start_44 0 rfl ?_
    refine V_getN (x := nI L) hX fX9_103 rfl hR0.2.1.1 dX9_start_45 ?_
    refine V_icmp_gtN (tgt := 147) hX dX9_start_48 (by decide) (by omega) (by omega) (fun c48 => ?_) (fun c48 => ?_)
    · refine V_iload_n hX dX9_start_147 1 rfl ?_
      refine V_if_neN (tgt := 159) hX dX9_start_148 (by decide) (by omega) (fun c148 => ?_) (fun c148 => ?_)
      · exact absurd c148 (by decide)
      · refine V_iload_n hX dX9_start_151 2 rfl ?_
        refine V_sipush (v := nI 10000) hX dX9_start_152 (by decide) ?_
        refine V_iadd hX dX9_start_155 ?_
        refine V_goto (tgt := 160) hX dX9_start_156 (by decide) ?_
        refine V_iret hX rfl dX9_start_160 ?_
        obtain rfl : k_ = L + 1 := by omega
        rcases hB with ⟨z, -⟩ | ⟨-, h2, h3⟩
        · exact absurd z (by omega)
        · rw [Nat.add_sub_cancel] at h2 h3
          exact hR _ _ (by rw [h3, zI_nat, zI_add, Int.add_comm]; exact hQ μ0 hR0 hC0)
    · refine V_aload_n hX dX9_start_51 0 rfl ?_
      refine V_callV (As := []) (st := []) hX mX9_160 rfl (kM_lay hR0.1 hR0.2.1 hL60 (fun μ1 hLy hK1 => ?_)) rfl (Nat.le_of_ble_eq_true rfl) (Nat.le_of_ble_eq_true rfl) dX9_start_52
      show V G 6 X 55 [(0, .ref 69), (1, .int (nI 0)), (2, .int m_), (3, .int f_), (4, .int (nI k_))] [] μ1
      have hR1 := hR0.keep hK1
      refine V_aload_n hX dX9_start_55 0 rfl ?_
      refine V_aload_n hX dX9_start_56 0 rfl ?_
      refine V_getN (x := nI L) hX fX9_103 rfl hR1.2.1.1 dX9_start_57 ?_
      refine V_iconst (v := nI 1) hX dX9_start_60 (by decide) ?_
      refine V_iaddN hX dX9_start_61 ?_
      refine V_puti hX fX9_113 fw_8_15 rfl dX9_start_62 ?_
      show V G 6 X 65 [(0, .ref 69), (1, .int (nI 0)), (2, .int m_), (3, .int f_), (4, .int (nI k_))] [] (vup μ1.1 69 15 (nI (L + 1)), μ1.2)
      have hKa : mKeep μ1 (vup μ1.1 69 15 (nI (L + 1)), μ1.2) := mKeep.put (a := 69) (k := 15) (x := nI (L + 1)) (Or.inr (by decide))
      have hRa := hR1.keep hKa
      refine V_aload_n hX dX9_start_65 0 rfl ?_
      refine V_getN (x := nI L) hX fX9_103 rfl hRa.2.1.1 dX9_start_66 ?_
      refine V_istore (ls' := [(0, .ref 69), (1, .int (nI 0)), (2, .int m_), (3, .int f_), (4, .int (nI k_)), (5, .int (nI L))]) hX dX9_start_69 (by decide) rfl ?_
      have h70 := lpM_start1 (μ := (vup μ1.1 69 15 (nI (L + 1)), μ1.2)) (b_ := 0) (m_ := m_) (f_ := f_) hX hRa.2.1 hL59 (show k_ ≤ L by omega) (fun μ2 hV => ?_) (L - k_) _ (by omega) ⟨fun _ _ => rfl, fun i _ h2 => hLy.2.2.1 i h2, fun i h1 h2 => absurd h1 (by omega), rfl⟩
      · rw [show k_ + (L - k_) = L by omega] at h70
        exact h70
      have hKb : mKeep (vup μ1.1 69 15 (nI (L + 1)), μ1.2) μ2 := ⟨fun a k hk => by rw [hV.1 a (by intro e; subst e; exact hk (Or.inl (by decide)))], hV.2.2.2⟩
      have hR2 := hRa.keep hKb
      have hE2 : isE μ2 P := ⟨⟨by rw [hV.1 69 (by decide)]; exact hLy.1.1.1, by rw [hV.1 69 (by decide)]; exact hLy.1.1.2.1, by rw [hV.1 69 (by decide)]; exact hLy.1.1.2.2.1, by rw [hV.1 69 (by decide)]; exact hLy.1.1.2.2.2.1, by rw [hV.1 69 (by decide)]; exact hLy.1.1.2.2.2.2⟩, by rw [hV.1 77 (by decide)]; exact hLy.1.2.1, by rw [hV.1 71 (by decide)]; exact hLy.1.2.2.1, by rw [hV.1 72 (by decide)]; exact hLy.1.2.2.2.1, by rw [hV.1 73 (by decide)]; exact hLy.1.2.2.2.2⟩
      refine V_aload_n hX dX9_start_100 0 rfl ?_
      refine V_getr (j := 76) hX fX9_38 rfl rfl dX9_start_101 ?_
      refine V_iload hX dX9_start_104 4 rfl ?_
      refine V_bipush (v := nI 115) hX dX9_start_106 (by decide) ?_
      refine V_iastN hX rfl (by omega) (by decide) dX9_start_108 ?_
      show V G 6 X 109 [(0, .ref 69), (1, .int (nI 0)), (2, .int m_), (3, .int f_), (4, .int (nI k_)), (5, .int (nI k_))] [] (vup μ2.1 76 k_ (nI 115), μ2.2)
      have hKc : mKeep μ2 (vup μ2.1 76 k_ (nI 115), μ2.2) := mKeep.put (a := 76) (k := k_) (x := nI 115) (Or.inl (by decide))
      have hRc := hR2.keep hKc
      have hEc : isE (vup μ2.1 76 k_ (nI 115), μ2.2) P := hE2
      have hlenc : ((vup μ2.1 76 k_ (nI 115), μ2.2) : VS).1 69 15 = nI (L + 1) := by show μ2.1 69 15 = _; rw [hV.1 69 (by decide)]; rfl
      have hcm : ((vup μ2.1 76 k_ (nI 115), μ2.2) : VS).1 69 19 = nI 0 := by show μ2.1 69 19 = _; rw [hV.1 69 (by decide)]; exact hLy.2.2.2
      have hserc : ∀ i, i < L + 1 → ((vup μ2.1 76 k_ (nI 115), μ2.2) : VS).1 76 i = nI (insS S k_ 115 i) := fun i hi => by
        dsimp only
        rw [vup_get]
        unfold insS
        by_cases e : i = k_
        · rw [if_pos ⟨rfl, e⟩, if_neg (by omega), if_pos e]
        · rw [if_neg (by omega)]
          by_cases e2 : i < k_
          · rw [if_pos e2]; exact hV.2.1 i (by omega) (by omega)
          · rw [if_neg e2, if_neg e]; exact hV.2.2.1 i (by omega) (by omega)
      have hsgc : ∀ i, i < L + 1 → insS S k_ 115 i < 1000 := fun i hi => by
        unfold insS
        by_cases e2 : i < k_
        · rw [if_pos e2]; have := hS i (by omega); omega
        · rw [if_neg e2]
          by_cases e : i = k_
          · rw [if_pos e]; decide
          · rw [if_neg e]; have := hS (i - 1) (by omega); omega
      refine V_aload_n hX dX9_start_109 0 rfl ?_
      refine V_callV (As := []) (st := []) hX mX9_169 rfl (kM_gainOf (E := P) (sg_ := insS S k_ 115) (cb_ := noC) (cm_ := 0) (M_ := L + 1) hlenc hEc hok hcm (by omega) hserc hsgc (fun i _ => Or.inr ⟨rfl, rfl⟩) (fun μ3 hq => ?_)) rfl (Nat.le_of_ble_eq_true rfl) (Nat.le_of_ble_eq_true rfl) dX9_start_110
      rw [zdiff]
      show V G 6 X 113 [(0, .ref 69), (1, .int (nI 0)), (2, .int m_), (3, .int f_), (4, .int (nI k_)), (5, .int (nI k_))] [.int (zI (stZ P S L k_))] μ3
      have hR3 := hRc.keep hq.1.keep
      have hC3 : keepC μ μ3 := hC0.tr ((((hK1.tr hKa).tr hKb).tr hKc).tr hq.1.keep).C
      refine V_istore (ls' := [(0, .ref 69), (1, .int (nI 0)), (2, .int m_), (3, .int f_), (4, .int (nI k_)), (5, .int (zI (stZ P S L k_)))]) hX dX9_start_113 (by decide) rfl ?_
      refine V_iload hX dX9_start_115 5 rfl ?_
      refine V_iload_n hX dX9_start_117 2 rfl ?_
      refine V_icmp_le (tgt := 126) hX dX9_start_118 (by decide) (fun c118 => ?_) (fun c118 => ?_)
      · refine V_iload_n hX dX9_start_126 3 rfl ?_
        refine V_istore_n (ls' := [(0, .ref 69), (1, .int (nI 0)), (2, .int m_), (3, .int f_), (4, .int (nI k_)), (5, .int (zI (stZ P S L k_)))]) hX dX9_start_127 (by decide) rfl ?_
        refine V_iload hX dX9_start_128 5 rfl ?_
        refine V_iload_n hX dX9_start_130 2 rfl ?_
        refine V_icmp_le (tgt := 139) hX dX9_start_131 (by decide) (fun c131 => ?_) (fun c131 => ?_)
        · refine V_iload_n hX dX9_start_139 2 rfl ?_
          refine V_istore_n (ls' := [(0, .ref 69), (1, .int (nI 0)), (2, .int m_), (3, .int f_), (4, .int (nI k_)), (5, .int (zI (stZ P S L k_)))]) hX dX9_start_140 (by decide) rfl ?_
          refine V_iincN (n := 1) (ls' := [(0, .ref 69), (1, .int (nI 0)), (2, .int m_), (3, .int f_), (4, .int (nI (k_ + 1))), (5, .int (zI (stZ P S L k_)))]) hX dX9_start_141 4 rfl (by decide) rfl ?_
          refine V_goto (tgt := 42) hX dX9_start_144 (by decide) ?_
          exact V_sub [0, 1, 2, 3, 4] rfl (ih (k_ + 1) μ3 _ _ (by omega) (by omega) hR3 hC3 (hB.old hf (fun z => Int32.not_lt.mpr c118 z)))
        · exact absurd c118 c131
      · refine V_iload hX dX9_start_121 4 rfl ?_
        refine V_goto (tgt := 127) hX dX9_start_123 (by decide) ?_
        refine V_istore_n (ls' := [(0, .ref 69), (1, .int (nI 0)), (2, .int m_), (3, .int (nI k_)), (4, .int (nI k_)), (5, .int (zI (stZ P S L k_)))]) hX dX9_start_127 (by decide) rfl ?_
        refine V_iload hX dX9_start_128 5 rfl ?_
        refine V_iload_n hX dX9_start_130 2 rfl ?_
        refine V_icmp_le (tgt := 139) hX dX9_start_131 (by decide) (fun c131 => ?_) (fun c131 => ?_)
        · exact absurd c131 c118
        · refine V_iload hX dX9_start_134 5 rfl ?_
          refine V_goto (tgt := 140) hX dX9_start_136 (by decide) ?_
          refine V_istore_n (ls' := [(0, .ref 69), (1, .int (nI 0)), (2, .int (zI (stZ P S L k_))), (3, .int (nI k_)), (4, .int (nI k_)), (5, .int (zI (stZ P S L k_)))]) hX dX9_start_140 (by decide) rfl ?_
          refine V_iincN (n := 1) (ls' := [(0, .ref 69), (1, .int (nI 0)), (2, .int (zI (stZ P S L k_))), (3, .int (nI k_)), (4, .int (nI (k_ + 1))), (5, .int (zI (stZ P S L k_)))]) hX dX9_start_141 4 rfl (by decide) rfl ?_
          refine V_goto (tgt := 42) hX dX9_start_144 (by decide) ?_
          exact V_sub [0, 1, 2, 3, 4] rfl (ih (k_ + 1) μ3 _ _ (by omega) (by omega) hR3 hC3 (hB.new hf (Int32.not_le.mp c118)))
set_option maxRecDepth 100000 in
set_option maxHeartbeats 4000000 in
theorem kM_start0 {G : VG} {d : Nat} {μ : VS} {Q : Option Value → VS → Prop} {P : PC} {L : Nat} {S κ : Nat → Nat} {I : Nat → PC} (hRM : RM μ P L S κ I) (hok : okP P) (hpd : okPad L S) (hQ : ∀ μ', RM μ' P L S κ I → keepC μ μ' → Q (some (.int (startS P L S (nI 0)))) μ') : Call G (d + 7) yX9_start cX9_start 6 (some .int) [.ref 69, .int (nI 0)] μ Q := by
  intro X hX hR
  have hM := hRM.1
  have hL := hRM.2.1
  have hS := hpd.2
  have hL60 := hpd.1
  have hP4 := hok.2.2.2.2.1
  have h4 := hP4
  show V G 6 X 0 [(0, .ref 69), (1, .int (nI 0))] [] μ
  refine V_iload_n hX dX9_start_0 1 rfl ?_
  refine V_iconst (v := nI 0) hX dX9_start_1 (by decide) ?_
  refine V_iconst (v := nI 1) hX dX9_start_2 (by decide) ?_
  refine V_callS (As := [.int (nI 0), .int (nI 0), .int (nI 1)]) (st := []) hX mX9_75 (k_in ?_) rfl (Nat.le_of_ble_eq_true rfl) (Nat.le_of_ble_eq_true rfl) dX9_start_3
  show V G 6 X 6 [(0, .ref 69), (1, .int (nI 0))] [.int (bI (nI 0 ≤ nI 0 ∧ nI 0 ≤ nI 1))] μ
  refine V_if_neB (tgt := 12) hX dX9_start_6 (by decide) (fun c6 => ?_) (fun c6 => ?_)
  · refine V_aload_n hX dX9_start_12 0 rfl ?_
    refine V_callV (As := []) (st := []) hX mX9_109 rfl (kM_faultOf hL hS hL60 ?_) rfl (Nat.le_of_ble_eq_true rfl) (Nat.le_of_ble_eq_true rfl) dX9_start_13
    show V G 6 X 16 [(0, .ref 69), (1, .int (nI 0))] [.int (fltU S L)] μ
    refine V_if_lt (tgt := 22) hX dX9_start_16 (by decide) (fun c16 => ?_) (fun c16 => ?_)
    · refine V_aload_n hX dX9_start_22 0 rfl ?_
      refine V_getN (x := nI L) hX fX9_103 rfl hL.1 dX9_start_23 ?_
      refine V_bipush (v := nI 59) hX dX9_start_26 (by decide) ?_
      refine V_icmp_leN (tgt := 34) hX dX9_start_28 (by decide) (by omega) (by omega) (fun c28 => ?_) (fun c28 => ?_)
      · refine V_ldc hX kX9_184 dX9_start_34 ?_
        refine V_istore_n (ls' := [(0, .ref 69), (1, .int (nI 0)), (2, .int (-1000000 : Int32))]) hX dX9_start_36 (by decide) rfl ?_
        refine V_iconst (v := nI 0) hX dX9_start_37 (by decide) ?_
        refine V_istore_n (ls' := [(0, .ref 69), (1, .int (nI 0)), (2, .int (-1000000 : Int32)), (3, .int (nI 0))]) hX dX9_start_38 (by decide) rfl ?_
        refine V_iconst (v := nI 0) hX dX9_start_39 (by decide) ?_
        refine V_istore (ls' := [(0, .ref 69), (1, .int (nI 0)), (2, .int (-1000000 : Int32)), (3, .int (nI 0)), (4, .int (nI 0))]) hX dX9_start_40 (by decide) rfl ?_
        refine lpM_start20 (μ := μ) hX hR hok hpd (by omega) (fun μ' z1 z2 => ?_) (L + 2) 0 μ _ _ (by omega) (by omega) hRM (keepC.rf μ) (Or.inl ⟨rfl, rfl⟩)
        have h9 := hQ μ' z1 z2
        rw [show startS P L S (nI 0) = zI (10000 + stZ P S L (bsP (stZ P S L) L)) from (if_pos c6).trans ((if_pos (flt_neg L (by omega) c16)).trans ((if_neg (by omega)).trans (if_pos (nI_clamp (by decide)))))] at h9
        exact h9
      · refine V_bipush (v := (-4)) hX dX9_start_31 (by decide) ?_
        refine V_iret hX rfl dX9_start_33 ?_
        have h9 := hQ μ
        rw [show startS P L S (nI 0) = -4 from (if_pos c6).trans ((if_pos (flt_neg L (by omega) c16)).trans (if_pos (by omega)))] at h9
        exact hR _ _ (h9 hRM (keepC.rf μ))
    · refine V_bipush (v := (-5)) hX dX9_start_19 (by decide) ?_
      refine V_iret hX rfl dX9_start_21 ?_
      have h9 := hQ μ
      rw [show startS P L S (nI 0) = -5 from (if_pos c6).trans (if_neg (flt_ge hL60 c16))] at h9
      exact hR _ _ (h9 hRM (keepC.rf μ))
  · refine V_bipush (v := (-2)) hX dX9_start_9 (by decide) ?_
    refine V_iret hX rfl dX9_start_11 ?_
    exact absurd (by decide) c6
set_option maxRecDepth 100000 in
set_option maxHeartbeats 4000000 in
theorem lpM_start21 {G : VG} {d : Nat} {μ : VS} {Q : Option Value → VS → Prop} {X : VX} {P : PC} {L : Nat} {S κ : Nat → Nat} {I : Nat → PC} (hX : Cx G (d + 6) yX9_start cX9_start 6 (some .int) X) (hR : ∀ r μ', Q r μ' → Ret G X r μ') (hok : okP P) (hpd : okPad L S) (hL59 : L ≤ 59) (hQ : ∀ μ', RM μ' P L S κ I → keepC μ μ' → Q (some (.int (nI (bsP (stZ P S L) L)))) μ') : ∀ (j k_ : Nat) (μ0 : VS) (m_ f_ : Int32), k_ ≤ L + 1 → L + 2 ≤ k_ + j → RM μ0 P L S κ I → keepC μ μ0 → stM (stZ P S L) k_ m_ f_ → V G 6 X 42 [(0, .ref 69), (1, .int (nI 1)), (2, .int m_), (3, .int f_), (4, .int (nI k_))] [] μ0 := by
  have hL60 := hpd.1
  have hS := hpd.2
  have hf := fun i => stZ_bd (S := S) hok.2.2.1 hL60 i
  intro j
  induction j with
  | zero =>
    intro k_ μ0 m_ f_ h1 h2
    exact absurd h2 (by omega)
  | succ j ih =>
    intro k_ μ0 m_ f_ h1 h2 hR0 hC0 hB
    refine V_iload hX dX9_start_42 4 rfl ?_
    refine V_aload_n hX dX9_start_44 0 rfl ?_
    refine V_getN (x := nI L) hX fX9_103 rfl hR0.2.1.1 dX9_start_45 ?_
    refine V_icmp_gtN (tgt := 147) hX dX9_start_48 (by decide) (by omega) (by omega) (fun c48 => ?_) (fun c48 => ?_)
    · refine V_iload_n hX dX9_start_147 1 rfl ?_
      refine V_if_neN (tgt := 159) hX dX9_start_148 (by decide) (by omega) (fun c148 => ?_) (fun c148 => ?_)
      · refine V_iload_n hX dX9_start_159 3 rfl ?_
        refine V_iret hX rfl dX9_start_160 ?_
        obtain rfl : k_ = L + 1 := by omega
        rcases hB with ⟨z, -⟩ | ⟨-, h2, h3⟩
        · exact absurd z (by omega)
        · rw [Nat.add_sub_cancel] at h2 h3
          exact hR _ _ (by rw [h2]; exact hQ μ0 hR0 hC0)
      · exact absurd c148 (by decide)
    · refine V_aload_n hX dX9_start_51 0 rfl ?_
      refine V_callV (As := []) (st := []) hX mX9_160 rfl (kM_lay hR0.1 hR0.2.1 hL60 (fun μ1 hLy hK1 => ?_)) rfl (Nat.le_of_ble_eq_true rfl) (Nat.le_of_ble_eq_true rfl) dX9_start_52
      show V G 6 X 55 [(0, .ref 69), (1, .int (nI 1)), (2, .int m_), (3, .int f_), (4, .int (nI k_))] [] μ1
      have hR1 := hR0.keep hK1
      refine V_aload_n hX dX9_start_55 0 rfl ?_
      refine V_aload_n hX dX9_start_56 0 rfl ?_
      refine V_getN (x := nI L) hX fX9_103 rfl hR1.2.1.1 dX9_start_57 ?_
      refine V_iconst (v := nI 1) hX dX9_start_60 (by decide) ?_
      refine V_iaddN hX dX9_start_61 ?_
      refine V_puti hX fX9_113 fw_8_15 rfl dX9_start_62 ?_
      show V G 6 X 65 [(0, .ref 69), (1, .int (nI 1)), (2, .int m_), (3, .int f_), (4, .int (nI k_))] [] (vup μ1.1 69 15 (nI (L + 1)), μ1.2)
      have hKa : mKeep μ1 (vup μ1.1 69 15 (nI (L + 1)), μ1.2) := mKeep.put (a := 69) (k := 15) (x := nI (L + 1)) (Or.inr (by decide))
      have hRa := hR1.keep hKa
      refine V_aload_n hX dX9_start_65 0 rfl ?_
      refine V_getN (x := nI L) hX fX9_103 rfl hRa.2.1.1 dX9_start_66 ?_
      refine V_istore (ls' := [(0, .ref 69), (1, .int (nI 1)), (2, .int m_), (3, .int f_), (4, .int (nI k_)), (5, .int (nI L))]) hX dX9_start_69 (by decide) rfl ?_
      have h70 := lpM_start1 (μ := (vup μ1.1 69 15 (nI (L + 1)), μ1.2)) (b_ := 1) (m_ := m_) (f_ := f_) hX hRa.2.1 hL59 (show k_ ≤ L by omega) (fun μ2 hV => ?_) (L - k_) _ (by omega) ⟨fun _ _ => rfl, fun i _ h2 => hLy.2.2.1 i h2, fun i h1 h2 => absurd h1 (by omega), rfl⟩
      · rw [show k_ + (L - k_) = L by omega] at h70
        exact h70
      have hKb : mKeep (vup μ1.1 69 15 (nI (L + 1)), μ1.2) μ2 := ⟨fun a k hk => by rw [hV.1 a (by intro e; subst e; exact hk (Or.inl (by decide)))], hV.2.2.2⟩
      have hR2 := hRa.keep hKb
      have hE2 : isE μ2 P := ⟨⟨by rw [hV.1 69 (by decide)]; exact hLy.1.1.1, by rw [hV.1 69 (by decide)]; exact hLy.1.1.2.1, by rw [hV.1 69 (by decide)]; exact hLy.1.1.2.2.1, by rw [hV.1 69 (by decide)]; exact hLy.1.1.2.2.2.1, by rw [hV.1 69 (by decide)]; exact hLy.1.1.2.2.2.2⟩, by rw [hV.1 77 (by decide)]; exact hLy.1.2.1, by rw [hV.1 71 (by decide)]; exact hLy.1.2.2.1, by rw [hV.1 72 (by decide)]; exact hLy.1.2.2.2.1, by rw [hV.1 73 (by decide)]; exact hLy.1.2.2.2.2⟩
      refine V_aload_n hX dX9_start_100 0 rfl ?_
      refine V_getr (j := 76) hX fX9_38 rfl rfl dX9_start_101 ?_
      refine V_iload hX dX9_start_104 4 rfl ?_
      refine V_bipush (v := nI 115) hX dX9_start_106 (by decide) ?_
      refine V_iastN hX rfl (by omega) (by decide) dX9_start_108 ?_
      show V G 6 X 109 [(0, .ref 69), (1, .int (nI 1)), (2, .int m_), (3, .int f_), (4, .int (nI k_)), (5, .int (nI k_))] [] (vup μ2.1 76 k_ (nI 115), μ2.2)
      have hKc : mKeep μ2 (vup μ2.1 76 k_ (nI 115), μ2.2) := mKeep.put (a := 76) (k := k_) (x := nI 115) (Or.inl (by decide))
      have hRc := hR2.keep hKc
      have hEc : isE (vup μ2.1 76 k_ (nI 115), μ2.2) P := hE2
      have hlenc : ((vup μ2.1 76 k_ (nI 115), μ2.2) : VS).1 69 15 = nI (L + 1) := by show μ2.1 69 15 = _; rw [hV.1 69 (by decide)]; rfl
      have hcm : ((vup μ2.1 76 k_ (nI 115), μ2.2) : VS).1 69 19 = nI 0 := by show μ2.1 69 19 = _; rw [hV.1 69 (by decide)]; exact hLy.2.2.2
      have hserc : ∀ i, i < L + 1 → ((vup μ2.1 76 k_ (nI 115), μ2.2) : VS).1 76 i = nI (insS S k_ 115 i) := fun i hi => by
        dsimp only
        rw [vup_get]
        unfold insS
        by_cases e : i = k_
        · rw [if_pos ⟨rfl, e⟩, if_neg (by omega), if_pos e]
        · rw [if_neg (by omega)]
          by_cases e2 : i < k_
          · rw [if_pos e2]; exact hV.2.1 i (by omega) (by omega)
          · rw [if_neg e2, if_neg e]; exact hV.2.2.1 i (by omega) (by omega)
      have hsgc : ∀ i, i < L + 1 → insS S k_ 115 i < 1000 := fun i hi => by
        unfold insS
        by_cases e2 : i < k_
        · rw [if_pos e2]; have := hS i (by omega); omega
        · rw [if_neg e2]
          by_cases e : i = k_
          · rw [if_pos e]; decide
          · rw [if_neg e]; have := hS (i - 1) (by omega); omega
      refine V_aload_n hX dX9_start_109 0 rfl ?_
      refine V_callV (As := []) (st := []) hX mX9_169 rfl (kM_gainOf (E := P) (sg_ := insS S k_ 115) (cb_ := noC) (cm_ := 0) (M_ := L + 1) hlenc hEc hok hcm (by omega) hserc hsgc (fun i _ => Or.inr ⟨rfl, rfl⟩) (fun μ3 hq => ?_)) rfl (Nat.le_of_ble_eq_true rfl) (Nat.le_of_ble_eq_true rfl) dX9_start_110
      rw [zdiff]
      show V G 6 X 113 [(0, .ref 69), (1, .int (nI 1)), (2, .int m_), (3, .int f_), (4, .int (nI k_)), (5, .int (nI k_))] [.int (zI (stZ P S L k_))] μ3
      have hR3 := hRc.keep hq.1.keep
      have hC3 : keepC μ μ3 := hC0.tr ((((hK1.tr hKa).tr hKb).tr hKc).tr hq.1.keep).C
      refine V_istore (ls' := [(0, .ref 69), (1, .int (nI 1)), (2, .int m_), (3, .int f_), (4, .int (nI k_)), (5, .int (zI (stZ P S L k_)))]) hX dX9_start_113 (by decide) rfl ?_
      refine V_iload hX dX9_start_115 5 rfl ?_
      refine V_iload_n hX dX9_start_117 2 rfl ?_
      refine V_icmp_le (tgt := 126) hX dX9_start_118 (by decide) (fun c118 => ?_) (fun c118 => ?_)
      · refine V_iload_n hX dX9_start_126 3 rfl ?_
        refine V_istore_n (ls' := [(0, .ref 69), (1, .int (nI 1)), (2, .int m_), (3, .int f_), (4, .int (nI k_)), (5, .int (zI (stZ P S L k_)))]) hX dX9_start_127 (by decide) rfl ?_
        refine V_iload hX dX9_start_128 5 rfl ?_
        refine V_iload_n hX dX9_start_130 2 rfl ?_
        refine V_icmp_le (tgt := 139) hX dX9_start_131 (by decide) (fun c131 => ?_) (fun c131 => ?_)
        · refine V_iload_n hX dX9_start_139 2 rfl ?_
          refine V_istore_n (ls' := [(0, .ref 69), (1, .int (nI 1)), (2, .int m_), (3, .int f_), (4, .int (nI k_)), (5, .int (zI (stZ P S L k_)))]) hX dX9_start_140 (by decide) rfl ?_
          refine V_iincN (n := 1) (ls' := [(0, .ref 69), (1, .int (nI 1)), (2, .int m_), (3, .int f_), (4, .int (nI (k_ + 1))), (5, .int (zI (stZ P S L k_)))]) hX dX9_start_141 4 rfl (by decide) rfl ?_
          refine V_goto (tgt := 42) hX dX9_start_144 (by decide) ?_
          exact V_sub [0, 1, 2, 3, 4] rfl (ih (k_ + 1) μ3 _ _ (by omega) (by omega) hR3 hC3 (hB.old hf (fun z => Int32.not_lt.mpr c118 z)))
        · exact absurd c118 c131
      · refine V_iload hX dX9_start_121 4 rfl ?_
        refine V_goto (tgt := 127) hX dX9_start_123 (by decide) ?_
        refine V_istore_n (ls' := [(0, .ref 69), (1, .int (nI 1)), (2, .int m_), (3, .int (nI k_)), (4, .int (nI k_)), (5, .int (zI (stZ P S L k_)))]) hX dX9_start_127 (by decide) rfl ?_
        refine V_iload hX dX9_start_128 5 rfl ?_
        refine V_iload_n hX dX9_start_130 2 rfl ?_
        refine V_icmp_le (tgt := 139) hX dX9_start_131 (by decide) (fun c131 => ?_) (fun c131 => ?_)
        · exact absurd c131 c118
        · refine V_iload hX dX9_start_134 5 rfl ?_
          refine V_goto (tgt := 140) hX dX9_start_136 (by decide) ?_
          refine V_istore_n (ls' := [(0, .ref 69), (1, .int (nI 1)), (2, .int (zI (stZ P S L k_))), (3, .int (nI k_)), (4, .int (nI k_)), (5, .int (zI (stZ P S L k_)))]) hX dX9_start_140 (by decide) rfl ?_
          refine V_iincN (n := 1) (ls' := [(0, .ref 69), (1, .int (nI 1)), (2, .int (zI (stZ P S L k_))), (3, .int (nI k_)), (4, .int (nI (k_ + 1))), (5, .int (zI (stZ P S L k_)))]) hX dX9_start_141 4 rfl (by decide) rfl ?_
          refine V_goto (tgt := 42) hX dX9_start_144 (by decide) ?_
          exact V_sub [0, 1, 2, 3, 4] rfl (ih (k_ + 1) μ3 _ _ (by omega) (by omega) hR3 hC3 (hB.new hf (Int32.not_le.mp c118)))
set_option maxRecDepth 100000 in
set_option maxHeartbeats 4000000 in
theorem kM_start1 {G : VG} {d : Nat} {μ : VS} {Q : Option Value → VS → Prop} {P : PC} {L : Nat} {S κ : Nat → Nat} {I : Nat → PC} (hRM : RM μ P L S κ I) (hok : okP P) (hpd : okPad L S) (hQ : ∀ μ', RM μ' P L S κ I → keepC μ μ' → Q (some (.int (startS P L S (nI 1)))) μ') : Call G (d + 7) yX9_start cX9_start 6 (some .int) [.ref 69, .int (nI 1)] μ Q := by
  intro X hX hR
  have hM := hRM.1
  have hL := hRM.2.1
  have hS := hpd.2
  have hL60 := hpd.1
  have hP4 := hok.2.2.2.2.1
  have h4 := hP4
  show V G 6 X 0 [(0, .ref 69), (1, .int (nI 1))] [] μ
  refine V_iload_n hX dX9_start_0 1 rfl ?_
  refine V_iconst (v := nI 0) hX dX9_start_1 (by decide) ?_
  refine V_iconst (v := nI 1) hX dX9_start_2 (by decide) ?_
  refine V_callS (As := [.int (nI 1), .int (nI 0), .int (nI 1)]) (st := []) hX mX9_75 (k_in ?_) rfl (Nat.le_of_ble_eq_true rfl) (Nat.le_of_ble_eq_true rfl) dX9_start_3
  show V G 6 X 6 [(0, .ref 69), (1, .int (nI 1))] [.int (bI (nI 0 ≤ nI 1 ∧ nI 1 ≤ nI 1))] μ
  refine V_if_neB (tgt := 12) hX dX9_start_6 (by decide) (fun c6 => ?_) (fun c6 => ?_)
  · refine V_aload_n hX dX9_start_12 0 rfl ?_
    refine V_callV (As := []) (st := []) hX mX9_109 rfl (kM_faultOf hL hS hL60 ?_) rfl (Nat.le_of_ble_eq_true rfl) (Nat.le_of_ble_eq_true rfl) dX9_start_13
    show V G 6 X 16 [(0, .ref 69), (1, .int (nI 1))] [.int (fltU S L)] μ
    refine V_if_lt (tgt := 22) hX dX9_start_16 (by decide) (fun c16 => ?_) (fun c16 => ?_)
    · refine V_aload_n hX dX9_start_22 0 rfl ?_
      refine V_getN (x := nI L) hX fX9_103 rfl hL.1 dX9_start_23 ?_
      refine V_bipush (v := nI 59) hX dX9_start_26 (by decide) ?_
      refine V_icmp_leN (tgt := 34) hX dX9_start_28 (by decide) (by omega) (by omega) (fun c28 => ?_) (fun c28 => ?_)
      · refine V_ldc hX kX9_184 dX9_start_34 ?_
        refine V_istore_n (ls' := [(0, .ref 69), (1, .int (nI 1)), (2, .int (-1000000 : Int32))]) hX dX9_start_36 (by decide) rfl ?_
        refine V_iconst (v := nI 0) hX dX9_start_37 (by decide) ?_
        refine V_istore_n (ls' := [(0, .ref 69), (1, .int (nI 1)), (2, .int (-1000000 : Int32)), (3, .int (nI 0))]) hX dX9_start_38 (by decide) rfl ?_
        refine V_iconst (v := nI 0) hX dX9_start_39 (by decide) ?_
        refine V_istore (ls' := [(0, .ref 69), (1, .int (nI 1)), (2, .int (-1000000 : Int32)), (3, .int (nI 0)), (4, .int (nI 0))]) hX dX9_start_40 (by decide) rfl ?_
        refine lpM_start21 (μ := μ) hX hR hok hpd (by omega) (fun μ' z1 z2 => ?_) (L + 2) 0 μ _ _ (by omega) (by omega) hRM (keepC.rf μ) (Or.inl ⟨rfl, rfl⟩)
        have h9 := hQ μ' z1 z2
        rw [show startS P L S (nI 1) = nI (bsP (stZ P S L) L) from (if_pos c6).trans ((if_pos (flt_neg L (by omega) c16)).trans ((if_neg (by omega)).trans (if_neg (by rw [nI_clamp (by decide)]; decide))))] at h9
        exact h9
      · refine V_bipush (v := (-4)) hX dX9_start_31 (by decide) ?_
        refine V_iret hX rfl dX9_start_33 ?_
        have h9 := hQ μ
        rw [show startS P L S (nI 1) = -4 from (if_pos c6).trans ((if_pos (flt_neg L (by omega) c16)).trans (if_pos (by omega)))] at h9
        exact hR _ _ (h9 hRM (keepC.rf μ))
    · refine V_bipush (v := (-5)) hX dX9_start_19 (by decide) ?_
      refine V_iret hX rfl dX9_start_21 ?_
      have h9 := hQ μ
      rw [show startS P L S (nI 1) = -5 from (if_pos c6).trans (if_neg (flt_ge hL60 c16))] at h9
      exact hR _ _ (h9 hRM (keepC.rf μ))
  · refine V_bipush (v := (-2)) hX dX9_start_9 (by decide) ?_
    refine V_iret hX rfl dX9_start_11 ?_
    exact absurd (by decide) c6
set_option maxRecDepth 100000 in
set_option maxHeartbeats 4000000 in
theorem kM_start2 {G : VG} {d : Nat} {μ : VS} {Q : Option Value → VS → Prop} {P : PC} {L : Nat} {S κ : Nat → Nat} {I : Nat → PC} {w_ : Int32} (hw : ¬ inZ w_ 0 1) (hRM : RM μ P L S κ I) (hok : okP P) (hpd : okPad L S) (hQ : ∀ μ', RM μ' P L S κ I → keepC μ μ' → Q (some (.int (startS P L S w_))) μ') : Call G (d + 7) yX9_start cX9_start 6 (some .int) [.ref 69, .int w_] μ Q := by
  intro X hX hR
  have hM := hRM.1
  have hL := hRM.2.1
  have hS := hpd.2
  have hL60 := hpd.1
  have hP4 := hok.2.2.2.2.1
  have h4 := hP4
  show V G 6 X 0 [(0, .ref 69), (1, .int w_)] [] μ
  refine V_iload_n hX dX9_start_0 1 rfl ?_
  refine V_iconst (v := nI 0) hX dX9_start_1 (by decide) ?_
  refine V_iconst (v := nI 1) hX dX9_start_2 (by decide) ?_
  refine V_callS (As := [.int w_, .int (nI 0), .int (nI 1)]) (st := []) hX mX9_75 (k_in ?_) rfl (Nat.le_of_ble_eq_true rfl) (Nat.le_of_ble_eq_true rfl) dX9_start_3
  show V G 6 X 6 [(0, .ref 69), (1, .int w_)] [.int (bI (nI 0 ≤ w_ ∧ w_ ≤ nI 1))] μ
  refine V_if_neB (tgt := 12) hX dX9_start_6 (by decide) (fun c6 => ?_) (fun c6 => ?_)
  · exact absurd c6 hw
  · refine V_bipush (v := (-2)) hX dX9_start_9 (by decide) ?_
    refine V_iret hX rfl dX9_start_11 ?_
    have h9 := hQ μ
    rw [show startS P L S w_ = -2 from if_neg hw] at h9
    exact hR _ _ (h9 hRM (keepC.rf μ))
theorem kM_start {G : VG} {d : Nat} {μ : VS} {Q : Option Value → VS → Prop} {P : PC} {L : Nat} {S κ : Nat → Nat} {I : Nat → PC} {w_ : Int32} (hRM : RM μ P L S κ I) (hok : okP P) (hpd : okPad L S)  (hQ : ∀ μ', RM μ' P L S κ I → keepC μ μ' → Q (some (.int (startS P L S w_))) μ') : Call G (d + 7) yX9_start cX9_start 6 (some .int) [.ref 69, .int w_] μ Q := by
  by_cases hw : inZ w_ 0 1
  · obtain ⟨j, -, hj, rfl⟩ := nat_of_in (by decide) (by decide) hw
    rcases (by omega : j = 0 ∨ j = 1) with e | e <;> subst e
    · exact kM_start0 hRM hok hpd hQ
    · exact kM_start1 hRM hok hpd hQ
  · exact kM_start2 hw hRM hok hpd hQ
