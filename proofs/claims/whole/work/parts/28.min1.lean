/-! the reference: a sermon laid out, with the seats, uprights and rate that it is tried with -/
def isE (μ : VS) (E : PC) : Prop := (μ.1 69 1 = nI (E 0 4) ∧ μ.1 69 17 = nI (E 0 5) ∧ μ.1 69 18 = nI (E 0 2) ∧ μ.1 69 9 = nI (E 0 3) ∧ μ.1 69 7 = nI (E 0 1)) ∧ (∀ h, h < 8 → μ.1 77 h = nI (E 1 h)) ∧ (∀ h, h < 8 → μ.1 71 h = nI (E 2 h)) ∧ (∀ h, h < 8 → μ.1 72 h = nI (E 3 h)) ∧ ∀ h, h < 8 → μ.1 73 h = nI (E 4 h)
/-- the cells and slots that minutes write -/
def mScr (a k : Nat) : Prop := (78 ≤ a ∧ a ≤ 82) ∨ (a = 69 ∧ 25 ≤ k ∧ k ≤ 31)
def mSame (μ μ' : VS) : Prop := (∀ a k, ¬ mScr a k → μ'.1 a k = μ.1 a k) ∧ μ'.2 = μ.2
theorem mSame.rf (μ : VS) : mSame μ μ := ⟨fun _ _ _ => rfl, rfl⟩
theorem mSame.tr {a b c : VS} (h : mSame a b) (g : mSame b c) : mSame a c := ⟨fun x k hx => (g.1 x k hx).trans (h.1 x k hx), g.2.trans h.2⟩
theorem isE.same {μ μ' : VS} {E : PC} (h : isE μ E) (e : mSame μ μ') : isE μ' E := by
  refine ⟨⟨?_, ?_, ?_, ?_, ?_⟩, fun g hg => ?_, fun g hg => ?_, fun g hg => ?_, fun g hg => ?_⟩
  · rw [e.1 69 1 (by unfold mScr; omega)]; exact h.1.1
  · rw [e.1 69 17 (by unfold mScr; omega)]; exact h.1.2.1
  · rw [e.1 69 18 (by unfold mScr; omega)]; exact h.1.2.2.1
  · rw [e.1 69 9 (by unfold mScr; omega)]; exact h.1.2.2.2.1
  · rw [e.1 69 7 (by unfold mScr; omega)]; exact h.1.2.2.2.2
  · rw [e.1 77 g (by unfold mScr; omega)]; exact h.2.1 g hg
  · rw [e.1 71 g (by unfold mScr; omega)]; exact h.2.2.1 g hg
  · rw [e.1 72 g (by unfold mScr; omega)]; exact h.2.2.2.1 g hg
  · rw [e.1 73 g (by unfold mScr; omega)]; exact h.2.2.2.2 g hg
theorem nthG_none {f : Nat → Bool} : ∀ j h n, (∀ i, ¬ f i = true) → nthG f j h n = 99
  | 0, _, _, _ => rfl
  | j + 1, h, n, hf => by
    unfold nthG
    rw [if_neg (hf h)]
    exact nthG_none j (h + 1) n hf
theorem nthG_congr {f g : Nat → Bool} : ∀ j h n, (∀ i, i < h + j → f i = g i) → nthG f j h n = nthG g j h n
  | 0, _, _, _ => rfl
  | j + 1, h, n, e => by
    unfold nthG
    rw [e h (by omega), nthG_congr j (h + 1) (n - 1) (fun i hi => e i (by omega)), nthG_congr j (h + 1) n (fun i hi => e i (by omega))]
theorem cnt0 {f : Nat → Bool} : ∀ {n : Nat}, cnt f n = 0 → ∀ i, i < n → ¬ f i = true
  | n + 1, h, i, hi => by
    unfold cnt at h
    rcases Nat.lt_or_ge i n with q | q
    · exact cnt0 (n := n) (by omega) i q
    · obtain rfl : i = n := by omega
      intro z
      rw [if_pos z] at h
      omega
theorem turn0 {P : PC} {n : Nat} (h : popN (P 0 4) 8 = 0) : nthG (pPres P) 8 0 n = 99 := by
  rw [popN_cnt] at h
  rw [nthG_congr (g := fun _ => false) 8 0 n (fun i hi => by have := cnt0 h i (by omega); unfold pPres; simpa using this)]
  exact nthG_none 8 0 n (fun i => by simp)
set_option maxRecDepth 100000 in
set_option maxHeartbeats 4000000 in
theorem lpM_turn {G : VG} {d : Nat} {μ : VS} {Q : Option Value → VS → Prop} {X : VX} {n_ t_ : Nat} {E : PC} (hX : Cx G (d + 1) yX9_turn cX9_turn 5 (some .int) X) (hR : ∀ r μ', Q r μ' → Ret G X r μ') (hE : isE μ E) (h4 : E 0 4 < 256) : ∀ (j k_ m_ : Nat), k_ ≤ 8 → 9 ≤ k_ + j → m_ < 1000 → Q (some (.int (nmI (nthG (pPres E) (8 - k_) k_ m_)))) μ → V G 5 X 23 [(0, .ref 69), (1, .int (nI n_)), (2, .int (nI t_)), (3, .int (nI m_)), (4, .int (nI k_))] [] μ := by
  intro j
  induction j with
  | zero =>
    intro k_ m_ h1 h2
    exact absurd h2 (by omega)
  | succ j ih =>
    intro k_ m_ h1 h2 hm hQ2
    by_cases hj8 : k_ < 8
    rotate_left
    · obtain rfl : k_ = 8 := by omega
      refine V_iload hX dX9_turn_23 4 rfl ?_
      refine V_bipush (v := nI 8) hX dX9_turn_25 (by decide) ?_
      refine V_icmp_geN (tgt := 58) hX dX9_turn_27 (by decide) (by omega) (by omega) (fun c27 => ?_) (fun c27 => ?_)
      · refine V_bipush (v := (-6)) hX dX9_turn_58 (by decide) ?_
        refine V_iret hX rfl dX9_turn_60 ?_
        exact hR _ _ hQ2
      · exact absurd c27 (by decide)
    refine V_iload hX dX9_turn_23 4 rfl ?_
    refine V_bipush (v := nI 8) hX dX9_turn_25 (by decide) ?_
    refine V_icmp_geN (tgt := 58) hX dX9_turn_27 (by decide) (by omega) (by omega) (fun c27 => ?_) (fun c27 => ?_)
    · exact absurd c27 (by omega)
    · refine V_aload_n hX dX9_turn_30 0 rfl ?_
      refine V_getN (x := nI (E 0 4)) hX fX9_72 rfl hE.1.1 dX9_turn_31 ?_
      refine V_iload hX dX9_turn_34 4 rfl ?_
      refine V_callS (As := [.int (nI (E 0 4)), .int (nI k_)]) (st := []) hX mX9_79 (k_has (by omega) (by omega) ?_) rfl (Nat.le_of_ble_eq_true rfl) (Nat.le_of_ble_eq_true rfl) dX9_turn_36
      show V G 5 X 39 [(0, .ref 69), (1, .int (nI n_)), (2, .int (nI t_)), (3, .int (nI m_)), (4, .int (nI k_))] [.int (bI ((E 0 4).testBit k_ = true))] μ
      refine V_if_eqB (tgt := 52) hX dX9_turn_39 (by decide) (fun c39 => ?_) (fun c39 => ?_)
      · refine V_iincN (n := 1) (ls' := [(0, .ref 69), (1, .int (nI n_)), (2, .int (nI t_)), (3, .int (nI m_)), (4, .int (nI (k_ + 1)))]) hX dX9_turn_52 4 rfl (by decide) rfl ?_
        refine V_goto (tgt := 23) hX dX9_turn_55 (by decide) ?_
        exact ih (k_ + 1) m_ (by omega) (by omega) (by omega) (by rw [nthG_no (f := pPres E) hj8 (fun z => c39 z)] at hQ2; exact hQ2)
      · refine V_iload_n hX dX9_turn_42 3 rfl ?_
        refine V_if_neN (tgt := 49) hX dX9_turn_43 (by decide) (by omega) (fun c43 => ?_) (fun c43 => ?_)
        · refine V_iinc (v := -1) (ls' := [(0, .ref 69), (1, .int (nI n_)), (2, .int (nI t_)), (3, .int ((nI m_) + (-1))), (4, .int (nI k_))]) hX dX9_turn_49 3 rfl (by decide) (by decide) rfl ?_
          rw [show (nI m_) + (-1) = nI (m_ - 1) from by rw [show m_ = (m_ - 1) + 1 by omega]; exact pk_m1 (m_ - 1)]
          refine V_iincN (n := 1) (ls' := [(0, .ref 69), (1, .int (nI n_)), (2, .int (nI t_)), (3, .int (nI (m_ - 1))), (4, .int (nI (k_ + 1)))]) hX dX9_turn_52 4 rfl (by decide) rfl ?_
          refine V_goto (tgt := 23) hX dX9_turn_55 (by decide) ?_
          exact ih (k_ + 1) (m_ - 1) (by omega) (by omega) (by omega) (by rw [nthG_yes (f := pPres E) hj8 c39 c43] at hQ2; exact hQ2)
        · refine V_iload hX dX9_turn_46 4 rfl ?_
          refine V_iret hX rfl dX9_turn_48 ?_
          exact hR _ _ (by rw [nthG_hit (f := pPres E) hj8 c39 c43] at hQ2; unfold nmI at hQ2; rw [if_neg (by omega)] at hQ2; exact hQ2)
set_option maxRecDepth 100000 in
set_option maxHeartbeats 4000000 in
theorem kM_turn {G : VG} {d : Nat} {μ : VS} {Q : Option Value → VS → Prop} {n_ : Nat} {E : PC} (hE : isE μ E) (h4 : E 0 4 < 256) (hn : n_ < 1000000) (hQ : Q (some (.int (nmI (nmdN E 110 n_)))) μ) : Call G (d + 1) yX9_turn cX9_turn 5 (some .int) [.ref 69, .int (nI n_)] μ Q := by
  intro X hX hR
  show V G 5 X 0 [(0, .ref 69), (1, .int (nI n_))] [] μ
  refine V_aload_n hX dX9_turn_0 0 rfl ?_
  refine V_getN (x := nI (E 0 4)) hX fX9_72 rfl hE.1.1 dX9_turn_1 ?_
  refine V_callS (As := [.int (nI (E 0 4))]) (st := []) hX mX9_96 (k_bits (by first | omega | (have := popN_le (E 0 4) 8; omega)) ?_) rfl (Nat.le_of_ble_eq_true rfl) (Nat.le_of_ble_eq_true rfl) dX9_turn_4
  show V G 5 X 7 [(0, .ref 69), (1, .int (nI n_))] [.int (nI (popN (E 0 4) 8))] μ
  refine V_istore_n (ls' := [(0, .ref 69), (1, .int (nI n_)), (2, .int (nI (popN (E 0 4) 8)))]) hX dX9_turn_7 (by decide) rfl ?_
  refine V_iload_n hX dX9_turn_8 2 rfl ?_
  refine V_if_neN (tgt := 16) hX dX9_turn_9 (by decide) (by first | omega | (have := popN_le (E 0 4) 8; omega)) (fun c9 => ?_) (fun c9 => ?_)
  · refine V_iload_n hX dX9_turn_16 1 rfl ?_
    refine V_iload_n hX dX9_turn_17 2 rfl ?_
    refine V_iremN hX dX9_turn_18 (Nat.pos_of_ne_zero c9) (by omega) (by have := popN_le (E 0 4) 8; omega) ?_
    refine V_istore_n (ls' := [(0, .ref 69), (1, .int (nI n_)), (2, .int (nI (popN (E 0 4) 8))), (3, .int (nI (n_ % (popN (E 0 4) 8))))]) hX dX9_turn_19 (by decide) rfl ?_
    refine V_iconst (v := nI 0) hX dX9_turn_20 (by decide) ?_
    refine V_istore (ls' := [(0, .ref 69), (1, .int (nI n_)), (2, .int (nI (popN (E 0 4) 8))), (3, .int (nI (n_ % (popN (E 0 4) 8)))), (4, .int (nI 0))]) hX dX9_turn_21 (by decide) rfl ?_
    exact lpM_turn hX hR hE h4 9 0 _ (by decide) (by decide) (by have := Nat.mod_lt n_ (Nat.pos_of_ne_zero c9); have := popN_le (E 0 4) 8; omega) (by rw [show nmdN E 110 n_ = _ from (if_pos rfl).trans (if_neg c9)] at hQ; exact hQ)
  · refine V_iconst (v := nI 0) hX dX9_turn_12 (by decide) ?_
    refine V_goto (tgt := 19) hX dX9_turn_13 (by decide) ?_
    refine V_istore_n (ls' := [(0, .ref 69), (1, .int (nI n_)), (2, .int (nI (popN (E 0 4) 8))), (3, .int (nI 0))]) hX dX9_turn_19 (by decide) rfl ?_
    refine V_iconst (v := nI 0) hX dX9_turn_20 (by decide) ?_
    refine V_istore (ls' := [(0, .ref 69), (1, .int (nI n_)), (2, .int (nI (popN (E 0 4) 8))), (3, .int (nI 0)), (4, .int (nI 0))]) hX dX9_turn_21 (by decide) rfl ?_
    exact lpM_turn hX hR hE h4 9 0 _ (by decide) (by decide) (by decide) (by rw [show nmdN E 110 n_ = 99 from (if_pos rfl).trans (if_pos c9)] at hQ; rw [turn0 c9]; exact hQ)
def chZ (E : PC) (sg st nm h : Nat) : Int := faZ sg + (if sg = 115 then (stlN E st h : Int) else if h = nm then 5 else 0)
theorem stl_pos {a b c : Nat} (ha : a ≤ 1000) (hb : b ≤ 1000) (hc : c ≤ 1000) : (¬ (nI a - nI b) - nI c ≤ 0 → (nI a - nI b) - nI c = nI (a - b - c)) ∧ ((nI a - nI b) - nI c ≤ 0 → a - b - c = 0) := by
  have e : (nI a - nI b) - nI c = zI ((a : Int) - b - c) := by rw [zI_nat a, zI_nat b, zI_nat c, zI_sub, zI_sub]
  have e0 : zI ((a : Int) - b - c) ≤ 0 ↔ (a : Int) - b - c ≤ 0 := by
    rw [show (0 : Int32) = zI 0 from rfl, Int32.le_iff_toInt_le, zI_toInt (by omega) (by omega), zI_toInt (by decide) (by decide)]
  rw [e]
  refine ⟨fun h => ?_, fun h => ?_⟩
  · have : ¬ (a : Int) - b - c ≤ 0 := fun z => h (e0.mpr z)
    rw [zI_nat, show (((a - b - c : Nat)) : Int) = (a : Int) - b - c by omega]
  · have := e0.mp h
    omega
set_option maxRecDepth 100000 in
set_option maxHeartbeats 4000000 in
theorem kM_change {G : VG} {d : Nat} {μ : VS} {Q : Option Value → VS → Prop} {h_ sg_ st_ nm_ : Nat} {E : PC} (hE : isE μ E) (hok : okP E) (hst : μ.1 69 25 = nI st_) (hnm : μ.1 69 26 = nI nm_) (hs100 : st_ ≤ 100) (hn100 : nm_ ≤ 100) (hsg : sg_ < 1000) (hh : h_ < 8) (hQ : Q (some (.int (zI (chZ E sg_ st_ (nmdN E sg_ nm_) h_)))) μ) : Call G (d + 2) yX9_change cX9_change 4 (some .int) [.ref 69, .int (nI h_), .int (nI sg_)] μ Q := by
  intro X hX hR
  have h4 := hok.2.2.2.2.1
  have hr9 := hok.2.1.2
  have hs12 := (hok.2.2.2.2.2.2.2.1 h_ hh).1
  show V G 4 X 0 [(0, .ref 69), (1, .int (nI h_)), (2, .int (nI sg_))] [] μ
  refine V_aload_n hX dX9_change_0 0 rfl ?_
  refine V_getN (x := nI (E 0 1)) hX fX9_26 rfl hE.1.2.2.2.2 dX9_change_1 ?_
  refine V_iconst (v := nI 2) hX dX9_change_4 (by decide) ?_
  refine V_aload_n hX dX9_change_5 0 rfl ?_
  refine V_getr (j := 77) hX fX9_41 rfl rfl dX9_change_6 ?_
  refine V_iload_n hX dX9_change_9 1 rfl ?_
  refine V_ialdN (x := nI (E 1 h_)) hX rfl (by omega) (by decide) (hE.2.1 _ (by omega)) dX9_change_10 ?_
  refine V_iconst (v := nI 4) hX dX9_change_11 (by decide) ?_
  refine V_idivN hX dX9_change_12 (by decide) (by omega) (by decide) ?_
  refine V_imulN hX dX9_change_13 ?_
  refine V_isub hX dX9_change_14 ?_
  refine V_aload_n hX dX9_change_15 0 rfl ?_
  refine V_getN (x := nI st_) hX fX9_125 rfl hst dX9_change_16 ?_
  refine V_isub hX dX9_change_19 ?_
  refine V_istore_n (ls' := [(0, .ref 69), (1, .int (nI h_)), (2, .int (nI sg_)), (3, .int (((nI (E 0 1)) - (nI (2 * ((E 1 h_) / 4)))) - (nI st_)))]) hX dX9_change_20 (by decide) rfl ?_
  refine V_iload_n hX dX9_change_21 2 rfl ?_
  refine V_bipush (v := nI 119) hX dX9_change_22 (by decide) ?_
  refine V_icmp_neN (tgt := 32) hX dX9_change_24 (by decide) (by omega) (by omega) (fun c24 => ?_) (fun c24 => ?_)
  · refine V_iload_n hX dX9_change_32 2 rfl ?_
    refine V_bipush (v := nI 104) hX dX9_change_33 (by decide) ?_
    refine V_icmp_neN (tgt := 42) hX dX9_change_35 (by decide) (by omega) (by omega) (fun c35 => ?_) (fun c35 => ?_)
    · refine V_iload_n hX dX9_change_42 2 rfl ?_
      refine V_bipush (v := nI 111) hX dX9_change_43 (by decide) ?_
      refine V_icmp_neN (tgt := 52) hX dX9_change_45 (by decide) (by omega) (by omega) (fun c45 => ?_) (fun c45 => ?_)
      · refine V_iload_n hX dX9_change_52 2 rfl ?_
        refine V_bipush (v := nI 110) hX dX9_change_53 (by decide) ?_
        refine V_icmp_neN (tgt := 78) hX dX9_change_55 (by decide) (by omega) (by omega) (fun c55 => ?_) (fun c55 => ?_)
        · refine V_iload_n hX dX9_change_78 2 rfl ?_
          refine V_bipush (v := nI 115) hX dX9_change_79 (by decide) ?_
          refine V_icmp_neN (tgt := 96) hX dX9_change_81 (by decide) (by omega) (by omega) (fun c81 => ?_) (fun c81 => ?_)
          · refine V_iload_n hX dX9_change_96 2 rfl ?_
            refine V_bipush (v := nI 126) hX dX9_change_97 (by decide) ?_
            refine V_icmp_neN (tgt := 106) hX dX9_change_99 (by decide) (by omega) (by omega) (fun c99 => ?_) (fun c99 => ?_)
            · refine V_iconst (v := nI 0) hX dX9_change_106 (by decide) ?_
              refine V_iret hX rfl dX9_change_107 ?_
              exact hR _ _ (by rw [show zI (chZ E sg_ st_ (nmdN E sg_ nm_) h_) = nI 0 from by rw [show nmdN E sg_ nm_ = 99 from if_neg (by omega)]; unfold chZ faZ; rw [if_neg c24, if_neg c35, if_neg c45, if_neg c99, if_neg (by omega : ¬ sg_ = 115), if_neg (by omega : ¬ h_ = 99)]; rfl] at hQ; exact hQ)
            · refine V_iconst (v := nI 2) hX dX9_change_102 (by decide) ?_
              refine V_goto (tgt := 107) hX dX9_change_103 (by decide) ?_
              refine V_iret hX rfl dX9_change_107 ?_
              exact hR _ _ (by rw [show zI (chZ E sg_ st_ (nmdN E sg_ nm_) h_) = nI 2 from by rw [show nmdN E sg_ nm_ = 99 from if_neg (by omega)]; unfold chZ faZ; rw [if_neg c24, if_neg c35, if_neg c45, if_pos c99, if_neg (by omega : ¬ sg_ = 115), if_neg (by omega : ¬ h_ = 99)]; rfl] at hQ; exact hQ)
          · refine V_iload_n hX dX9_change_84 3 rfl ?_
            refine V_if_le (tgt := 92) hX dX9_change_85 (by decide) (fun c85 => ?_) (fun c85 => ?_)
            · refine V_iconst (v := nI 0) hX dX9_change_92 (by decide) ?_
              refine V_goto (tgt := 107) hX dX9_change_93 (by decide) ?_
              refine V_iret hX rfl dX9_change_107 ?_
              exact hR _ _ (by rw [show zI (chZ E sg_ st_ (nmdN E sg_ nm_) h_) = nI 0 from by unfold chZ faZ; rw [if_neg c24, if_neg c35, if_neg c45, if_neg (by omega : ¬ sg_ = 126), if_pos c81]; unfold stlN; rw [(stl_pos (by omega) (by omega) (by omega)).2 c85]; rfl] at hQ; exact hQ)
            · refine V_iload_n hX dX9_change_88 3 rfl ?_
              refine V_goto (tgt := 107) hX dX9_change_89 (by decide) ?_
              refine V_iret hX rfl dX9_change_107 ?_
              exact hR _ _ (by rw [show zI (chZ E sg_ st_ (nmdN E sg_ nm_) h_) = ((nI (E 0 1)) - (nI (2 * ((E 1 h_) / 4)))) - (nI st_) from by unfold chZ faZ; rw [if_neg c24, if_neg c35, if_neg c45, if_neg (by omega : ¬ sg_ = 126), if_pos c81]; rw [(stl_pos (by omega) (by omega) (by omega)).1 c85, zI_nat]; unfold stlN; rw [Int.zero_add]] at hQ; exact hQ)
        · refine V_aload_n hX dX9_change_58 0 rfl ?_
          refine V_aload_n hX dX9_change_59 0 rfl ?_
          refine V_getN (x := nI nm_) hX fX9_128 rfl hnm dX9_change_60 ?_
          refine V_callV (As := [.int (nI nm_)]) (st := []) hX mX9_131 rfl (kM_turn hE h4 (by omega) ?_) rfl (Nat.le_of_ble_eq_true rfl) (Nat.le_of_ble_eq_true rfl) dX9_change_63
          show V G 4 X 66 [(0, .ref 69), (1, .int (nI h_)), (2, .int (nI sg_)), (3, .int (((nI (E 0 1)) - (nI (2 * ((E 1 h_) / 4)))) - (nI st_)))] [.int (nmI (nmdN E 110 nm_))] μ
          refine V_iload_n hX dX9_change_66 1 rfl ?_
          refine V_icmp_ne (tgt := 74) hX dX9_change_67 (by decide) (fun c67 => ?_) (fun c67 => ?_)
          · refine V_iconst (v := nI 0) hX dX9_change_74 (by decide) ?_
            refine V_goto (tgt := 107) hX dX9_change_75 (by decide) ?_
            refine V_iret hX rfl dX9_change_107 ?_
            exact hR _ _ (by rw [show zI (chZ E sg_ st_ (nmdN E sg_ nm_) h_) = nI 0 from by unfold chZ faZ; rw [if_neg c24, if_neg c35, if_neg c45, if_neg (by omega : ¬ sg_ = 126), if_neg (by omega : ¬ sg_ = 115), if_neg (fun z => c67 ((nmI_eq hh (nmdN_lt _ _ _)).mpr (by rw [← c55]; exact z)).symm)]; rfl] at hQ; exact hQ)
          · refine V_iconst (v := nI 5) hX dX9_change_70 (by decide) ?_
            refine V_goto (tgt := 107) hX dX9_change_71 (by decide) ?_
            refine V_iret hX rfl dX9_change_107 ?_
            exact hR _ _ (by rw [show zI (chZ E sg_ st_ (nmdN E sg_ nm_) h_) = nI 5 from by unfold chZ faZ; rw [if_neg c24, if_neg c35, if_neg c45, if_neg (by omega : ¬ sg_ = 126), if_neg (by omega : ¬ sg_ = 115), if_pos ((nmI_eq hh (nmdN_lt _ _ _)).mp (by rw [c55]; exact c67.symm))]; rfl] at hQ; exact hQ)
      · refine V_iconst (v := nI 1) hX dX9_change_48 (by decide) ?_
        refine V_goto (tgt := 107) hX dX9_change_49 (by decide) ?_
        refine V_iret hX rfl dX9_change_107 ?_
        exact hR _ _ (by rw [show zI (chZ E sg_ st_ (nmdN E sg_ nm_) h_) = nI 1 from by rw [show nmdN E sg_ nm_ = 99 from if_neg (by omega)]; unfold chZ faZ; rw [if_neg c24, if_neg c35, if_pos c45, if_neg (by omega : ¬ sg_ = 115), if_neg (by omega : ¬ h_ = 99)]; rfl] at hQ; exact hQ)
    · refine V_iconst (v := nI 3) hX dX9_change_38 (by decide) ?_
      refine V_goto (tgt := 107) hX dX9_change_39 (by decide) ?_
      refine V_iret hX rfl dX9_change_107 ?_
      exact hR _ _ (by rw [show zI (chZ E sg_ st_ (nmdN E sg_ nm_) h_) = nI 3 from by rw [show nmdN E sg_ nm_ = 99 from if_neg (by omega)]; unfold chZ faZ; rw [if_neg c24, if_pos c35, if_neg (by omega : ¬ sg_ = 115), if_neg (by omega : ¬ h_ = 99)]; rfl] at hQ; exact hQ)
  · refine V_bipush (v := (-2)) hX dX9_change_27 (by decide) ?_
    refine V_goto (tgt := 107) hX dX9_change_29 (by decide) ?_
    refine V_iret hX rfl dX9_change_107 ?_
    exact hR _ _ (by rw [show zI (chZ E sg_ st_ (nmdN E sg_ nm_) h_) = (-2) from by rw [show nmdN E sg_ nm_ = 99 from if_neg (by omega)]; unfold chZ faZ; rw [if_pos c24, if_neg (by omega : ¬ sg_ = 115), if_neg (by omega : ¬ h_ = 99)]; rfl] at hQ; exact hQ)
