theorem uAt7 {P : PC} (h : P 0 2 ≤ 9) (S : Nat → Nat) (k : Nat) : (uAt P S k).2.2.2 7 ≤ 8 * k := (tot_bd h k).1
theorem uAt9 {P : PC} (h : P 0 2 ≤ 9) (S : Nat → Nat) (k : Nat) : (uAt P S k).2.2.2 9 ≤ 72 * k := (tot_bd h k).2.1
theorem uAt10 {P : PC} (h : P 0 2 ≤ 9) (S : Nat → Nat) (k : Nat) : (uAt P S k).2.2.2 10 ≤ 16 * k := (tot_bd h k).2.2.1
def nxt (x : Nat) : Nat := (75 * x + 74) % 65537
def itr (x : Nat) : Nat → Nat
  | 0 => x
  | k + 1 => nxt (itr x k)
theorem itr_add (x a : Nat) : ∀ b, itr x (a + b) = itr (itr x a) b
  | 0 => rfl
  | b + 1 => by show nxt (itr x (a + b)) = nxt _; rw [itr_add x a b]
theorem itr_lt {x : Nat} (h : x < 65537) : ∀ k, itr x k < 65537
  | 0 => h
  | _ + 1 => Nat.mod_lt _ (by decide)
def bdN (j : Nat) : Nat := match j with
  | 0 => 119
  | 1 => 104
  | 2 => 111
  | 3 => 110
  | 4 => 99
  | 5 => 115
  | _ => 126
theorem bd_nat {j : Nat} (h : j < 7) : vBD j = nI (bdN j) := by
  match j, h with
  | 0, _ => rfl
  | 1, _ => rfl
  | 2, _ => rfl
  | 3, _ => rfl
  | 4, _ => rfl
  | 5, _ => rfl
  | 6, _ => rfl
theorem bd_lt (j : Nat) : bdN j < 1000 := by unfold bdN; split <;> decide
def yS (x i : Nat) : Nat := bdN (itr x (i + 1) % 7)
def yAdd (P : PC) (w x : Nat) : Nat := if w = 2 then (if (uAt P (yS x) 6).2.2.2 7 = 0 then 1 else 0) else if w = 0 then (uAt P (yS x) 6).2.2.2 9 else (uAt P (yS x) 6).2.2.2 10
def yTot (P : PC) (w x : Nat) : Nat → Nat
  | 0 => 0
  | k + 1 => yTot P w x k + yAdd P w (itr x (6 * k))
def yearS (P : PC) (x m w : Int32) : Int32 := if inZ x 0 9999 ∧ inZ m 1 50 ∧ inZ w 0 2 then nI (yTot P w.toNatClampNeg x.toNatClampNeg m.toNatClampNeg) else -2
set_option maxRecDepth 100000 in
set_option maxHeartbeats 4000000 in
theorem lpC_year1 {G : VG} {d : Nat} {μ : VS} {X : VX} {P : PC} {L : Nat} {S κ : Nat → Nat} {I : Nat → PC} {s_ m_ w_ t_ k_ x_ : Nat} (hX : Cx G (d + 4) yX8_yearTotal cX8_yearTotal 9 (some .int) X) (hok : okP P) (hx : x_ < 65537) (hF : ∀ μ1, RC μ1 P L S κ I → keepM μ μ1 → isW μ1 34 (uAt P (yS x_) 6) → V G 9 X 81 [(0, .ref 0), (1, .int (nI s_)), (2, .int (nI m_)), (3, .int (nI w_)), (4, .ref 34), (5, .int (nI (itr x_ 6))), (6, .int (nI t_)), (7, .int (nI k_)), (8, .int (nI 6))] [] μ1) : ∀ (j i_ : Nat) (μ1 : VS), i_ ≤ 6 → 7 ≤ i_ + j → RC μ1 P L S κ I → keepM μ μ1 → isW μ1 34 (uAt P (yS x_) i_) → V G 9 X 35 [(0, .ref 0), (1, .int (nI s_)), (2, .int (nI m_)), (3, .int (nI w_)), (4, .ref 34), (5, .int (nI (itr x_ i_))), (6, .int (nI t_)), (7, .int (nI k_)), (8, .int (nI i_))] [] μ1 := by
  intro j
  induction j with
  | zero =>
    intro i_ μ1 h1 h2
    exact absurd h2 (by omega)
  | succ j ih =>
    intro i_ μ1 h1 h2 hR1 hM1 hU1
    refine V_iload hX dX8_yearTotal_35 8 rfl ?_
    refine V_bipush (v := nI 6) hX dX8_yearTotal_37 (by decide) ?_
    refine V_icmp_geN (tgt := 81) hX dX8_yearTotal_39 (by decide) (by omega) (by omega) (fun c39 => ?_) (fun c39 => ?_)
    · obtain rfl : i_ = 6 := by omega
      exact hF μ1 hR1 hM1 hU1
    · refine V_bipush (v := nI 75) hX dX8_yearTotal_42 (by decide) ?_
      refine V_iload hX dX8_yearTotal_44 5 rfl ?_
      refine V_imulN hX dX8_yearTotal_46 ?_
      refine V_bipush (v := nI 74) hX dX8_yearTotal_47 (by decide) ?_
      refine V_iaddN hX dX8_yearTotal_49 ?_
      refine V_ldcw hX kX8_337 dX8_yearTotal_50 ?_
      show V G 9 X 53 [(0, .ref 0), (1, .int (nI s_)), (2, .int (nI m_)), (3, .int (nI w_)), (4, .ref 34), (5, .int (nI (itr x_ i_))), (6, .int (nI t_)), (7, .int (nI k_)), (8, .int (nI i_))] [.int (nI 65537), .int (nI ((75 * (itr x_ i_)) + 74))] μ1
      refine V_iremN hX dX8_yearTotal_53 (by decide) (by have := itr_lt hx i_; omega) (by decide) ?_
      refine V_istore (ls' := [(0, .ref 0), (1, .int (nI s_)), (2, .int (nI m_)), (3, .int (nI w_)), (4, .ref 34), (5, .int (nI (((75 * (itr x_ i_)) + 74) % 65537))), (6, .int (nI t_)), (7, .int (nI k_)), (8, .int (nI i_))]) hX dX8_yearTotal_54 (by decide) rfl ?_
      refine V_aload hX dX8_yearTotal_56 4 rfl ?_
      refine V_aload_n hX dX8_yearTotal_58 0 rfl ?_
      refine V_getr (j := 1) hX fX8_10 rfl rfl dX8_yearTotal_59 ?_
      refine V_gets1 hX sX8_338 dX8_yearTotal_62 ?_
      refine V_iload hX dX8_yearTotal_65 5 rfl ?_
      refine V_bipush (v := nI 7) hX dX8_yearTotal_67 (by decide) ?_
      refine V_iremN hX dX8_yearTotal_69 (by decide) (by have := Nat.mod_lt (75 * itr x_ i_ + 74) (show 0 < 65537 by decide); omega) (by decide) ?_
      refine V_cald1N (x := nI (bdN ((((75 * (itr x_ i_)) + 74) % 65537) % 7))) hX (Nat.mod_lt _ (by decide)) (bd_nat (Nat.mod_lt _ (by decide))) dX8_yearTotal_70 ?_
      refine V_iconst (v := nI 0) hX dX8_yearTotal_71 (by decide) ?_
      show V G 9 X 72 [(0, .ref 0), (1, .int (nI s_)), (2, .int (nI m_)), (3, .int (nI w_)), (4, .ref 34), (5, .int (nI (((75 * (itr x_ i_)) + 74) % 65537))), (6, .int (nI t_)), (7, .int (nI k_)), (8, .int (nI i_))] [.int (bI (false = true)), .int (nI (bdN ((((75 * (itr x_ i_)) + 74) % 65537) % 7))), .ref 1, .ref 34] μ1
      refine V_callV (As := [.ref 1, .int (nI (bdN ((((75 * (itr x_ i_)) + 74) % 65537) % 7))), .int (bI (false = true))]) (st := []) hX mX8_155 rfl (k_pass (cold_ := false) (P := P) rfl rfl hR1.1 hok (bd_lt _) hU1 (mwR_ok hok (mw0_ok hok) i_) (by omega) (fun μ3 a3 b3 c3 d3 => ?_)) rfl (Nat.le_of_ble_eq_true rfl) (Nat.le_of_ble_eq_true rfl) dX8_yearTotal_72
      show V G 9 X 75 [(0, .ref 0), (1, .int (nI s_)), (2, .int (nI m_)), (3, .int (nI w_)), (4, .ref 34), (5, .int (nI (((75 * (itr x_ i_)) + 74) % 65537))), (6, .int (nI t_)), (7, .int (nI k_)), (8, .int (nI i_))] [] μ3
      have hR3 : RC μ3 P L S κ I := hR1.frame (fun a ha => a3 a (by omega) (by omega))
      have hM3 : keepM μ μ3 := hM1.tr (fun a ha => a3 a (by omega) (by omega))
      refine V_iincN (n := 1) (ls' := [(0, .ref 0), (1, .int (nI s_)), (2, .int (nI m_)), (3, .int (nI w_)), (4, .ref 34), (5, .int (nI (((75 * (itr x_ i_)) + 74) % 65537))), (6, .int (nI t_)), (7, .int (nI k_)), (8, .int (nI (i_ + 1)))]) hX dX8_yearTotal_75 8 rfl (by decide) rfl ?_
      refine V_goto (tgt := 35) hX dX8_yearTotal_78 (by decide) ?_
      exact ih (i_ + 1) μ3 (by omega) (by omega) hR3 hM3 b3
set_option maxRecDepth 100000 in
set_option maxHeartbeats 4000000 in
theorem lpC_year20 {G : VG} {d : Nat} {μ : VS} {Q : Option Value → VS → Prop} {X : VX} {P : PC} {L : Nat} {S κ : Nat → Nat} {I : Nat → PC} {s_ m_ : Nat} (hX : Cx G (d + 4) yX8_yearTotal cX8_yearTotal 9 (some .int) X) (hR : ∀ r μ', Q r μ' → Ret G X r μ') (hok : okP P) (hs : s_ < 65537) (hm : m_ ≤ 50) (hQ : ∀ μ', RC μ' P L S κ I → keepM μ μ' → Q (some (.int (nI (yTot P 0 s_ m_)))) μ') : ∀ (j k_ : Nat) (μ1 : VS), k_ ≤ m_ → m_ + 1 ≤ k_ + j → RC μ1 P L S κ I → keepM μ μ1 → V G 9 X 17 [(0, .ref 0), (1, .int (nI s_)), (2, .int (nI m_)), (3, .int (nI 0)), (4, .ref 34), (5, .int (nI (itr s_ (6 * k_)))), (6, .int (nI (yTot P 0 s_ k_))), (7, .int (nI k_))] [] μ1 := by
  intro j
  induction j with
  | zero =>
    intro k_ μ1 h1 h2
    exact absurd h2 (by omega)
  | succ j ih =>
    intro k_ μ1 h1 h2 hR1 hM1
    refine V_iload hX dX8_yearTotal_17 7 rfl ?_
    refine V_iload_n hX dX8_yearTotal_19 2 rfl ?_
    refine V_icmp_geN (tgt := 135) hX dX8_yearTotal_20 (by decide) (by omega) (by omega) (fun c20 => ?_) (fun c20 => ?_)
    · refine V_iload hX dX8_yearTotal_135 6 rfl ?_
      refine V_iret hX rfl dX8_yearTotal_137 ?_
      obtain rfl : k_ = m_ := by omega
      exact hR _ _ (hQ μ1 hR1 hM1)
    · refine V_aload hX dX8_yearTotal_23 4 rfl ?_
      refine V_aload_n hX dX8_yearTotal_25 0 rfl ?_
      refine V_getr (j := 1) hX fX8_10 rfl rfl dX8_yearTotal_26 ?_
      refine V_callV (As := [.ref 1]) (st := []) hX mX8_287 rfl (k_begin rfl rfl hR1.1 (fun μ2 a2 b2 d2 => ?_)) rfl (Nat.le_of_ble_eq_true rfl) (Nat.le_of_ble_eq_true rfl) dX8_yearTotal_29
      show V G 9 X 32 [(0, .ref 0), (1, .int (nI s_)), (2, .int (nI m_)), (3, .int (nI 0)), (4, .ref 34), (5, .int (nI (itr s_ (6 * k_)))), (6, .int (nI (yTot P 0 s_ k_))), (7, .int (nI k_))] [] μ2
      have hR2 : RC μ2 P L S κ I := hR1.frame (fun a ha => a2 a (by omega) (by omega))
      have hM2 : keepM μ μ2 := hM1.tr (fun a ha => a2 a (by omega) (by omega))
      refine V_iconst (v := nI 0) hX dX8_yearTotal_32 (by decide) ?_
      refine V_istore (ls' := [(0, .ref 0), (1, .int (nI s_)), (2, .int (nI m_)), (3, .int (nI 0)), (4, .ref 34), (5, .int (nI (itr s_ (6 * k_)))), (6, .int (nI (yTot P 0 s_ k_))), (7, .int (nI k_)), (8, .int (nI 0))]) hX dX8_yearTotal_33 (by decide) rfl ?_
      refine lpC_year1 (μ := μ) hX hok (itr_lt hs _) (fun μ3 hR3 hM3 hU3 => ?_) 7 0 μ2 (by decide) (by decide) hR2 hM2 b2
      refine V_iload_n hX dX8_yearTotal_81 3 rfl ?_
      refine V_iconst (v := nI 2) hX dX8_yearTotal_82 (by decide) ?_
      refine V_icmp_neN (tgt := 107) hX dX8_yearTotal_83 (by decide) (by first | omega | (have := uAt7 hok.2.2.1 (yS (itr s_ (6 * k_))) 6; omega)) (by first | omega | (have := uAt7 hok.2.2.1 (yS (itr s_ (6 * k_))) 6; omega)) (fun c83 => ?_) (fun c83 => ?_)
      · refine V_iload hX dX8_yearTotal_107 6 rfl ?_
        refine V_iload_n hX dX8_yearTotal_109 3 rfl ?_
        refine V_if_neN (tgt := 121) hX dX8_yearTotal_110 (by decide) (by first | omega | (have := uAt7 hok.2.2.1 (yS (itr s_ (6 * k_))) 6; omega)) (fun c110 => ?_) (fun c110 => ?_)
        · exact absurd c110 (by decide)
        · refine V_aload hX dX8_yearTotal_113 4 rfl ?_
          refine V_getN (x := nI ((uAt P (yS (itr s_ (6 * k_))) 6).2.2.2 9)) hX fX8_318 rfl (hU3.2.2.2 9 (by decide) (by decide)) dX8_yearTotal_115 ?_
          refine V_goto (tgt := 126) hX dX8_yearTotal_118 (by decide) ?_
          refine V_iaddN hX dX8_yearTotal_126 ?_
          refine V_istore (ls' := [(0, .ref 0), (1, .int (nI s_)), (2, .int (nI m_)), (3, .int (nI 0)), (4, .ref 34), (5, .int (nI (itr (itr s_ (6 * k_)) 6))), (6, .int (nI ((yTot P 0 s_ k_) + ((uAt P (yS (itr s_ (6 * k_))) 6).2.2.2 9)))), (7, .int (nI k_)), (8, .int (nI 6))]) hX dX8_yearTotal_127 (by decide) rfl ?_
          refine V_iincN (n := 1) (ls' := [(0, .ref 0), (1, .int (nI s_)), (2, .int (nI m_)), (3, .int (nI 0)), (4, .ref 34), (5, .int (nI (itr (itr s_ (6 * k_)) 6))), (6, .int (nI ((yTot P 0 s_ k_) + ((uAt P (yS (itr s_ (6 * k_))) 6).2.2.2 9)))), (7, .int (nI (k_ + 1))), (8, .int (nI 6))]) hX dX8_yearTotal_129 7 rfl (by decide) rfl ?_
          refine V_goto (tgt := 17) hX dX8_yearTotal_132 (by decide) ?_
          have h9 := ih (k_ + 1) μ3 (by omega) (by omega) hR3 hM3
          rw [show itr s_ (6 * (k_ + 1)) = itr (itr s_ (6 * k_)) 6 from itr_add s_ (6 * k_) 6, show yTot P 0 s_ (k_ + 1) = (yTot P 0 s_ k_) + ((uAt P (yS (itr s_ (6 * k_))) 6).2.2.2 9) from rfl] at h9
          exact V_sub [0, 1, 2, 3, 4, 5, 6, 7] rfl h9
      · exact absurd c83 (by decide)
set_option maxRecDepth 100000 in
set_option maxHeartbeats 4000000 in
theorem k_yearTotal0 {G : VG} {d : Nat} {μ : VS} {Q : Option Value → VS → Prop} {P : PC} {L : Nat} {S κ : Nat → Nat} {I : Nat → PC} {s_ m_ : Nat} (hs : s_ < 65537) (hm : m_ ≤ 50) (hRC : RC μ P L S κ I) (hok : okP P) (hQ : ∀ μ', RC μ' P L S κ I → keepM μ μ' → Q (some (.int (nI (yTot P 0 s_ m_)))) μ') : Call G (d + 4) yX8_yearTotal cX8_yearTotal 9 (some .int) [.ref 0, .int (nI s_), .int (nI m_), .int (nI 0)] μ Q := by
  intro X hX hR
  show V G 9 X 0 [(0, .ref 0), (1, .int (nI s_)), (2, .int (nI m_)), (3, .int (nI 0))] [] μ
  refine V_aload_n hX dX8_yearTotal_0 0 rfl ?_
  refine V_getr (j := 33) hX fX8_36 rfl rfl dX8_yearTotal_1 ?_
  refine V_iconst (v := nI 0) hX dX8_yearTotal_4 (by decide) ?_
  refine V_waldN (r := 34) hX rfl (by omega) (by decide) rfl dX8_yearTotal_5 ?_
  refine V_astore (ls' := [(0, .ref 0), (1, .int (nI s_)), (2, .int (nI m_)), (3, .int (nI 0)), (4, .ref 34)]) hX dX8_yearTotal_6 (by decide) rfl ?_
  refine V_iload_n hX dX8_yearTotal_8 1 rfl ?_
  refine V_istore (ls' := [(0, .ref 0), (1, .int (nI s_)), (2, .int (nI m_)), (3, .int (nI 0)), (4, .ref 34), (5, .int (nI s_))]) hX dX8_yearTotal_9 (by decide) rfl ?_
  refine V_iconst (v := nI 0) hX dX8_yearTotal_11 (by decide) ?_
  refine V_istore (ls' := [(0, .ref 0), (1, .int (nI s_)), (2, .int (nI m_)), (3, .int (nI 0)), (4, .ref 34), (5, .int (nI s_)), (6, .int (nI 0))]) hX dX8_yearTotal_12 (by decide) rfl ?_
  refine V_iconst (v := nI 0) hX dX8_yearTotal_14 (by decide) ?_
  refine V_istore (ls' := [(0, .ref 0), (1, .int (nI s_)), (2, .int (nI m_)), (3, .int (nI 0)), (4, .ref 34), (5, .int (nI s_)), (6, .int (nI 0)), (7, .int (nI 0))]) hX dX8_yearTotal_15 (by decide) rfl ?_
  exact lpC_year20 (μ := μ) hX hR hok hs hm hQ (m_ + 1) 0 μ (by omega) (by omega) hRC (keepM.rf μ)
set_option maxRecDepth 100000 in
set_option maxHeartbeats 4000000 in
theorem lpC_year21 {G : VG} {d : Nat} {μ : VS} {Q : Option Value → VS → Prop} {X : VX} {P : PC} {L : Nat} {S κ : Nat → Nat} {I : Nat → PC} {s_ m_ : Nat} (hX : Cx G (d + 4) yX8_yearTotal cX8_yearTotal 9 (some .int) X) (hR : ∀ r μ', Q r μ' → Ret G X r μ') (hok : okP P) (hs : s_ < 65537) (hm : m_ ≤ 50) (hQ : ∀ μ', RC μ' P L S κ I → keepM μ μ' → Q (some (.int (nI (yTot P 1 s_ m_)))) μ') : ∀ (j k_ : Nat) (μ1 : VS), k_ ≤ m_ → m_ + 1 ≤ k_ + j → RC μ1 P L S κ I → keepM μ μ1 → V G 9 X 17 [(0, .ref 0), (1, .int (nI s_)), (2, .int (nI m_)), (3, .int (nI 1)), (4, .ref 34), (5, .int (nI (itr s_ (6 * k_)))), (6, .int (nI (yTot P 1 s_ k_))), (7, .int (nI k_))] [] μ1 := by
  intro j
  induction j with
  | zero =>
    intro k_ μ1 h1 h2
    exact absurd h2 (by omega)
  | succ j ih =>
    intro k_ μ1 h1 h2 hR1 hM1
    refine V_iload hX dX8_yearTotal_17 7 rfl ?_
    refine V_iload_n hX dX8_yearTotal_19 2 rfl ?_
    refine V_icmp_geN (tgt := 135) hX dX8_yearTotal_20 (by decide) (by omega) (by omega) (fun c20 => ?_) (fun c20 => ?_)
    · refine V_iload hX dX8_yearTotal_135 6 rfl ?_
      refine V_iret hX rfl dX8_yearTotal_137 ?_
      obtain rfl : k_ = m_ := by omega
      exact hR _ _ (hQ μ1 hR1 hM1)
    · refine V_aload hX dX8_yearTotal_23 4 rfl ?_
      refine V_aload_n hX dX8_yearTotal_25 0 rfl ?_
      refine V_getr (j := 1) hX fX8_10 rfl rfl dX8_yearTotal_26 ?_
      refine V_callV (As := [.ref 1]) (st := []) hX mX8_287 rfl (k_begin rfl rfl hR1.1 (fun μ2 a2 b2 d2 => ?_)) rfl (Nat.le_of_ble_eq_true rfl) (Nat.le_of_ble_eq_true rfl) dX8_yearTotal_29
      show V G 9 X 32 [(0, .ref 0), (1, .int (nI s_)), (2, .int (nI m_)), (3, .int (nI 1)), (4, .ref 34), (5, .int (nI (itr s_ (6 * k_)))), (6, .int (nI (yTot P 1 s_ k_))), (7, .int (nI k_))] [] μ2
      have hR2 : RC μ2 P L S κ I := hR1.frame (fun a ha => a2 a (by omega) (by omega))
      have hM2 : keepM μ μ2 := hM1.tr (fun a ha => a2 a (by omega) (by omega))
      refine V_iconst (v := nI 0) hX dX8_yearTotal_32 (by decide) ?_
      refine V_istore (ls' := [(0, .ref 0), (1, .int (nI s_)), (2, .int (nI m_)), (3, .int (nI 1)), (4, .ref 34), (5, .int (nI (itr s_ (6 * k_)))), (6, .int (nI (yTot P 1 s_ k_))), (7, .int (nI k_)), (8, .int (nI 0))]) hX dX8_yearTotal_33 (by decide) rfl ?_
      refine lpC_year1 (μ := μ) hX hok (itr_lt hs _) (fun μ3 hR3 hM3 hU3 => ?_) 7 0 μ2 (by decide) (by decide) hR2 hM2 b2
      refine V_iload_n hX dX8_yearTotal_81 3 rfl ?_
      refine V_iconst (v := nI 2) hX dX8_yearTotal_82 (by decide) ?_
      refine V_icmp_neN (tgt := 107) hX dX8_yearTotal_83 (by decide) (by first | omega | (have := uAt7 hok.2.2.1 (yS (itr s_ (6 * k_))) 6; omega)) (by first | omega | (have := uAt7 hok.2.2.1 (yS (itr s_ (6 * k_))) 6; omega)) (fun c83 => ?_) (fun c83 => ?_)
      · refine V_iload hX dX8_yearTotal_107 6 rfl ?_
        refine V_iload_n hX dX8_yearTotal_109 3 rfl ?_
        refine V_if_neN (tgt := 121) hX dX8_yearTotal_110 (by decide) (by first | omega | (have := uAt7 hok.2.2.1 (yS (itr s_ (6 * k_))) 6; omega)) (fun c110 => ?_) (fun c110 => ?_)
        · refine V_aload hX dX8_yearTotal_121 4 rfl ?_
          refine V_getN (x := nI ((uAt P (yS (itr s_ (6 * k_))) 6).2.2.2 10)) hX fX8_321 rfl (hU3.2.2.2 10 (by decide) (by decide)) dX8_yearTotal_123 ?_
          refine V_iaddN hX dX8_yearTotal_126 ?_
          refine V_istore (ls' := [(0, .ref 0), (1, .int (nI s_)), (2, .int (nI m_)), (3, .int (nI 1)), (4, .ref 34), (5, .int (nI (itr (itr s_ (6 * k_)) 6))), (6, .int (nI ((yTot P 1 s_ k_) + ((uAt P (yS (itr s_ (6 * k_))) 6).2.2.2 10)))), (7, .int (nI k_)), (8, .int (nI 6))]) hX dX8_yearTotal_127 (by decide) rfl ?_
          refine V_iincN (n := 1) (ls' := [(0, .ref 0), (1, .int (nI s_)), (2, .int (nI m_)), (3, .int (nI 1)), (4, .ref 34), (5, .int (nI (itr (itr s_ (6 * k_)) 6))), (6, .int (nI ((yTot P 1 s_ k_) + ((uAt P (yS (itr s_ (6 * k_))) 6).2.2.2 10)))), (7, .int (nI (k_ + 1))), (8, .int (nI 6))]) hX dX8_yearTotal_129 7 rfl (by decide) rfl ?_
          refine V_goto (tgt := 17) hX dX8_yearTotal_132 (by decide) ?_
          have h9 := ih (k_ + 1) μ3 (by omega) (by omega) hR3 hM3
          rw [show itr s_ (6 * (k_ + 1)) = itr (itr s_ (6 * k_)) 6 from itr_add s_ (6 * k_) 6, show yTot P 1 s_ (k_ + 1) = (yTot P 1 s_ k_) + ((uAt P (yS (itr s_ (6 * k_))) 6).2.2.2 10) from rfl] at h9
          exact V_sub [0, 1, 2, 3, 4, 5, 6, 7] rfl h9
        · exact absurd c110 (by decide)
      · exact absurd c83 (by decide)
set_option maxRecDepth 100000 in
set_option maxHeartbeats 4000000 in
theorem k_yearTotal1 {G : VG} {d : Nat} {μ : VS} {Q : Option Value → VS → Prop} {P : PC} {L : Nat} {S κ : Nat → Nat} {I : Nat → PC} {s_ m_ : Nat} (hs : s_ < 65537) (hm : m_ ≤ 50) (hRC : RC μ P L S κ I) (hok : okP P) (hQ : ∀ μ', RC μ' P L S κ I → keepM μ μ' → Q (some (.int (nI (yTot P 1 s_ m_)))) μ') : Call G (d + 4) yX8_yearTotal cX8_yearTotal 9 (some .int) [.ref 0, .int (nI s_), .int (nI m_), .int (nI 1)] μ Q := by
  intro X hX hR
  show V G 9 X 0 [(0, .ref 0), (1, .int (nI s_)), (2, .int (nI m_)), (3, .int (nI 1))] [] μ
  refine V_aload_n hX dX8_yearTotal_0 0 rfl ?_
  refine V_getr (j := 33) hX fX8_36 rfl rfl dX8_yearTotal_1 ?_
  refine V_iconst (v := nI 0) hX dX8_yearTotal_4 (by decide) ?_
  refine V_waldN (r := 34) hX rfl (by omega) (by decide) rfl dX8_yearTotal_5 ?_
  refine V_astore (ls' := [(0, .ref 0), (1, .int (nI s_)), (2, .int (nI m_)), (3, .int (nI 1)), (4, .ref 34)]) hX dX8_yearTotal_6 (by decide) rfl ?_
  refine V_iload_n hX dX8_yearTotal_8 1 rfl ?_
  refine V_istore (ls' := [(0, .ref 0), (1, .int (nI s_)), (2, .int (nI m_)), (3, .int (nI 1)), (4, .ref 34), (5, .int (nI s_))]) hX dX8_yearTotal_9 (by decide) rfl ?_
  refine V_iconst (v := nI 0) hX dX8_yearTotal_11 (by decide) ?_
  refine V_istore (ls' := [(0, .ref 0), (1, .int (nI s_)), (2, .int (nI m_)), (3, .int (nI 1)), (4, .ref 34), (5, .int (nI s_)), (6, .int (nI 0))]) hX dX8_yearTotal_12 (by decide) rfl ?_
  refine V_iconst (v := nI 0) hX dX8_yearTotal_14 (by decide) ?_
  refine V_istore (ls' := [(0, .ref 0), (1, .int (nI s_)), (2, .int (nI m_)), (3, .int (nI 1)), (4, .ref 34), (5, .int (nI s_)), (6, .int (nI 0)), (7, .int (nI 0))]) hX dX8_yearTotal_15 (by decide) rfl ?_
  exact lpC_year21 (μ := μ) hX hR hok hs hm hQ (m_ + 1) 0 μ (by omega) (by omega) hRC (keepM.rf μ)
set_option maxRecDepth 100000 in
set_option maxHeartbeats 4000000 in
theorem lpC_year22 {G : VG} {d : Nat} {μ : VS} {Q : Option Value → VS → Prop} {X : VX} {P : PC} {L : Nat} {S κ : Nat → Nat} {I : Nat → PC} {s_ m_ : Nat} (hX : Cx G (d + 4) yX8_yearTotal cX8_yearTotal 9 (some .int) X) (hR : ∀ r μ', Q r μ' → Ret G X r μ') (hok : okP P) (hs : s_ < 65537) (hm : m_ ≤ 50) (hQ : ∀ μ', RC μ' P L S κ I → keepM μ μ' → Q (some (.int (nI (yTot P 2 s_ m_)))) μ') : ∀ (j k_ : Nat) (μ1 : VS), k_ ≤ m_ → m_ + 1 ≤ k_ + j → RC μ1 P L S κ I → keepM μ μ1 → V G 9 X 17 [(0, .ref 0), (1, .int (nI s_)), (2, .int (nI m_)), (3, .int (nI 2)), (4, .ref 34), (5, .int (nI (itr s_ (6 * k_)))), (6, .int (nI (yTot P 2 s_ k_))), (7, .int (nI k_))] [] μ1 := by
  intro j
  induction j with
  | zero =>
    intro k_ μ1 h1 h2
    exact absurd h2 (by omega)
  | succ j ih =>
    intro k_ μ1 h1 h2 hR1 hM1
    refine V_iload hX dX8_yearTotal_17 7 rfl ?_
    refine V_iload_n hX dX8_yearTotal_19 2 rfl ?_
    refine V_icmp_geN (tgt := 135) hX dX8_yearTotal_20 (by decide) (by omega) (by omega) (fun c20 => ?_) (fun c20 => ?_)
    · refine V_iload hX dX8_yearTotal_135 6 rfl ?_
      refine V_iret hX rfl dX8_yearTotal_137 ?_
      obtain rfl : k_ = m_ := by omega
      exact hR _ _ (hQ μ1 hR1 hM1)
    · refine V_aload hX dX8_yearTotal_23 4 rfl ?_
      refine V_aload_n hX dX8_yearTotal_25 0 rfl ?_
      refine V_getr (j := 1) hX fX8_10 rfl rfl dX8_yearTotal_26 ?_
      refine V_callV (As := [.ref 1]) (st := []) hX mX8_287 rfl (k_begin rfl rfl hR1.1 (fun μ2 a2 b2 d2 => ?_)) rfl (Nat.le_of_ble_eq_true rfl) (Nat.le_of_ble_eq_true rfl) dX8_yearTotal_29
      show V G 9 X 32 [(0, .ref 0), (1, .int (nI s_)), (2, .int (nI m_)), (3, .int (nI 2)), (4, .ref 34), (5, .int (nI (itr s_ (6 * k_)))), (6, .int (nI (yTot P 2 s_ k_))), (7, .int (nI k_))] [] μ2
      have hR2 : RC μ2 P L S κ I := hR1.frame (fun a ha => a2 a (by omega) (by omega))
      have hM2 : keepM μ μ2 := hM1.tr (fun a ha => a2 a (by omega) (by omega))
      refine V_iconst (v := nI 0) hX dX8_yearTotal_32 (by decide) ?_
      refine V_istore (ls' := [(0, .ref 0), (1, .int (nI s_)), (2, .int (nI m_)), (3, .int (nI 2)), (4, .ref 34), (5, .int (nI (itr s_ (6 * k_)))), (6, .int (nI (yTot P 2 s_ k_))), (7, .int (nI k_)), (8, .int (nI 0))]) hX dX8_yearTotal_33 (by decide) rfl ?_
      refine lpC_year1 (μ := μ) hX hok (itr_lt hs _) (fun μ3 hR3 hM3 hU3 => ?_) 7 0 μ2 (by decide) (by decide) hR2 hM2 b2
      refine V_iload_n hX dX8_yearTotal_81 3 rfl ?_
      refine V_iconst (v := nI 2) hX dX8_yearTotal_82 (by decide) ?_
      refine V_icmp_neN (tgt := 107) hX dX8_yearTotal_83 (by decide) (by first | omega | (have := uAt7 hok.2.2.1 (yS (itr s_ (6 * k_))) 6; omega)) (by first | omega | (have := uAt7 hok.2.2.1 (yS (itr s_ (6 * k_))) 6; omega)) (fun c83 => ?_) (fun c83 => ?_)
      · exact absurd c83 (by decide)
      · refine V_iload hX dX8_yearTotal_86 6 rfl ?_
        refine V_aload hX dX8_yearTotal_88 4 rfl ?_
        refine V_getN (x := nI ((uAt P (yS (itr s_ (6 * k_))) 6).2.2.2 7)) hX fX8_305 rfl (hU3.2.2.2 7 (by decide) (by decide)) dX8_yearTotal_90 ?_
        refine V_if_neN (tgt := 100) hX dX8_yearTotal_93 (by decide) (by first | omega | (have := uAt7 hok.2.2.1 (yS (itr s_ (6 * k_))) 6; omega)) (fun c93 => ?_) (fun c93 => ?_)
        · refine V_iconst (v := nI 0) hX dX8_yearTotal_100 (by decide) ?_
          refine V_iaddN hX dX8_yearTotal_101 ?_
          refine V_istore (ls' := [(0, .ref 0), (1, .int (nI s_)), (2, .int (nI m_)), (3, .int (nI 2)), (4, .ref 34), (5, .int (nI (itr (itr s_ (6 * k_)) 6))), (6, .int (nI ((yTot P 2 s_ k_) + 0))), (7, .int (nI k_)), (8, .int (nI 6))]) hX dX8_yearTotal_102 (by decide) rfl ?_
          refine V_goto (tgt := 129) hX dX8_yearTotal_104 (by decide) ?_
          refine V_iincN (n := 1) (ls' := [(0, .ref 0), (1, .int (nI s_)), (2, .int (nI m_)), (3, .int (nI 2)), (4, .ref 34), (5, .int (nI (itr (itr s_ (6 * k_)) 6))), (6, .int (nI ((yTot P 2 s_ k_) + 0))), (7, .int (nI (k_ + 1))), (8, .int (nI 6))]) hX dX8_yearTotal_129 7 rfl (by decide) rfl ?_
          refine V_goto (tgt := 17) hX dX8_yearTotal_132 (by decide) ?_
          have h9 := ih (k_ + 1) μ3 (by omega) (by omega) hR3 hM3
          rw [show itr s_ (6 * (k_ + 1)) = itr (itr s_ (6 * k_)) 6 from itr_add s_ (6 * k_) 6, show yTot P 2 s_ (k_ + 1) = (yTot P 2 s_ k_) + 0 from by show _ + (if (2 : Nat) = 2 then _ else _) = _; rw [if_pos rfl, if_neg c93]] at h9
          exact V_sub [0, 1, 2, 3, 4, 5, 6, 7] rfl h9
        · refine V_iconst (v := nI 1) hX dX8_yearTotal_96 (by decide) ?_
          refine V_goto (tgt := 101) hX dX8_yearTotal_97 (by decide) ?_
          refine V_iaddN hX dX8_yearTotal_101 ?_
          refine V_istore (ls' := [(0, .ref 0), (1, .int (nI s_)), (2, .int (nI m_)), (3, .int (nI 2)), (4, .ref 34), (5, .int (nI (itr (itr s_ (6 * k_)) 6))), (6, .int (nI ((yTot P 2 s_ k_) + 1))), (7, .int (nI k_)), (8, .int (nI 6))]) hX dX8_yearTotal_102 (by decide) rfl ?_
          refine V_goto (tgt := 129) hX dX8_yearTotal_104 (by decide) ?_
          refine V_iincN (n := 1) (ls' := [(0, .ref 0), (1, .int (nI s_)), (2, .int (nI m_)), (3, .int (nI 2)), (4, .ref 34), (5, .int (nI (itr (itr s_ (6 * k_)) 6))), (6, .int (nI ((yTot P 2 s_ k_) + 1))), (7, .int (nI (k_ + 1))), (8, .int (nI 6))]) hX dX8_yearTotal_129 7 rfl (by decide) rfl ?_
          refine V_goto (tgt := 17) hX dX8_yearTotal_132 (by decide) ?_
          have h9 := ih (k_ + 1) μ3 (by omega) (by omega) hR3 hM3
          rw [show itr s_ (6 * (k_ + 1)) = itr (itr s_ (6 * k_)) 6 from itr_add s_ (6 * k_) 6, show yTot P 2 s_ (k_ + 1) = (yTot P 2 s_ k_) + 1 from by show _ + (if (2 : Nat) = 2 then _ else _) = _; rw [if_pos rfl, if_pos c93]] at h9
          exact V_sub [0, 1, 2, 3, 4, 5, 6, 7] rfl h9
set_option maxRecDepth 100000 in
set_option maxHeartbeats 4000000 in
theorem k_yearTotal2 {G : VG} {d : Nat} {μ : VS} {Q : Option Value → VS → Prop} {P : PC} {L : Nat} {S κ : Nat → Nat} {I : Nat → PC} {s_ m_ : Nat} (hs : s_ < 65537) (hm : m_ ≤ 50) (hRC : RC μ P L S κ I) (hok : okP P) (hQ : ∀ μ', RC μ' P L S κ I → keepM μ μ' → Q (some (.int (nI (yTot P 2 s_ m_)))) μ') : Call G (d + 4) yX8_yearTotal cX8_yearTotal 9 (some .int) [.ref 0, .int (nI s_), .int (nI m_), .int (nI 2)] μ Q := by
  intro X hX hR
  show V G 9 X 0 [(0, .ref 0), (1, .int (nI s_)), (2, .int (nI m_)), (3, .int (nI 2))] [] μ
  refine V_aload_n hX dX8_yearTotal_0 0 rfl ?_
  refine V_getr (j := 33) hX fX8_36 rfl rfl dX8_yearTotal_1 ?_
  refine V_iconst (v := nI 0) hX dX8_yearTotal_4 (by decide) ?_
  refine V_waldN (r := 34) hX rfl (by omega) (by decide) rfl dX8_yearTotal_5 ?_
  refine V_astore (ls' := [(0, .ref 0), (1, .int (nI s_)), (2, .int (nI m_)), (3, .int (nI 2)), (4, .ref 34)]) hX dX8_yearTotal_6 (by decide) rfl ?_
  refine V_iload_n hX dX8_yearTotal_8 1 rfl ?_
  refine V_istore (ls' := [(0, .ref 0), (1, .int (nI s_)), (2, .int (nI m_)), (3, .int (nI 2)), (4, .ref 34), (5, .int (nI s_))]) hX dX8_yearTotal_9 (by decide) rfl ?_
  refine V_iconst (v := nI 0) hX dX8_yearTotal_11 (by decide) ?_
  refine V_istore (ls' := [(0, .ref 0), (1, .int (nI s_)), (2, .int (nI m_)), (3, .int (nI 2)), (4, .ref 34), (5, .int (nI s_)), (6, .int (nI 0))]) hX dX8_yearTotal_12 (by decide) rfl ?_
  refine V_iconst (v := nI 0) hX dX8_yearTotal_14 (by decide) ?_
  refine V_istore (ls' := [(0, .ref 0), (1, .int (nI s_)), (2, .int (nI m_)), (3, .int (nI 2)), (4, .ref 34), (5, .int (nI s_)), (6, .int (nI 0)), (7, .int (nI 0))]) hX dX8_yearTotal_15 (by decide) rfl ?_
  exact lpC_year22 (μ := μ) hX hR hok hs hm hQ (m_ + 1) 0 μ (by omega) (by omega) hRC (keepM.rf μ)
theorem k_yearTotal {G : VG} {d : Nat} {μ : VS} {Q : Option Value → VS → Prop} {P : PC} {L : Nat} {S κ : Nat → Nat} {I : Nat → PC} {s_ m_ b_ : Nat} (hb : b_ ≤ 2) (hs : s_ < 65537) (hm : m_ ≤ 50) (hRC : RC μ P L S κ I) (hok : okP P) (hQ : ∀ μ', RC μ' P L S κ I → keepM μ μ' → Q (some (.int (nI (yTot P b_ s_ m_)))) μ') : Call G (d + 4) yX8_yearTotal cX8_yearTotal 9 (some .int) [.ref 0, .int (nI s_), .int (nI m_), .int (nI b_)] μ Q := by
  match b_, hb with
  | 0, _ => exact k_yearTotal0 hs hm hRC hok hQ
  | 1, _ => exact k_yearTotal1 hs hm hRC hok hQ
  | 2, _ => exact k_yearTotal2 hs hm hRC hok hQ
set_option maxRecDepth 100000 in
set_option maxHeartbeats 4000000 in
theorem kC_year {G : VG} {d : Nat} {μ : VS} {Q : Option Value → VS → Prop} {P : PC} {L : Nat} {S κ : Nat → Nat} {I : Nat → PC} {x_ m_ w_ : Int32} (hRC : RC μ P L S κ I) (hok : okP P) (hpd : okPad L S) (hQ : ∀ μ', RC μ' P L S κ I → keepM μ μ' → Q (some (.int (yearS P x_ m_ w_))) μ') : Call G (d + 5) yX8_year cX8_year 4 (some .int) [.ref 0, .int x_, .int m_, .int w_] μ Q := by
  intro X hX hR
  have hP := hRC.1
  have hL := hRC.2.1
  have hS := hpd.2
  have hL60 := hpd.1
  have hP4 := hok.2.2.2.2.1
  show V G 4 X 0 [(0, .ref 0), (1, .int x_), (2, .int m_), (3, .int w_)] [] μ
  refine V_iload_n hX dX8_year_0 1 rfl ?_
  refine V_iconst (v := nI 0) hX dX8_year_1 (by decide) ?_
  refine V_sipush (v := nI 9999) hX dX8_year_2 (by decide) ?_
  refine V_callS (As := [.int x_, .int (nI 0), .int (nI 9999)]) (st := []) hX mX8_73 (k_isOutside ?_) rfl (Nat.le_of_ble_eq_true rfl) (Nat.le_of_ble_eq_true rfl) dX8_year_5
  show V G 4 X 8 [(0, .ref 0), (1, .int x_), (2, .int m_), (3, .int w_)] [.int (bI (x_ < nI 0 ∨ nI 9999 < x_))] μ
  refine V_if_neB (tgt := 30) hX dX8_year_8 (by decide) (fun c8 => ?_) (fun c8 => ?_)
  · refine V_bipush (v := (-2)) hX dX8_year_30 (by decide) ?_
    refine V_iret hX rfl dX8_year_32 ?_
    have h9 := hQ μ
    rw [show yearS P x_ m_ w_ = -2 from if_neg (fun z => not_in_of_out c8 z.1)] at h9
    exact hR _ _ (h9 hRC (keepM.rf μ))
  · refine V_iload_n hX dX8_year_11 2 rfl ?_
    refine V_iconst (v := nI 1) hX dX8_year_12 (by decide) ?_
    refine V_bipush (v := nI 50) hX dX8_year_13 (by decide) ?_
    refine V_callS (As := [.int m_, .int (nI 1), .int (nI 50)]) (st := []) hX mX8_73 (k_isOutside ?_) rfl (Nat.le_of_ble_eq_true rfl) (Nat.le_of_ble_eq_true rfl) dX8_year_15
    show V G 4 X 18 [(0, .ref 0), (1, .int x_), (2, .int m_), (3, .int w_)] [.int (bI (m_ < nI 1 ∨ nI 50 < m_))] μ
    refine V_if_neB (tgt := 30) hX dX8_year_18 (by decide) (fun c18 => ?_) (fun c18 => ?_)
    · refine V_bipush (v := (-2)) hX dX8_year_30 (by decide) ?_
      refine V_iret hX rfl dX8_year_32 ?_
      have h9 := hQ μ
      rw [show yearS P x_ m_ w_ = -2 from if_neg (fun z => not_in_of_out c18 z.2.1)] at h9
      exact hR _ _ (h9 hRC (keepM.rf μ))
    · refine V_iload_n hX dX8_year_21 3 rfl ?_
      refine V_iconst (v := nI 0) hX dX8_year_22 (by decide) ?_
      refine V_iconst (v := nI 2) hX dX8_year_23 (by decide) ?_
      refine V_callS (As := [.int w_, .int (nI 0), .int (nI 2)]) (st := []) hX mX8_73 (k_isOutside ?_) rfl (Nat.le_of_ble_eq_true rfl) (Nat.le_of_ble_eq_true rfl) dX8_year_24
      show V G 4 X 27 [(0, .ref 0), (1, .int x_), (2, .int m_), (3, .int w_)] [.int (bI (w_ < nI 0 ∨ nI 2 < w_))] μ
      refine V_if_eqB (tgt := 33) hX dX8_year_27 (by decide) (fun c27 => ?_) (fun c27 => ?_)
      · obtain ⟨s_, hs0, hs1, rfl⟩ := nat_of_out (by decide) (by decide) c8
        obtain ⟨k_, hk0, hk1, rfl⟩ := nat_of_out (by decide) (by decide) c18
        obtain ⟨b_, hb0, hb1, rfl⟩ := nat_of_out (by decide) (by decide) c27
        refine V_aload_n hX dX8_year_33 0 rfl ?_
        refine V_iload_n hX dX8_year_34 1 rfl ?_
        refine V_iload_n hX dX8_year_35 2 rfl ?_
        refine V_iload_n hX dX8_year_36 3 rfl ?_
        refine V_callV (As := [.int (nI s_), .int (nI k_), .int (nI b_)]) (st := []) hX mX8_268 rfl (k_yearTotal (by omega) (by omega) (by omega) hRC hok (fun μ2 hRC2 hkM => ?_)) rfl (Nat.le_of_ble_eq_true rfl) (Nat.le_of_ble_eq_true rfl) dX8_year_37
        show V G 4 X 40 [(0, .ref 0), (1, .int (nI s_)), (2, .int (nI k_)), (3, .int (nI b_))] [.int (nI (yTot P b_ s_ k_))] μ2
        refine V_iret hX rfl dX8_year_40 ?_
        have h9 := hQ μ2
        rw [show yearS P (nI s_) (nI k_) (nI b_) = _ from if_pos ⟨in_of_not_out c8, in_of_not_out c18, in_of_not_out c27⟩, nI_clamp (by omega), nI_clamp (by omega), nI_clamp (by omega)] at h9
        exact hR _ _ (h9 hRC2 hkM)
      · refine V_bipush (v := (-2)) hX dX8_year_30 (by decide) ?_
        refine V_iret hX rfl dX8_year_32 ?_
        have h9 := hQ μ
        rw [show yearS P x_ m_ w_ = -2 from if_neg (fun z => not_in_of_out c27 z.2.2)] at h9
        exact hR _ _ (h9 hRC (keepM.rf μ))
set_option maxRecDepth 100000 in
set_option maxHeartbeats 4000000 in
theorem kM_signAt {G : VG} {d : Nat} {μ : VS} {Q : Option Value → VS → Prop} {n_ : Nat} (hn : n_ < 7) (hQ : Q (some (.int (nI (bdN n_)))) μ) : Call G d yX9_signAt cX9_signAt 1 (some .int) [.int (nI n_)] μ Q := by
  intro X hX hR
  show V G 1 X 0 [(0, .int (nI n_))] [] μ
  refine V_iload_n hX dX9_signAt_0 0 rfl ?_
  refine V_if_neN (tgt := 9) hX dX9_signAt_1 (by decide) (by omega) (fun c1 => ?_) (fun c1 => ?_)
  · refine V_iload_n hX dX9_signAt_9 0 rfl ?_
    refine V_iconst (v := nI 1) hX dX9_signAt_10 (by decide) ?_
    refine V_icmp_neN (tgt := 19) hX dX9_signAt_11 (by decide) (by omega) (by omega) (fun c11 => ?_) (fun c11 => ?_)
    · refine V_iload_n hX dX9_signAt_19 0 rfl ?_
      refine V_iconst (v := nI 2) hX dX9_signAt_20 (by decide) ?_
      refine V_icmp_neN (tgt := 29) hX dX9_signAt_21 (by decide) (by omega) (by omega) (fun c21 => ?_) (fun c21 => ?_)
      · refine V_iload_n hX dX9_signAt_29 0 rfl ?_
        refine V_iconst (v := nI 3) hX dX9_signAt_30 (by decide) ?_
        refine V_icmp_neN (tgt := 39) hX dX9_signAt_31 (by decide) (by omega) (by omega) (fun c31 => ?_) (fun c31 => ?_)
        · refine V_iload_n hX dX9_signAt_39 0 rfl ?_
          refine V_iconst (v := nI 4) hX dX9_signAt_40 (by decide) ?_
          refine V_icmp_neN (tgt := 49) hX dX9_signAt_41 (by decide) (by omega) (by omega) (fun c41 => ?_) (fun c41 => ?_)
          · refine V_iload_n hX dX9_signAt_49 0 rfl ?_
            refine V_iconst (v := nI 5) hX dX9_signAt_50 (by decide) ?_
            refine V_icmp_neN (tgt := 59) hX dX9_signAt_51 (by decide) (by omega) (by omega) (fun c51 => ?_) (fun c51 => ?_)
            · refine V_bipush (v := nI 126) hX dX9_signAt_59 (by decide) ?_
              refine V_iret hX rfl dX9_signAt_61 ?_
              obtain rfl : n_ = 6 := by omega
              exact hR _ _ hQ
            · refine V_bipush (v := nI 115) hX dX9_signAt_54 (by decide) ?_
              refine V_goto (tgt := 61) hX dX9_signAt_56 (by decide) ?_
              refine V_iret hX rfl dX9_signAt_61 ?_
              obtain rfl : n_ = 5 := by omega
              exact hR _ _ hQ
          · refine V_bipush (v := nI 99) hX dX9_signAt_44 (by decide) ?_
            refine V_goto (tgt := 61) hX dX9_signAt_46 (by decide) ?_
            refine V_iret hX rfl dX9_signAt_61 ?_
            obtain rfl : n_ = 4 := by omega
            exact hR _ _ hQ
        · refine V_bipush (v := nI 110) hX dX9_signAt_34 (by decide) ?_
          refine V_goto (tgt := 61) hX dX9_signAt_36 (by decide) ?_
          refine V_iret hX rfl dX9_signAt_61 ?_
          obtain rfl : n_ = 3 := by omega
          exact hR _ _ hQ
      · refine V_bipush (v := nI 111) hX dX9_signAt_24 (by decide) ?_
        refine V_goto (tgt := 61) hX dX9_signAt_26 (by decide) ?_
        refine V_iret hX rfl dX9_signAt_61 ?_
        obtain rfl : n_ = 2 := by omega
        exact hR _ _ hQ
    · refine V_bipush (v := nI 104) hX dX9_signAt_14 (by decide) ?_
      refine V_goto (tgt := 61) hX dX9_signAt_16 (by decide) ?_
      refine V_iret hX rfl dX9_signAt_61 ?_
      obtain rfl : n_ = 1 := by omega
      exact hR _ _ hQ
  · refine V_bipush (v := nI 119) hX dX9_signAt_4 (by decide) ?_
    refine V_goto (tgt := 61) hX dX9_signAt_6 (by decide) ?_
    refine V_iret hX rfl dX9_signAt_61 ?_
    obtain rfl : n_ = 0 := by omega
    exact hR _ _ hQ
set_option maxRecDepth 100000 in
set_option maxHeartbeats 4000000 in
theorem lpM_year1 {G : VG} {d : Nat} {μ : VS} {X : VX} {s_ m_ w_ t0_ t1_ t2_ k_ x_ : Nat} (hX : Cx G (d + 4) yX9_year cX9_year 10 (some .int) X) (hx : x_ < 65537) (hF : ∀ μ1 : VS, (∀ a, a ≠ 76 → μ1.1 a = μ.1 a) ∧ (∀ q, q < 6 → μ1.1 76 q = nI (yS x_ q)) ∧ μ1.2 = μ.2 → V G 10 X 108 [(0, .ref 69), (1, .int (nI s_)), (2, .int (nI m_)), (3, .int (nI w_)), (4, .int (nI (itr x_ 6))), (5, .int (nI t0_)), (6, .int (nI t1_)), (7, .int (nI t2_)), (8, .int (nI k_)), (9, .int (nI 6))] [] μ1) : ∀ (j i_ : Nat) (μ1 : VS), i_ ≤ 6 → 7 ≤ i_ + j → (∀ a, a ≠ 76 → μ1.1 a = μ.1 a) ∧ (∀ q, q < i_ → μ1.1 76 q = nI (yS x_ q)) ∧ μ1.2 = μ.2 → V G 10 X 67 [(0, .ref 69), (1, .int (nI s_)), (2, .int (nI m_)), (3, .int (nI w_)), (4, .int (nI (itr x_ i_))), (5, .int (nI t0_)), (6, .int (nI t1_)), (7, .int (nI t2_)), (8, .int (nI k_)), (9, .int (nI i_))] [] μ1 := by
  intro j
  induction j with
  | zero =>
    intro i_ μ1 h1 h2
    exact absurd h2 (by omega)
  | succ j ih =>
    intro i_ μ1 h1 h2 hV
    refine V_iload hX dX9_year_67 9 rfl ?_
    refine V_bipush (v := nI 6) hX dX9_year_69 (by decide) ?_
    refine V_icmp_geN (tgt := 108) hX dX9_year_71 (by decide) (by omega) (by omega) (fun c71 => ?_) (fun c71 => ?_)
    · obtain rfl : i_ = 6 := by omega
      exact hF μ1 hV
    · refine V_bipush (v := nI 75) hX dX9_year_74 (by decide) ?_
      refine V_iload hX dX9_year_76 4 rfl ?_
      refine V_imulN hX dX9_year_78 ?_
      refine V_bipush (v := nI 74) hX dX9_year_79 (by decide) ?_
      refine V_iaddN hX dX9_year_81 ?_
      refine V_ldc hX kX9_208 dX9_year_82 ?_
      show V G 10 X 84 [(0, .ref 69), (1, .int (nI s_)), (2, .int (nI m_)), (3, .int (nI w_)), (4, .int (nI (itr x_ i_))), (5, .int (nI t0_)), (6, .int (nI t1_)), (7, .int (nI t2_)), (8, .int (nI k_)), (9, .int (nI i_))] [.int (nI 65537), .int (nI ((75 * (itr x_ i_)) + 74))] μ1
      refine V_iremN hX dX9_year_84 (by decide) (by have := itr_lt hx i_; omega) (by decide) ?_
      refine V_istore (ls' := [(0, .ref 69), (1, .int (nI s_)), (2, .int (nI m_)), (3, .int (nI w_)), (4, .int (nI (((75 * (itr x_ i_)) + 74) % 65537))), (5, .int (nI t0_)), (6, .int (nI t1_)), (7, .int (nI t2_)), (8, .int (nI k_)), (9, .int (nI i_))]) hX dX9_year_85 (by decide) rfl ?_
      refine V_aload_n hX dX9_year_87 0 rfl ?_
      refine V_getr (j := 76) hX fX9_38 rfl rfl dX9_year_88 ?_
      refine V_iload hX dX9_year_91 9 rfl ?_
      refine V_iload hX dX9_year_93 4 rfl ?_
      refine V_bipush (v := nI 7) hX dX9_year_95 (by decide) ?_
      refine V_iremN hX dX9_year_97 (by decide) (by have := Nat.mod_lt (75 * itr x_ i_ + 74) (show 0 < 65537 by decide); omega) (by decide) ?_
      refine V_callS (As := [.int (nI ((((75 * (itr x_ i_)) + 74) % 65537) % 7))]) (st := [.int (nI i_), .ref 76]) hX mX9_209 (kM_signAt (Nat.mod_lt _ (by decide)) ?_) rfl (Nat.le_of_ble_eq_true rfl) (Nat.le_of_ble_eq_true rfl) dX9_year_98
      show V G 10 X 101 [(0, .ref 69), (1, .int (nI s_)), (2, .int (nI m_)), (3, .int (nI w_)), (4, .int (nI (((75 * (itr x_ i_)) + 74) % 65537))), (5, .int (nI t0_)), (6, .int (nI t1_)), (7, .int (nI t2_)), (8, .int (nI k_)), (9, .int (nI i_))] [.int (nI (bdN ((((75 * (itr x_ i_)) + 74) % 65537) % 7))), .int (nI i_), .ref 76] μ1
      refine V_iastN hX rfl (by omega) (by decide) dX9_year_101 ?_
      show V G 10 X 102 [(0, .ref 69), (1, .int (nI s_)), (2, .int (nI m_)), (3, .int (nI w_)), (4, .int (nI (((75 * (itr x_ i_)) + 74) % 65537))), (5, .int (nI t0_)), (6, .int (nI t1_)), (7, .int (nI t2_)), (8, .int (nI k_)), (9, .int (nI i_))] [] (vup μ1.1 76 i_ (nI (bdN ((((75 * (itr x_ i_)) + 74) % 65537) % 7))), μ1.2)
      refine V_iincN (n := 1) (ls' := [(0, .ref 69), (1, .int (nI s_)), (2, .int (nI m_)), (3, .int (nI w_)), (4, .int (nI (((75 * (itr x_ i_)) + 74) % 65537))), (5, .int (nI t0_)), (6, .int (nI t1_)), (7, .int (nI t2_)), (8, .int (nI k_)), (9, .int (nI (i_ + 1)))]) hX dX9_year_102 9 rfl (by decide) rfl ?_
      refine V_goto (tgt := 67) hX dX9_year_105 (by decide) ?_
      refine ih (i_ + 1) _ (by omega) (by omega) ⟨fun a ha => ?_, fun q hq => ?_, hV.2.2⟩
      · dsimp only; rw [vup_row _ _ _ ha]; exact hV.1 a ha
      · dsimp only
        rw [vup_get]
        by_cases e : q = i_
        · rw [if_pos ⟨rfl, e⟩, e]; rfl
        · rw [if_neg (by omega)]; exact hV.2.1 q (by omega)
set_option maxRecDepth 100000 in
set_option maxHeartbeats 4000000 in
theorem lpM_year20 {G : VG} {d : Nat} {μ : VS} {Q : Option Value → VS → Prop} {X : VX} {P : PC} {L : Nat} {S κ : Nat → Nat} {I : Nat → PC} {s_ m_ : Nat} (hX : Cx G (d + 5) yX9_year cX9_year 10 (some .int) X) (hR : ∀ r μ', Q r μ' → Ret G X r μ') (hok : okP P) (hL60 : L ≤ 60) (hs : s_ < 65537) (hm : m_ ≤ 50) (hQ : ∀ μ', RM μ' P L S κ I → keepC μ μ' → Q (some (.int (nI (yTot P 0 s_ m_)))) μ') : ∀ (j k_ : Nat) (μ0 : VS), k_ ≤ m_ → m_ + 1 ≤ k_ + j → RM μ0 P L S κ I → keepC μ μ0 → V G 10 X 48 [(0, .ref 69), (1, .int (nI s_)), (2, .int (nI m_)), (3, .int (nI 0)), (4, .int (nI (itr s_ (6 * k_)))), (5, .int (nI (yTot P 0 s_ k_))), (6, .int (nI (yTot P 1 s_ k_))), (7, .int (nI (yTot P 2 s_ k_))), (8, .int (nI k_))] [] μ0 := by
  intro j
  induction j with
  | zero =>
    intro k_ μ0 h1 h2
    exact absurd h2 (by omega)
  | succ j ih =>
    intro k_ μ0 h1 h2 hR0 hC0
    refine V_iload hX dX9_year_48 8 rfl ?_
    refine V_iload_n hX dX9_year_50 2 rfl ?_
    refine V_icmp_geN (tgt := 155) hX dX9_year_51 (by decide) (by omega) (by omega) (fun c51 => ?_) (fun c51 => ?_)
    · refine V_iload_n hX dX9_year_155 3 rfl ?_
      refine V_if_neN (tgt := 164) hX dX9_year_156 (by decide) (by omega) (fun c156 => ?_) (fun c156 => ?_)
      · exact absurd c156 (by decide)
      · refine V_iload hX dX9_year_159 5 rfl ?_
        refine V_goto (tgt := 176) hX dX9_year_161 (by decide) ?_
        refine V_iret hX rfl dX9_year_176 ?_
        obtain rfl : k_ = m_ := by omega
        exact hR _ _ (hQ μ0 hR0 hC0)
    · refine V_aload_n hX dX9_year_54 0 rfl ?_
      refine V_callV (As := []) (st := []) hX mX9_160 rfl (kM_lay hR0.1 hR0.2.1 hL60 (fun μ1 hLy hK1 => ?_)) rfl (Nat.le_of_ble_eq_true rfl) (Nat.le_of_ble_eq_true rfl) dX9_year_55
      show V G 10 X 58 [(0, .ref 69), (1, .int (nI s_)), (2, .int (nI m_)), (3, .int (nI 0)), (4, .int (nI (itr s_ (6 * k_)))), (5, .int (nI (yTot P 0 s_ k_))), (6, .int (nI (yTot P 1 s_ k_))), (7, .int (nI (yTot P 2 s_ k_))), (8, .int (nI k_))] [] μ1
      have hR1 := hR0.keep hK1
      refine V_aload_n hX dX9_year_58 0 rfl ?_
      refine V_bipush (v := nI 6) hX dX9_year_59 (by decide) ?_
      refine V_puti hX fX9_113 fw_8_15 rfl dX9_year_61 ?_
      show V G 10 X 64 [(0, .ref 69), (1, .int (nI s_)), (2, .int (nI m_)), (3, .int (nI 0)), (4, .int (nI (itr s_ (6 * k_)))), (5, .int (nI (yTot P 0 s_ k_))), (6, .int (nI (yTot P 1 s_ k_))), (7, .int (nI (yTot P 2 s_ k_))), (8, .int (nI k_))] [] (vup μ1.1 69 15 (nI 6), μ1.2)
      refine V_iconst (v := nI 0) hX dX9_year_64 (by decide) ?_
      refine V_istore (ls' := [(0, .ref 69), (1, .int (nI s_)), (2, .int (nI m_)), (3, .int (nI 0)), (4, .int (nI (itr s_ (6 * k_)))), (5, .int (nI (yTot P 0 s_ k_))), (6, .int (nI (yTot P 1 s_ k_))), (7, .int (nI (yTot P 2 s_ k_))), (8, .int (nI k_)), (9, .int (nI 0))]) hX dX9_year_65 (by decide) rfl ?_
      have hKa : mKeep μ1 (vup μ1.1 69 15 (nI 6), μ1.2) := mKeep.put (a := 69) (k := 15) (x := nI 6) (Or.inr (by decide))
      refine lpM_year1 hX (itr_lt hs _) (fun μ2 hV => ?_) 7 0 _ (by decide) (by decide) ⟨fun _ _ => rfl, fun q hq => absurd hq (by omega), rfl⟩
      have hKb : mKeep (vup μ1.1 69 15 (nI 6), μ1.2) μ2 := ⟨fun a k hk => by rw [hV.1 a (by intro e; subst e; exact hk (Or.inl (by decide)))], hV.2.2⟩
      have hR2 := (hR1.keep hKa).keep hKb
      have hE2 : isE μ2 P := ⟨⟨by rw [hV.1 69 (by decide)]; exact hLy.1.1.1, by rw [hV.1 69 (by decide)]; exact hLy.1.1.2.1, by rw [hV.1 69 (by decide)]; exact hLy.1.1.2.2.1, by rw [hV.1 69 (by decide)]; exact hLy.1.1.2.2.2.1, by rw [hV.1 69 (by decide)]; exact hLy.1.1.2.2.2.2⟩, by rw [hV.1 77 (by decide)]; exact hLy.1.2.1, by rw [hV.1 71 (by decide)]; exact hLy.1.2.2.1, by rw [hV.1 72 (by decide)]; exact hLy.1.2.2.2.1, by rw [hV.1 73 (by decide)]; exact hLy.1.2.2.2.2⟩
      have hcm : μ2.1 69 19 = nI 0 := by rw [hV.1 69 (by decide)]; exact hLy.2.2.2
      refine V_aload_n hX dX9_year_108 0 rfl ?_
      refine V_bipush (v := nI 6) hX dX9_year_109 (by decide) ?_
      refine V_callV (As := [.int (nI 6)]) (st := []) hX mX9_163 rfl (kM_preach (E := P) (sg_ := yS (itr s_ (6 * k_))) (cb_ := noC) (cm_ := 0) hE2 hok hcm (by decide) hV.2.1 (fun i _ => bd_lt _) (fun i _ => Or.inr ⟨rfl, rfl⟩) (fun μ3 hp => ?_)) rfl (Nat.le_of_ble_eq_true rfl) (Nat.le_of_ble_eq_true rfl) dX9_year_111
      show V G 10 X 114 [(0, .ref 69), (1, .int (nI s_)), (2, .int (nI m_)), (3, .int (nI 0)), (4, .int (nI (itr (itr s_ (6 * k_)) 6))), (5, .int (nI (yTot P 0 s_ k_))), (6, .int (nI (yTot P 1 s_ k_))), (7, .int (nI (yTot P 2 s_ k_))), (8, .int (nI k_)), (9, .int (nI 6))] [] μ3
      have hR3 := hR2.keep hp.1.keep
      have hC3 : keepC μ μ3 := hC0.tr (((hK1.tr hKa).tr hKb).tr hp.1.keep).C
      refine V_iload hX dX9_year_114 5 rfl ?_
      refine V_aload_n hX dX9_year_116 0 rfl ?_
      refine V_getN (x := nI ((uAt P (yS (itr s_ (6 * k_))) 6).2.2.2 9)) hX fX9_147 rfl hp.2.2.2.1.2.2.1 dX9_year_117 ?_
      refine V_iaddN hX dX9_year_120 ?_
      refine V_istore (ls' := [(0, .ref 69), (1, .int (nI s_)), (2, .int (nI m_)), (3, .int (nI 0)), (4, .int (nI (itr (itr s_ (6 * k_)) 6))), (5, .int (nI ((yTot P 0 s_ k_) + ((uAt P (yS (itr s_ (6 * k_))) 6).2.2.2 9)))), (6, .int (nI (yTot P 1 s_ k_))), (7, .int (nI (yTot P 2 s_ k_))), (8, .int (nI k_)), (9, .int (nI 6))]) hX dX9_year_121 (by decide) rfl ?_
      refine V_iload hX dX9_year_123 6 rfl ?_
      refine V_aload_n hX dX9_year_125 0 rfl ?_
      refine V_getN (x := nI ((uAt P (yS (itr s_ (6 * k_))) 6).2.2.2 10)) hX fX9_150 rfl hp.2.2.2.1.2.2.2.1 dX9_year_126 ?_
      refine V_iaddN hX dX9_year_129 ?_
      refine V_istore (ls' := [(0, .ref 69), (1, .int (nI s_)), (2, .int (nI m_)), (3, .int (nI 0)), (4, .int (nI (itr (itr s_ (6 * k_)) 6))), (5, .int (nI ((yTot P 0 s_ k_) + ((uAt P (yS (itr s_ (6 * k_))) 6).2.2.2 9)))), (6, .int (nI ((yTot P 1 s_ k_) + ((uAt P (yS (itr s_ (6 * k_))) 6).2.2.2 10)))), (7, .int (nI (yTot P 2 s_ k_))), (8, .int (nI k_)), (9, .int (nI 6))]) hX dX9_year_130 (by decide) rfl ?_
      refine V_iload hX dX9_year_132 7 rfl ?_
      refine V_aload_n hX dX9_year_134 0 rfl ?_
      refine V_getN (x := nI ((uAt P (yS (itr s_ (6 * k_))) 6).2.2.2 7)) hX fX9_141 rfl hp.2.2.2.1.1 dX9_year_135 ?_
      refine V_if_neN (tgt := 145) hX dX9_year_138 (by decide) (by first | omega | (have := uAt7 hok.2.2.1 (yS (itr s_ (6 * k_))) 6; omega)) (fun c138 => ?_) (fun c138 => ?_)
      · refine V_iconst (v := nI 0) hX dX9_year_145 (by decide) ?_
        refine V_iaddN hX dX9_year_146 ?_
        refine V_istore (ls' := [(0, .ref 69), (1, .int (nI s_)), (2, .int (nI m_)), (3, .int (nI 0)), (4, .int (nI (itr (itr s_ (6 * k_)) 6))), (5, .int (nI ((yTot P 0 s_ k_) + ((uAt P (yS (itr s_ (6 * k_))) 6).2.2.2 9)))), (6, .int (nI ((yTot P 1 s_ k_) + ((uAt P (yS (itr s_ (6 * k_))) 6).2.2.2 10)))), (7, .int (nI ((yTot P 2 s_ k_) + 0))), (8, .int (nI k_)), (9, .int (nI 6))]) hX dX9_year_147 (by decide) rfl ?_
        refine V_iincN (n := 1) (ls' := [(0, .ref 69), (1, .int (nI s_)), (2, .int (nI m_)), (3, .int (nI 0)), (4, .int (nI (itr (itr s_ (6 * k_)) 6))), (5, .int (nI ((yTot P 0 s_ k_) + ((uAt P (yS (itr s_ (6 * k_))) 6).2.2.2 9)))), (6, .int (nI ((yTot P 1 s_ k_) + ((uAt P (yS (itr s_ (6 * k_))) 6).2.2.2 10)))), (7, .int (nI ((yTot P 2 s_ k_) + 0))), (8, .int (nI (k_ + 1))), (9, .int (nI 6))]) hX dX9_year_149 8 rfl (by decide) rfl ?_
        refine V_goto (tgt := 48) hX dX9_year_152 (by decide) ?_
        have h9 := ih (k_ + 1) μ3 (by omega) (by omega) hR3 hC3
        rw [show itr s_ (6 * (k_ + 1)) = itr (itr s_ (6 * k_)) 6 from itr_add s_ (6 * k_) 6, show yTot P 0 s_ (k_ + 1) = (yTot P 0 s_ k_) + ((uAt P (yS (itr s_ (6 * k_))) 6).2.2.2 9) from rfl, show yTot P 1 s_ (k_ + 1) = (yTot P 1 s_ k_) + ((uAt P (yS (itr s_ (6 * k_))) 6).2.2.2 10) from rfl, show yTot P 2 s_ (k_ + 1) = (yTot P 2 s_ k_) + 0 from by show _ + (if (2 : Nat) = 2 then _ else _) = _; rw [if_pos rfl, if_neg c138]] at h9
        exact V_sub [0, 1, 2, 3, 4, 5, 6, 7, 8] rfl h9
      · refine V_iconst (v := nI 1) hX dX9_year_141 (by decide) ?_
        refine V_goto (tgt := 146) hX dX9_year_142 (by decide) ?_
        refine V_iaddN hX dX9_year_146 ?_
        refine V_istore (ls' := [(0, .ref 69), (1, .int (nI s_)), (2, .int (nI m_)), (3, .int (nI 0)), (4, .int (nI (itr (itr s_ (6 * k_)) 6))), (5, .int (nI ((yTot P 0 s_ k_) + ((uAt P (yS (itr s_ (6 * k_))) 6).2.2.2 9)))), (6, .int (nI ((yTot P 1 s_ k_) + ((uAt P (yS (itr s_ (6 * k_))) 6).2.2.2 10)))), (7, .int (nI ((yTot P 2 s_ k_) + 1))), (8, .int (nI k_)), (9, .int (nI 6))]) hX dX9_year_147 (by decide) rfl ?_
        refine V_iincN (n := 1) (ls' := [(0, .ref 69), (1, .int (nI s_)), (2, .int (nI m_)), (3, .int (nI 0)), (4, .int (nI (itr (itr s_ (6 * k_)) 6))), (5, .int (nI ((yTot P 0 s_ k_) + ((uAt P (yS (itr s_ (6 * k_))) 6).2.2.2 9)))), (6, .int (nI ((yTot P 1 s_ k_) + ((uAt P (yS (itr s_ (6 * k_))) 6).2.2.2 10)))), (7, .int (nI ((yTot P 2 s_ k_) + 1))), (8, .int (nI (k_ + 1))), (9, .int (nI 6))]) hX dX9_year_149 8 rfl (by decide) rfl ?_
        refine V_goto (tgt := 48) hX dX9_year_152 (by decide) ?_
        have h9 := ih (k_ + 1) μ3 (by omega) (by omega) hR3 hC3
        rw [show itr s_ (6 * (k_ + 1)) = itr (itr s_ (6 * k_)) 6 from itr_add s_ (6 * k_) 6, show yTot P 0 s_ (k_ + 1) = (yTot P 0 s_ k_) + ((uAt P (yS (itr s_ (6 * k_))) 6).2.2.2 9) from rfl, show yTot P 1 s_ (k_ + 1) = (yTot P 1 s_ k_) + ((uAt P (yS (itr s_ (6 * k_))) 6).2.2.2 10) from rfl, show yTot P 2 s_ (k_ + 1) = (yTot P 2 s_ k_) + 1 from by show _ + (if (2 : Nat) = 2 then _ else _) = _; rw [if_pos rfl, if_pos c138]] at h9
        exact V_sub [0, 1, 2, 3, 4, 5, 6, 7, 8] rfl h9
set_option maxRecDepth 100000 in
set_option maxHeartbeats 4000000 in
theorem lpM_year21 {G : VG} {d : Nat} {μ : VS} {Q : Option Value → VS → Prop} {X : VX} {P : PC} {L : Nat} {S κ : Nat → Nat} {I : Nat → PC} {s_ m_ : Nat} (hX : Cx G (d + 5) yX9_year cX9_year 10 (some .int) X) (hR : ∀ r μ', Q r μ' → Ret G X r μ') (hok : okP P) (hL60 : L ≤ 60) (hs : s_ < 65537) (hm : m_ ≤ 50) (hQ : ∀ μ', RM μ' P L S κ I → keepC μ μ' → Q (some (.int (nI (yTot P 1 s_ m_)))) μ') : ∀ (j k_ : Nat) (μ0 : VS), k_ ≤ m_ → m_ + 1 ≤ k_ + j → RM μ0 P L S κ I → keepC μ μ0 → V G 10 X 48 [(0, .ref 69), (1, .int (nI s_)), (2, .int (nI m_)), (3, .int (nI 1)), (4, .int (nI (itr s_ (6 * k_)))), (5, .int (nI (yTot P 0 s_ k_))), (6, .int (nI (yTot P 1 s_ k_))), (7, .int (nI (yTot P 2 s_ k_))), (8, .int (nI k_))] [] μ0 := by
  intro j
  induction j with
  | zero =>
    intro k_ μ0 h1 h2
    exact absurd h2 (by omega)
  | succ j ih =>
    intro k_ μ0 h1 h2 hR0 hC0
    refine V_iload hX dX9_year_48 8 rfl ?_
    refine V_iload_n hX dX9_year_50 2 rfl ?_
    refine V_icmp_geN (tgt := 155) hX dX9_year_51 (by decide) (by omega) (by omega) (fun c51 => ?_) (fun c51 => ?_)
    · refine V_iload_n hX dX9_year_155 3 rfl ?_
      refine V_if_neN (tgt := 164) hX dX9_year_156 (by decide) (by omega) (fun c156 => ?_) (fun c156 => ?_)
      · refine V_iload_n hX dX9_year_164 3 rfl ?_
        refine V_iconst (v := nI 1) hX dX9_year_165 (by decide) ?_
        refine V_icmp_neN (tgt := 174) hX dX9_year_166 (by decide) (by omega) (by omega) (fun c166 => ?_) (fun c166 => ?_)
        · exact absurd c166 (by decide)
        · refine V_iload hX dX9_year_169 6 rfl ?_
          refine V_goto (tgt := 176) hX dX9_year_171 (by decide) ?_
          refine V_iret hX rfl dX9_year_176 ?_
          obtain rfl : k_ = m_ := by omega
          exact hR _ _ (hQ μ0 hR0 hC0)
      · exact absurd c156 (by decide)
    · refine V_aload_n hX dX9_year_54 0 rfl ?_
      refine V_callV (As := []) (st := []) hX mX9_160 rfl (kM_lay hR0.1 hR0.2.1 hL60 (fun μ1 hLy hK1 => ?_)) rfl (Nat.le_of_ble_eq_true rfl) (Nat.le_of_ble_eq_true rfl) dX9_year_55
      show V G 10 X 58 [(0, .ref 69), (1, .int (nI s_)), (2, .int (nI m_)), (3, .int (nI 1)), (4, .int (nI (itr s_ (6 * k_)))), (5, .int (nI (yTot P 0 s_ k_))), (6, .int (nI (yTot P 1 s_ k_))), (7, .int (nI (yTot P 2 s_ k_))), (8, .int (nI k_))] [] μ1
      have hR1 := hR0.keep hK1
      refine V_aload_n hX dX9_year_58 0 rfl ?_
      refine V_bipush (v := nI 6) hX dX9_year_59 (by decide) ?_
      refine V_puti hX fX9_113 fw_8_15 rfl dX9_year_61 ?_
      show V G 10 X 64 [(0, .ref 69), (1, .int (nI s_)), (2, .int (nI m_)), (3, .int (nI 1)), (4, .int (nI (itr s_ (6 * k_)))), (5, .int (nI (yTot P 0 s_ k_))), (6, .int (nI (yTot P 1 s_ k_))), (7, .int (nI (yTot P 2 s_ k_))), (8, .int (nI k_))] [] (vup μ1.1 69 15 (nI 6), μ1.2)
      refine V_iconst (v := nI 0) hX dX9_year_64 (by decide) ?_
      refine V_istore (ls' := [(0, .ref 69), (1, .int (nI s_)), (2, .int (nI m_)), (3, .int (nI 1)), (4, .int (nI (itr s_ (6 * k_)))), (5, .int (nI (yTot P 0 s_ k_))), (6, .int (nI (yTot P 1 s_ k_))), (7, .int (nI (yTot P 2 s_ k_))), (8, .int (nI k_)), (9, .int (nI 0))]) hX dX9_year_65 (by decide) rfl ?_
      have hKa : mKeep μ1 (vup μ1.1 69 15 (nI 6), μ1.2) := mKeep.put (a := 69) (k := 15) (x := nI 6) (Or.inr (by decide))
      refine lpM_year1 hX (itr_lt hs _) (fun μ2 hV => ?_) 7 0 _ (by decide) (by decide) ⟨fun _ _ => rfl, fun q hq => absurd hq (by omega), rfl⟩
      have hKb : mKeep (vup μ1.1 69 15 (nI 6), μ1.2) μ2 := ⟨fun a k hk => by rw [hV.1 a (by intro e; subst e; exact hk (Or.inl (by decide)))], hV.2.2⟩
      have hR2 := (hR1.keep hKa).keep hKb
      have hE2 : isE μ2 P := ⟨⟨by rw [hV.1 69 (by decide)]; exact hLy.1.1.1, by rw [hV.1 69 (by decide)]; exact hLy.1.1.2.1, by rw [hV.1 69 (by decide)]; exact hLy.1.1.2.2.1, by rw [hV.1 69 (by decide)]; exact hLy.1.1.2.2.2.1, by rw [hV.1 69 (by decide)]; exact hLy.1.1.2.2.2.2⟩, by rw [hV.1 77 (by decide)]; exact hLy.1.2.1, by rw [hV.1 71 (by decide)]; exact hLy.1.2.2.1, by rw [hV.1 72 (by decide)]; exact hLy.1.2.2.2.1, by rw [hV.1 73 (by decide)]; exact hLy.1.2.2.2.2⟩
      have hcm : μ2.1 69 19 = nI 0 := by rw [hV.1 69 (by decide)]; exact hLy.2.2.2
      refine V_aload_n hX dX9_year_108 0 rfl ?_
      refine V_bipush (v := nI 6) hX dX9_year_109 (by decide) ?_
      refine V_callV (As := [.int (nI 6)]) (st := []) hX mX9_163 rfl (kM_preach (E := P) (sg_ := yS (itr s_ (6 * k_))) (cb_ := noC) (cm_ := 0) hE2 hok hcm (by decide) hV.2.1 (fun i _ => bd_lt _) (fun i _ => Or.inr ⟨rfl, rfl⟩) (fun μ3 hp => ?_)) rfl (Nat.le_of_ble_eq_true rfl) (Nat.le_of_ble_eq_true rfl) dX9_year_111
      show V G 10 X 114 [(0, .ref 69), (1, .int (nI s_)), (2, .int (nI m_)), (3, .int (nI 1)), (4, .int (nI (itr (itr s_ (6 * k_)) 6))), (5, .int (nI (yTot P 0 s_ k_))), (6, .int (nI (yTot P 1 s_ k_))), (7, .int (nI (yTot P 2 s_ k_))), (8, .int (nI k_)), (9, .int (nI 6))] [] μ3
      have hR3 := hR2.keep hp.1.keep
      have hC3 : keepC μ μ3 := hC0.tr (((hK1.tr hKa).tr hKb).tr hp.1.keep).C
      refine V_iload hX dX9_year_114 5 rfl ?_
      refine V_aload_n hX dX9_year_116 0 rfl ?_
      refine V_getN (x := nI ((uAt P (yS (itr s_ (6 * k_))) 6).2.2.2 9)) hX fX9_147 rfl hp.2.2.2.1.2.2.1 dX9_year_117 ?_
      refine V_iaddN hX dX9_year_120 ?_
      refine V_istore (ls' := [(0, .ref 69), (1, .int (nI s_)), (2, .int (nI m_)), (3, .int (nI 1)), (4, .int (nI (itr (itr s_ (6 * k_)) 6))), (5, .int (nI ((yTot P 0 s_ k_) + ((uAt P (yS (itr s_ (6 * k_))) 6).2.2.2 9)))), (6, .int (nI (yTot P 1 s_ k_))), (7, .int (nI (yTot P 2 s_ k_))), (8, .int (nI k_)), (9, .int (nI 6))]) hX dX9_year_121 (by decide) rfl ?_
      refine V_iload hX dX9_year_123 6 rfl ?_
      refine V_aload_n hX dX9_year_125 0 rfl ?_
      refine V_getN (x := nI ((uAt P (yS (itr s_ (6 * k_))) 6).2.2.2 10)) hX fX9_150 rfl hp.2.2.2.1.2.2.2.1 dX9_year_126 ?_
      refine V_iaddN hX dX9_year_129 ?_
      refine V_istore (ls' := [(0, .ref 69), (1, .int (nI s_)), (2, .int (nI m_)), (3, .int (nI 1)), (4, .int (nI (itr (itr s_ (6 * k_)) 6))), (5, .int (nI ((yTot P 0 s_ k_) + ((uAt P (yS (itr s_ (6 * k_))) 6).2.2.2 9)))), (6, .int (nI ((yTot P 1 s_ k_) + ((uAt P (yS (itr s_ (6 * k_))) 6).2.2.2 10)))), (7, .int (nI (yTot P 2 s_ k_))), (8, .int (nI k_)), (9, .int (nI 6))]) hX dX9_year_130 (by decide) rfl ?_
      refine V_iload hX dX9_year_132 7 rfl ?_
      refine V_aload_n hX dX9_year_134 0 rfl ?_
      refine V_getN (x := nI ((uAt P (yS (itr s_ (6 * k_))) 6).2.2.2 7)) hX fX9_141 rfl hp.2.2.2.1.1 dX9_year_135 ?_
      refine V_if_neN (tgt := 145) hX dX9_year_138 (by decide) (by first | omega | (have := uAt7 hok.2.2.1 (yS (itr s_ (6 * k_))) 6; omega)) (fun c138 => ?_) (fun c138 => ?_)
      · refine V_iconst (v := nI 0) hX dX9_year_145 (by decide) ?_
        refine V_iaddN hX dX9_year_146 ?_
        refine V_istore (ls' := [(0, .ref 69), (1, .int (nI s_)), (2, .int (nI m_)), (3, .int (nI 1)), (4, .int (nI (itr (itr s_ (6 * k_)) 6))), (5, .int (nI ((yTot P 0 s_ k_) + ((uAt P (yS (itr s_ (6 * k_))) 6).2.2.2 9)))), (6, .int (nI ((yTot P 1 s_ k_) + ((uAt P (yS (itr s_ (6 * k_))) 6).2.2.2 10)))), (7, .int (nI ((yTot P 2 s_ k_) + 0))), (8, .int (nI k_)), (9, .int (nI 6))]) hX dX9_year_147 (by decide) rfl ?_
        refine V_iincN (n := 1) (ls' := [(0, .ref 69), (1, .int (nI s_)), (2, .int (nI m_)), (3, .int (nI 1)), (4, .int (nI (itr (itr s_ (6 * k_)) 6))), (5, .int (nI ((yTot P 0 s_ k_) + ((uAt P (yS (itr s_ (6 * k_))) 6).2.2.2 9)))), (6, .int (nI ((yTot P 1 s_ k_) + ((uAt P (yS (itr s_ (6 * k_))) 6).2.2.2 10)))), (7, .int (nI ((yTot P 2 s_ k_) + 0))), (8, .int (nI (k_ + 1))), (9, .int (nI 6))]) hX dX9_year_149 8 rfl (by decide) rfl ?_
        refine V_goto (tgt := 48) hX dX9_year_152 (by decide) ?_
        have h9 := ih (k_ + 1) μ3 (by omega) (by omega) hR3 hC3
        rw [show itr s_ (6 * (k_ + 1)) = itr (itr s_ (6 * k_)) 6 from itr_add s_ (6 * k_) 6, show yTot P 0 s_ (k_ + 1) = (yTot P 0 s_ k_) + ((uAt P (yS (itr s_ (6 * k_))) 6).2.2.2 9) from rfl, show yTot P 1 s_ (k_ + 1) = (yTot P 1 s_ k_) + ((uAt P (yS (itr s_ (6 * k_))) 6).2.2.2 10) from rfl, show yTot P 2 s_ (k_ + 1) = (yTot P 2 s_ k_) + 0 from by show _ + (if (2 : Nat) = 2 then _ else _) = _; rw [if_pos rfl, if_neg c138]] at h9
        exact V_sub [0, 1, 2, 3, 4, 5, 6, 7, 8] rfl h9
      · refine V_iconst (v := nI 1) hX dX9_year_141 (by decide) ?_
        refine V_goto (tgt := 146) hX dX9_year_142 (by decide) ?_
        refine V_iaddN hX dX9_year_146 ?_
        refine V_istore (ls' := [(0, .ref 69), (1, .int (nI s_)), (2, .int (nI m_)), (3, .int (nI 1)), (4, .int (nI (itr (itr s_ (6 * k_)) 6))), (5, .int (nI ((yTot P 0 s_ k_) + ((uAt P (yS (itr s_ (6 * k_))) 6).2.2.2 9)))), (6, .int (nI ((yTot P 1 s_ k_) + ((uAt P (yS (itr s_ (6 * k_))) 6).2.2.2 10)))), (7, .int (nI ((yTot P 2 s_ k_) + 1))), (8, .int (nI k_)), (9, .int (nI 6))]) hX dX9_year_147 (by decide) rfl ?_
        refine V_iincN (n := 1) (ls' := [(0, .ref 69), (1, .int (nI s_)), (2, .int (nI m_)), (3, .int (nI 1)), (4, .int (nI (itr (itr s_ (6 * k_)) 6))), (5, .int (nI ((yTot P 0 s_ k_) + ((uAt P (yS (itr s_ (6 * k_))) 6).2.2.2 9)))), (6, .int (nI ((yTot P 1 s_ k_) + ((uAt P (yS (itr s_ (6 * k_))) 6).2.2.2 10)))), (7, .int (nI ((yTot P 2 s_ k_) + 1))), (8, .int (nI (k_ + 1))), (9, .int (nI 6))]) hX dX9_year_149 8 rfl (by decide) rfl ?_
        refine V_goto (tgt := 48) hX dX9_year_152 (by decide) ?_
        have h9 := ih (k_ + 1) μ3 (by omega) (by omega) hR3 hC3
        rw [show itr s_ (6 * (k_ + 1)) = itr (itr s_ (6 * k_)) 6 from itr_add s_ (6 * k_) 6, show yTot P 0 s_ (k_ + 1) = (yTot P 0 s_ k_) + ((uAt P (yS (itr s_ (6 * k_))) 6).2.2.2 9) from rfl, show yTot P 1 s_ (k_ + 1) = (yTot P 1 s_ k_) + ((uAt P (yS (itr s_ (6 * k_))) 6).2.2.2 10) from rfl, show yTot P 2 s_ (k_ + 1) = (yTot P 2 s_ k_) + 1 from by show _ + (if (2 : Nat) = 2 then _ else _) = _; rw [if_pos rfl, if_pos c138]] at h9
        exact V_sub [0, 1, 2, 3, 4, 5, 6, 7, 8] rfl h9
set_option maxRecDepth 100000 in
set_option maxHeartbeats 4000000 in
theorem lpM_year22 {G : VG} {d : Nat} {μ : VS} {Q : Option Value → VS → Prop} {X : VX} {P : PC} {L : Nat} {S κ : Nat → Nat} {I : Nat → PC} {s_ m_ : Nat} (hX : Cx G (d + 5) yX9_year cX9_year 10 (some .int) X) (hR : ∀ r μ', Q r μ' → Ret G X r μ') (hok : okP P) (hL60 : L ≤ 60) (hs : s_ < 65537) (hm : m_ ≤ 50) (hQ : ∀ μ', RM μ' P L S κ I → keepC μ μ' → Q (some (.int (nI (yTot P 2 s_ m_)))) μ') : ∀ (j k_ : Nat) (μ0 : VS), k_ ≤ m_ → m_ + 1 ≤ k_ + j → RM μ0 P L S κ I → keepC μ μ0 → V G 10 X 48 [(0, .ref 69), (1, .int (nI s_)), (2, .int (nI m_)), (3, .int (nI 2)), (4, .int (nI (itr s_ (6 * k_)))), (5, .int (nI (yTot P 0 s_ k_))), (6, .int (nI (yTot P 1 s_ k_))), (7, .int (nI (yTot P 2 s_ k_))), (8, .int (nI k_))] [] μ0 := by
  intro j
  induction j with
  | zero =>
    intro k_ μ0 h1 h2
    exact absurd h2 (by omega)
  | succ j ih =>
    intro k_ μ0 h1 h2 hR0 hC0
    refine V_iload hX dX9_year_48 8 rfl ?_
    refine V_iload_n hX dX9_year_50 2 rfl ?_
    refine V_icmp_geN (tgt := 155) hX dX9_year_51 (by decide) (by omega) (by omega) (fun c51 => ?_) (fun c51 => ?_)
    · refine V_iload_n hX dX9_year_155 3 rfl ?_
      refine V_if_neN (tgt := 164) hX dX9_year_156 (by decide) (by omega) (fun c156 => ?_) (fun c156 => ?_)
      · refine V_iload_n hX dX9_year_164 3 rfl ?_
        refine V_iconst (v := nI 1) hX dX9_year_165 (by decide) ?_
        refine V_icmp_neN (tgt := 174) hX dX9_year_166 (by decide) (by omega) (by omega) (fun c166 => ?_) (fun c166 => ?_)
        · refine V_iload hX dX9_year_174 7 rfl ?_
          refine V_iret hX rfl dX9_year_176 ?_
          obtain rfl : k_ = m_ := by omega
          exact hR _ _ (hQ μ0 hR0 hC0)
        · exact absurd c166 (by decide)
      · exact absurd c156 (by decide)
    · refine V_aload_n hX dX9_year_54 0 rfl ?_
      refine V_callV (As := []) (st := []) hX mX9_160 rfl (kM_lay hR0.1 hR0.2.1 hL60 (fun μ1 hLy hK1 => ?_)) rfl (Nat.le_of_ble_eq_true rfl) (Nat.le_of_ble_eq_true rfl) dX9_year_55
      show V G 10 X 58 [(0, .ref 69), (1, .int (nI s_)), (2, .int (nI m_)), (3, .int (nI 2)), (4, .int (nI (itr s_ (6 * k_)))), (5, .int (nI (yTot P 0 s_ k_))), (6, .int (nI (yTot P 1 s_ k_))), (7, .int (nI (yTot P 2 s_ k_))), (8, .int (nI k_))] [] μ1
      have hR1 := hR0.keep hK1
      refine V_aload_n hX dX9_year_58 0 rfl ?_
      refine V_bipush (v := nI 6) hX dX9_year_59 (by decide) ?_
      refine V_puti hX fX9_113 fw_8_15 rfl dX9_year_61 ?_
      show V G 10 X 64 [(0, .ref 69), (1, .int (nI s_)), (2, .int (nI m_)), (3, .int (nI 2)), (4, .int (nI (itr s_ (6 * k_)))), (5, .int (nI (yTot P 0 s_ k_))), (6, .int (nI (yTot P 1 s_ k_))), (7, .int (nI (yTot P 2 s_ k_))), (8, .int (nI k_))] [] (vup μ1.1 69 15 (nI 6), μ1.2)
      refine V_iconst (v := nI 0) hX dX9_year_64 (by decide) ?_
      refine V_istore (ls' := [(0, .ref 69), (1, .int (nI s_)), (2, .int (nI m_)), (3, .int (nI 2)), (4, .int (nI (itr s_ (6 * k_)))), (5, .int (nI (yTot P 0 s_ k_))), (6, .int (nI (yTot P 1 s_ k_))), (7, .int (nI (yTot P 2 s_ k_))), (8, .int (nI k_)), (9, .int (nI 0))]) hX dX9_year_65 (by decide) rfl ?_
      have hKa : mKeep μ1 (vup μ1.1 69 15 (nI 6), μ1.2) := mKeep.put (a := 69) (k := 15) (x := nI 6) (Or.inr (by decide))
      refine lpM_year1 hX (itr_lt hs _) (fun μ2 hV => ?_) 7 0 _ (by decide) (by decide) ⟨fun _ _ => rfl, fun q hq => absurd hq (by omega), rfl⟩
      have hKb : mKeep (vup μ1.1 69 15 (nI 6), μ1.2) μ2 := ⟨fun a k hk => by rw [hV.1 a (by intro e; subst e; exact hk (Or.inl (by decide)))], hV.2.2⟩
      have hR2 := (hR1.keep hKa).keep hKb
      have hE2 : isE μ2 P := ⟨⟨by rw [hV.1 69 (by decide)]; exact hLy.1.1.1, by rw [hV.1 69 (by decide)]; exact hLy.1.1.2.1, by rw [hV.1 69 (by decide)]; exact hLy.1.1.2.2.1, by rw [hV.1 69 (by decide)]; exact hLy.1.1.2.2.2.1, by rw [hV.1 69 (by decide)]; exact hLy.1.1.2.2.2.2⟩, by rw [hV.1 77 (by decide)]; exact hLy.1.2.1, by rw [hV.1 71 (by decide)]; exact hLy.1.2.2.1, by rw [hV.1 72 (by decide)]; exact hLy.1.2.2.2.1, by rw [hV.1 73 (by decide)]; exact hLy.1.2.2.2.2⟩
      have hcm : μ2.1 69 19 = nI 0 := by rw [hV.1 69 (by decide)]; exact hLy.2.2.2
      refine V_aload_n hX dX9_year_108 0 rfl ?_
      refine V_bipush (v := nI 6) hX dX9_year_109 (by decide) ?_
      refine V_callV (As := [.int (nI 6)]) (st := []) hX mX9_163 rfl (kM_preach (E := P) (sg_ := yS (itr s_ (6 * k_))) (cb_ := noC) (cm_ := 0) hE2 hok hcm (by decide) hV.2.1 (fun i _ => bd_lt _) (fun i _ => Or.inr ⟨rfl, rfl⟩) (fun μ3 hp => ?_)) rfl (Nat.le_of_ble_eq_true rfl) (Nat.le_of_ble_eq_true rfl) dX9_year_111
      show V G 10 X 114 [(0, .ref 69), (1, .int (nI s_)), (2, .int (nI m_)), (3, .int (nI 2)), (4, .int (nI (itr (itr s_ (6 * k_)) 6))), (5, .int (nI (yTot P 0 s_ k_))), (6, .int (nI (yTot P 1 s_ k_))), (7, .int (nI (yTot P 2 s_ k_))), (8, .int (nI k_)), (9, .int (nI 6))] [] μ3
      have hR3 := hR2.keep hp.1.keep
      have hC3 : keepC μ μ3 := hC0.tr (((hK1.tr hKa).tr hKb).tr hp.1.keep).C
      refine V_iload hX dX9_year_114 5 rfl ?_
      refine V_aload_n hX dX9_year_116 0 rfl ?_
      refine V_getN (x := nI ((uAt P (yS (itr s_ (6 * k_))) 6).2.2.2 9)) hX fX9_147 rfl hp.2.2.2.1.2.2.1 dX9_year_117 ?_
      refine V_iaddN hX dX9_year_120 ?_
      refine V_istore (ls' := [(0, .ref 69), (1, .int (nI s_)), (2, .int (nI m_)), (3, .int (nI 2)), (4, .int (nI (itr (itr s_ (6 * k_)) 6))), (5, .int (nI ((yTot P 0 s_ k_) + ((uAt P (yS (itr s_ (6 * k_))) 6).2.2.2 9)))), (6, .int (nI (yTot P 1 s_ k_))), (7, .int (nI (yTot P 2 s_ k_))), (8, .int (nI k_)), (9, .int (nI 6))]) hX dX9_year_121 (by decide) rfl ?_
      refine V_iload hX dX9_year_123 6 rfl ?_
      refine V_aload_n hX dX9_year_125 0 rfl ?_
      refine V_getN (x := nI ((uAt P (yS (itr s_ (6 * k_))) 6).2.2.2 10)) hX fX9_150 rfl hp.2.2.2.1.2.2.2.1 dX9_year_126 ?_
      refine V_iaddN hX dX9_year_129 ?_
      refine V_istore (ls' := [(0, .ref 69), (1, .int (nI s_)), (2, .int (nI m_)), (3, .int (nI 2)), (4, .int (nI (itr (itr s_ (6 * k_)) 6))), (5, .int (nI ((yTot P 0 s_ k_) + ((uAt P (yS (itr s_ (6 * k_))) 6).2.2.2 9)))), (6, .int (nI ((yTot P 1 s_ k_) + ((uAt P (yS (itr s_ (6 * k_))) 6).2.2.2 10)))), (7, .int (nI (yTot P 2 s_ k_))), (8, .int (nI k_)), (9, .int (nI 6))]) hX dX9_year_130 (by decide) rfl ?_
      refine V_iload hX dX9_year_132 7 rfl ?_
      refine V_aload_n hX dX9_year_134 0 rfl ?_
      refine V_getN (x := nI ((uAt P (yS (itr s_ (6 * k_))) 6).2.2.2 7)) hX fX9_141 rfl hp.2.2.2.1.1 dX9_year_135 ?_
      refine V_if_neN (tgt := 145) hX dX9_year_138 (by decide) (by first | omega | (have := uAt7 hok.2.2.1 (yS (itr s_ (6 * k_))) 6; omega)) (fun c138 => ?_) (fun c138 => ?_)
      · refine V_iconst (v := nI 0) hX dX9_year_145 (by decide) ?_
        refine V_iaddN hX dX9_year_146 ?_
        refine V_istore (ls' := [(0, .ref 69), (1, .int (nI s_)), (2, .int (nI m_)), (3, .int (nI 2)), (4, .int (nI (itr (itr s_ (6 * k_)) 6))), (5, .int (nI ((yTot P 0 s_ k_) + ((uAt P (yS (itr s_ (6 * k_))) 6).2.2.2 9)))), (6, .int (nI ((yTot P 1 s_ k_) + ((uAt P (yS (itr s_ (6 * k_))) 6).2.2.2 10)))), (7, .int (nI ((yTot P 2 s_ k_) + 0))), (8, .int (nI k_)), (9, .int (nI 6))]) hX dX9_year_147 (by decide) rfl ?_
        refine V_iincN (n := 1) (ls' := [(0, .ref 69), (1, .int (nI s_)), (2, .int (nI m_)), (3, .int (nI 2)), (4, .int (nI (itr (itr s_ (6 * k_)) 6))), (5, .int (nI ((yTot P 0 s_ k_) + ((uAt P (yS (itr s_ (6 * k_))) 6).2.2.2 9)))), (6, .int (nI ((yTot P 1 s_ k_) + ((uAt P (yS (itr s_ (6 * k_))) 6).2.2.2 10)))), (7, .int (nI ((yTot P 2 s_ k_) + 0))), (8, .int (nI (k_ + 1))), (9, .int (nI 6))]) hX dX9_year_149 8 rfl (by decide) rfl ?_
        refine V_goto (tgt := 48) hX dX9_year_152 (by decide) ?_
        have h9 := ih (k_ + 1) μ3 (by omega) (by omega) hR3 hC3
        rw [show itr s_ (6 * (k_ + 1)) = itr (itr s_ (6 * k_)) 6 from itr_add s_ (6 * k_) 6, show yTot P 0 s_ (k_ + 1) = (yTot P 0 s_ k_) + ((uAt P (yS (itr s_ (6 * k_))) 6).2.2.2 9) from rfl, show yTot P 1 s_ (k_ + 1) = (yTot P 1 s_ k_) + ((uAt P (yS (itr s_ (6 * k_))) 6).2.2.2 10) from rfl, show yTot P 2 s_ (k_ + 1) = (yTot P 2 s_ k_) + 0 from by show _ + (if (2 : Nat) = 2 then _ else _) = _; rw [if_pos rfl, if_neg c138]] at h9
        exact V_sub [0, 1, 2, 3, 4, 5, 6, 7, 8] rfl h9
      · refine V_iconst (v := nI 1) hX dX9_year_141 (by decide) ?_
        refine V_goto (tgt := 146) hX dX9_year_142 (by decide) ?_
        refine V_iaddN hX dX9_year_146 ?_
        refine V_istore (ls' := [(0, .ref 69), (1, .int (nI s_)), (2, .int (nI m_)), (3, .int (nI 2)), (4, .int (nI (itr (itr s_ (6 * k_)) 6))), (5, .int (nI ((yTot P 0 s_ k_) + ((uAt P (yS (itr s_ (6 * k_))) 6).2.2.2 9)))), (6, .int (nI ((yTot P 1 s_ k_) + ((uAt P (yS (itr s_ (6 * k_))) 6).2.2.2 10)))), (7, .int (nI ((yTot P 2 s_ k_) + 1))), (8, .int (nI k_)), (9, .int (nI 6))]) hX dX9_year_147 (by decide) rfl ?_
        refine V_iincN (n := 1) (ls' := [(0, .ref 69), (1, .int (nI s_)), (2, .int (nI m_)), (3, .int (nI 2)), (4, .int (nI (itr (itr s_ (6 * k_)) 6))), (5, .int (nI ((yTot P 0 s_ k_) + ((uAt P (yS (itr s_ (6 * k_))) 6).2.2.2 9)))), (6, .int (nI ((yTot P 1 s_ k_) + ((uAt P (yS (itr s_ (6 * k_))) 6).2.2.2 10)))), (7, .int (nI ((yTot P 2 s_ k_) + 1))), (8, .int (nI (k_ + 1))), (9, .int (nI 6))]) hX dX9_year_149 8 rfl (by decide) rfl ?_
        refine V_goto (tgt := 48) hX dX9_year_152 (by decide) ?_
        have h9 := ih (k_ + 1) μ3 (by omega) (by omega) hR3 hC3
        rw [show itr s_ (6 * (k_ + 1)) = itr (itr s_ (6 * k_)) 6 from itr_add s_ (6 * k_) 6, show yTot P 0 s_ (k_ + 1) = (yTot P 0 s_ k_) + ((uAt P (yS (itr s_ (6 * k_))) 6).2.2.2 9) from rfl, show yTot P 1 s_ (k_ + 1) = (yTot P 1 s_ k_) + ((uAt P (yS (itr s_ (6 * k_))) 6).2.2.2 10) from rfl, show yTot P 2 s_ (k_ + 1) = (yTot P 2 s_ k_) + 1 from by show _ + (if (2 : Nat) = 2 then _ else _) = _; rw [if_pos rfl, if_pos c138]] at h9
        exact V_sub [0, 1, 2, 3, 4, 5, 6, 7, 8] rfl h9
set_option maxRecDepth 100000 in
set_option maxHeartbeats 4000000 in
theorem kM_year {G : VG} {d : Nat} {μ : VS} {Q : Option Value → VS → Prop} {P : PC} {L : Nat} {S κ : Nat → Nat} {I : Nat → PC} {x_ m_ w_ : Int32} (hRM : RM μ P L S κ I) (hok : okP P) (hpd : okPad L S) (hQ : ∀ μ', RM μ' P L S κ I → keepC μ μ' → Q (some (.int (yearS P x_ m_ w_))) μ') : Call G (d + 5) yX9_year cX9_year 10 (some .int) [.ref 69, .int x_, .int m_, .int w_] μ Q := by
  intro X hX hR
  have hM := hRM.1
  have hL := hRM.2.1
  have hS := hpd.2
  have hL60 := hpd.1
  have hP4 := hok.2.2.2.2.1
  have h4 := hP4
  show V G 10 X 0 [(0, .ref 69), (1, .int x_), (2, .int m_), (3, .int w_)] [] μ
  refine V_iload_n hX dX9_year_0 1 rfl ?_
  refine V_iconst (v := nI 0) hX dX9_year_1 (by decide) ?_
  refine V_sipush (v := nI 9999) hX dX9_year_2 (by decide) ?_
  refine V_callS (As := [.int x_, .int (nI 0), .int (nI 9999)]) (st := []) hX mX9_75 (k_in ?_) rfl (Nat.le_of_ble_eq_true rfl) (Nat.le_of_ble_eq_true rfl) dX9_year_5
  show V G 10 X 8 [(0, .ref 69), (1, .int x_), (2, .int m_), (3, .int w_)] [.int (bI (nI 0 ≤ x_ ∧ x_ ≤ nI 9999))] μ
  refine V_if_eqB (tgt := 30) hX dX9_year_8 (by decide) (fun c8 => ?_) (fun c8 => ?_)
  · refine V_bipush (v := (-2)) hX dX9_year_30 (by decide) ?_
    refine V_iret hX rfl dX9_year_32 ?_
    have h9 := hQ μ
    rw [show yearS P x_ m_ w_ = -2 from if_neg (fun z => c8 z.1)] at h9
    exact hR _ _ (h9 hRM (keepC.rf μ))
  · refine V_iload_n hX dX9_year_11 2 rfl ?_
    refine V_iconst (v := nI 1) hX dX9_year_12 (by decide) ?_
    refine V_bipush (v := nI 50) hX dX9_year_13 (by decide) ?_
    refine V_callS (As := [.int m_, .int (nI 1), .int (nI 50)]) (st := []) hX mX9_75 (k_in ?_) rfl (Nat.le_of_ble_eq_true rfl) (Nat.le_of_ble_eq_true rfl) dX9_year_15
    show V G 10 X 18 [(0, .ref 69), (1, .int x_), (2, .int m_), (3, .int w_)] [.int (bI (nI 1 ≤ m_ ∧ m_ ≤ nI 50))] μ
    refine V_if_eqB (tgt := 30) hX dX9_year_18 (by decide) (fun c18 => ?_) (fun c18 => ?_)
    · refine V_bipush (v := (-2)) hX dX9_year_30 (by decide) ?_
      refine V_iret hX rfl dX9_year_32 ?_
      have h9 := hQ μ
      rw [show yearS P x_ m_ w_ = -2 from if_neg (fun z => c18 z.2.1)] at h9
      exact hR _ _ (h9 hRM (keepC.rf μ))
    · refine V_iload_n hX dX9_year_21 3 rfl ?_
      refine V_iconst (v := nI 0) hX dX9_year_22 (by decide) ?_
      refine V_iconst (v := nI 2) hX dX9_year_23 (by decide) ?_
      refine V_callS (As := [.int w_, .int (nI 0), .int (nI 2)]) (st := []) hX mX9_75 (k_in ?_) rfl (Nat.le_of_ble_eq_true rfl) (Nat.le_of_ble_eq_true rfl) dX9_year_24
      show V G 10 X 27 [(0, .ref 69), (1, .int x_), (2, .int m_), (3, .int w_)] [.int (bI (nI 0 ≤ w_ ∧ w_ ≤ nI 2))] μ
      refine V_if_neB (tgt := 33) hX dX9_year_27 (by decide) (fun c27 => ?_) (fun c27 => ?_)
      · obtain ⟨s_, hs0, hs1, rfl⟩ := nat_of_in (by decide) (by decide) c8
        obtain ⟨k_, hk0, hk1, rfl⟩ := nat_of_in (by decide) (by decide) c18
        obtain ⟨b_, hb0, hb1, rfl⟩ := nat_of_in (by decide) (by decide) c27
        refine V_iload_n hX dX9_year_33 1 rfl ?_
        refine V_istore (ls' := [(0, .ref 69), (1, .int (nI s_)), (2, .int (nI k_)), (3, .int (nI b_)), (4, .int (nI s_))]) hX dX9_year_34 (by decide) rfl ?_
        refine V_iconst (v := nI 0) hX dX9_year_36 (by decide) ?_
        refine V_istore (ls' := [(0, .ref 69), (1, .int (nI s_)), (2, .int (nI k_)), (3, .int (nI b_)), (4, .int (nI s_)), (5, .int (nI 0))]) hX dX9_year_37 (by decide) rfl ?_
        refine V_iconst (v := nI 0) hX dX9_year_39 (by decide) ?_
        refine V_istore (ls' := [(0, .ref 69), (1, .int (nI s_)), (2, .int (nI k_)), (3, .int (nI b_)), (4, .int (nI s_)), (5, .int (nI 0)), (6, .int (nI 0))]) hX dX9_year_40 (by decide) rfl ?_
        refine V_iconst (v := nI 0) hX dX9_year_42 (by decide) ?_
        refine V_istore (ls' := [(0, .ref 69), (1, .int (nI s_)), (2, .int (nI k_)), (3, .int (nI b_)), (4, .int (nI s_)), (5, .int (nI 0)), (6, .int (nI 0)), (7, .int (nI 0))]) hX dX9_year_43 (by decide) rfl ?_
        refine V_iconst (v := nI 0) hX dX9_year_45 (by decide) ?_
        refine V_istore (ls' := [(0, .ref 69), (1, .int (nI s_)), (2, .int (nI k_)), (3, .int (nI b_)), (4, .int (nI s_)), (5, .int (nI 0)), (6, .int (nI 0)), (7, .int (nI 0)), (8, .int (nI 0))]) hX dX9_year_46 (by decide) rfl ?_
        rcases (by omega : b_ = 0 ∨ b_ = 1 ∨ b_ = 2) with e | e | e <;> subst e
        · exact lpM_year20 (μ := μ) hX hR hok hL60 (by omega) (by omega) (fun μ' z1 z2 => by have h9 := hQ μ' z1 z2; rw [show yearS P (nI s_) (nI k_) (nI 0) = _ from if_pos ⟨c8, c18, c27⟩, nI_clamp (by omega), nI_clamp (by omega), nI_clamp (by omega)] at h9; exact h9) (k_ + 1) 0 μ (by omega) (by omega) hRM (keepC.rf μ)
        · exact lpM_year21 (μ := μ) hX hR hok hL60 (by omega) (by omega) (fun μ' z1 z2 => by have h9 := hQ μ' z1 z2; rw [show yearS P (nI s_) (nI k_) (nI 1) = _ from if_pos ⟨c8, c18, c27⟩, nI_clamp (by omega), nI_clamp (by omega), nI_clamp (by omega)] at h9; exact h9) (k_ + 1) 0 μ (by omega) (by omega) hRM (keepC.rf μ)
        · exact lpM_year22 (μ := μ) hX hR hok hL60 (by omega) (by omega) (fun μ' z1 z2 => by have h9 := hQ μ' z1 z2; rw [show yearS P (nI s_) (nI k_) (nI 2) = _ from if_pos ⟨c8, c18, c27⟩, nI_clamp (by omega), nI_clamp (by omega), nI_clamp (by omega)] at h9; exact h9) (k_ + 1) 0 μ (by omega) (by omega) hRM (keepC.rf μ)
      · refine V_bipush (v := (-2)) hX dX9_year_30 (by decide) ?_
        refine V_iret hX rfl dX9_year_32 ?_
        have h9 := hQ μ
        rw [show yearS P x_ m_ w_ = -2 from if_neg (fun z => c27 z.2.2)] at h9
        exact hR _ _ (h9 hRM (keepC.rf μ))
