/-- a sermon under way: how awake each is, names and starts so far, what all minutes came to -/
abbrev MW : Type := (Nat → Nat) × Nat × Nat × (Nat → Nat)
def mwL1 (P : PC) (sg : Nat) (cold : Bool) (u : MW) : Nat → Nat := lev1 P sg u.2.2.1 (nmdN P sg u.2.1) cold u.1
def mwStep (P : PC) (sg : Nat) (cold : Bool) (u : MW) : MW := (lev2 P (nodF P (mwL1 P sg cold u)) (mwL1 P sg cold u), u.2.1 + (if sg = 110 then 1 else 0), u.2.2.1 + (if sg = 115 then 1 else 0), cntT P sg (mwL1 P sg cold u) u.2.2.2)
def isW (μ : VS) (w : Nat) (u : MW) : Prop := (∀ h, h < 8 → μ.1 (w + 1) h = nI (u.1 h)) ∧ μ.1 w 1 = nI u.2.1 ∧ μ.1 w 2 = nI u.2.2.1 ∧ ∀ k, 7 ≤ k → k ≤ 12 → μ.1 w k = nI (u.2.2.2 k)
def isK (μ : VS) (w : Nat) (P : PC) (sg : Nat) (l : Nat → Nat) : Prop := μ.1 w 3 = nI (sm (P 1) (pPres P) 8) ∧ μ.1 w 4 = nI (sm (P 1) (nodF P l) 8) ∧ μ.1 w 5 = nI (sm (P 1) (agrF P sg l) 8) ∧ μ.1 w 6 = nI (sm (P 1) (snoF P (nodF P l)) 8)
def okU (u : MW) (n : Nat) : Prop := (∀ h, h < 8 → u.1 h ≤ 20) ∧ u.2.1 ≤ n ∧ u.2.2.1 ≤ n
theorem l1_20 {P : PC} (hok : okP P) {sg : Nat} {cold : Bool} {u : MW} {n : Nat} (hu : okU u n) : ∀ h, h < 8 → mwL1 P sg cold u h ≤ 20 := fun h hh => by
  unfold mwL1 lev1
  split
  · exact Nat.le_trans (clampN_le _ _) (hok.2.2.2.2.2.2.2.1 h hh).2.1
  · exact hu.1 h hh
theorem okU.step {P : PC} (hok : okP P) {sg : Nat} {cold : Bool} {u : MW} {n : Nat} (hu : okU u n) : okU (mwStep P sg cold u) (n + 1) := by
  refine ⟨fun h hh => ?_, ?_, ?_⟩
  · show lev2 P _ _ h ≤ 20
    unfold lev2
    split
    · omega
    · exact l1_20 hok hu h hh
  · show u.2.1 + _ ≤ n + 1
    have := hu.2.1
    split <;> omega
  · show u.2.2.1 + _ ≤ n + 1
    have := hu.2.2
    split <;> omega
theorem okU.mono {u : MW} {n m : Nat} (h : okU u n) (q : n ≤ m) : okU u m := ⟨h.1, Nat.le_trans h.2.1 q, Nat.le_trans h.2.2 q⟩
set_option maxRecDepth 100000 in
set_option maxHeartbeats 4000000 in
theorem k_pass {G : VG} {d : Nat} {μ : VS} {Q : Option Value → VS → Prop} {w_ p_ sg_ n_ : Nat} {P : PC} {cold_ : Bool} {u_ : MW} (hkw : vk w_ = (5, 0)) (hkp : vk p_ = (3, 0)) (hP : isP μ p_ P) (hok : okP P) (hsg : sg_ < 1000) (hU : isW μ w_ u_) (hu : okU u_ n_) (hn : n_ ≤ 100) (hQ : ∀ μ', (∀ a, a ≠ w_ → a ≠ w_ + 1 → μ'.1 a = μ.1 a) → isW μ' w_ (mwStep P sg_ cold_ u_) → isK μ' w_ P sg_ (mwL1 P sg_ cold_ u_) → μ'.2 = μ.2 → Q none μ') : Call G (d + 3) yX6_pass cX6_pass 5 none [.ref w_, .ref p_, .int (nI sg_), .int (bI (cold_ = true))] μ Q := by
  intro X hX hR
  have hap := pw_apart hkp hkw
  have hP4 := hok.2.2.2.2.1
  show V G 5 X 0 [(0, .ref w_), (1, .ref p_), (2, .int (nI sg_)), (3, .int (bI (cold_ = true)))] [] μ
  refine V_iload_n hX dX6_pass_0 2 rfl ?_
  refine V_bipush (v := nI 110) hX dX6_pass_1 (by decide) ?_
  refine V_icmp_neN (tgt := 17) hX dX6_pass_3 (by decide) (by omega) (by omega) (fun c3 => ?_) (fun c3 => ?_)
  · refine V_bipush (v := (-6)) hX dX6_pass_17 (by decide) ?_
    refine V_istore (ls' := [(0, .ref w_), (1, .ref p_), (2, .int (nI sg_)), (3, .int (bI (cold_ = true))), (4, .int (-6))]) hX dX6_pass_19 (by decide) rfl ?_
    refine V_ls (ls' := [(0, .ref w_), (1, .ref p_), (2, .int (nI sg_)), (3, .int (bI (cold_ = true))), (4, .int (nmI (nmdN P sg_ u_.2.1)))]) (by rw [show nmI (nmdN P sg_ u_.2.1) = (-6) from by rw [show nmdN P sg_ u_.2.1 = 99 from if_neg c3]; rfl]) ?_
    refine V_aload_n hX dX6_pass_21 0 rfl ?_
    refine V_aload_n hX dX6_pass_22 1 rfl ?_
    refine V_iload_n hX dX6_pass_23 2 rfl ?_
    refine V_iload hX dX6_pass_24 4 rfl ?_
    refine V_iload_n hX dX6_pass_26 3 rfl ?_
    refine V_callV (As := [.ref p_, .int (nI sg_), .int (nmI (nmdN P sg_ u_.2.1)), .int (bI (cold_ = true))]) (st := []) hX mX6_76 hkw (k_changeLevels hkw hkp hP hok hU.2.2.1 (by have := hu.2.2; omega) hsg (nmdN_lt _ _ _) hu.1 hU.1 (fun μ1 a1 b1 d1 => ?_)) rfl (Nat.le_of_ble_eq_true rfl) (Nat.le_of_ble_eq_true rfl) dX6_pass_27
    show V G 5 X 30 [(0, .ref w_), (1, .ref p_), (2, .int (nI sg_)), (3, .int (bI (cold_ = true))), (4, .int (nmI (nmdN P sg_ u_.2.1)))] [] μ1
    have hP1 : isP μ1 p_ P := hP.frame (fun j hj => a1 _ (by omega))
    have b1 : ∀ h, h < 8 → μ1.1 (w_ + 1) h = nI (mwL1 P sg_ cold_ u_ h) := b1
    refine V_aload_n hX dX6_pass_30 0 rfl ?_
    refine V_aload_n hX dX6_pass_31 1 rfl ?_
    refine V_iload_n hX dX6_pass_32 2 rfl ?_
    refine V_callV (As := [.ref p_, .int (nI sg_)]) (st := []) hX mX6_80 hkw (k_findHeads (l_ := mwL1 P sg_ cold_ u_) hkw hkp hP1 hok hsg b1 (l1_20 hok hu) (fun μ2 a2 e2 m3 m4 m5 m6 d2 => ?_)) rfl (Nat.le_of_ble_eq_true rfl) (Nat.le_of_ble_eq_true rfl) dX6_pass_33
    show V G 5 X 36 [(0, .ref w_), (1, .ref p_), (2, .int (nI sg_)), (3, .int (bI (cold_ = true))), (4, .int (nmI (nmdN P sg_ u_.2.1)))] [] μ2
    have hP2 : isP μ2 p_ P := hP1.frame (fun j hj => a2 _ (by omega))
    refine V_aload_n hX dX6_pass_36 0 rfl ?_
    refine V_aload_n hX dX6_pass_37 1 rfl ?_
    refine V_callV (As := [.ref p_]) (st := []) hX mX6_84 hkw (k_elbow (l_ := mwL1 P sg_ cold_ u_) hkw hkp hP2 hok (fun h hh => by rw [a2 (w_ + 1) (by omega)]; exact b1 h hh) m3 m4 (fun μ3 a3 b3 d3 => ?_)) rfl (Nat.le_of_ble_eq_true rfl) (Nat.le_of_ble_eq_true rfl) dX6_pass_38
    show V G 5 X 41 [(0, .ref w_), (1, .ref p_), (2, .int (nI sg_)), (3, .int (bI (cold_ = true))), (4, .int (nmI (nmdN P sg_ u_.2.1)))] [] μ3
    have hP3 : isP μ3 p_ P := hP2.frame (fun j hj => a3 _ (by omega))
    have w3 : μ3.1 w_ = μ2.1 w_ := a3 w_ (by omega)
    refine V_aload_n hX dX6_pass_41 0 rfl ?_
    refine V_aload_n hX dX6_pass_42 1 rfl ?_
    refine V_iload_n hX dX6_pass_43 2 rfl ?_
    refine V_callV (As := [.ref p_, .int (nI sg_)]) (st := []) hX mX6_88 hkw (k_count (l_ := mwL1 P sg_ cold_ u_) (T_ := u_.2.2.2) hkw hkp hP3 hok hsg (by rw [w3]; exact m3) (by rw [w3]; exact m4) (by rw [w3]; exact m5) (by rw [w3]; exact m6) (fun k h7 h8 => by rw [w3, e2 k (by omega), a1 w_ (by omega)]; exact hU.2.2.2 k h7 h8) (fun μ4 a4 e4 t4 d4 => ?_)) rfl (Nat.le_of_ble_eq_true rfl) (Nat.le_of_ble_eq_true rfl) dX6_pass_44
    show V G 5 X 47 [(0, .ref w_), (1, .ref p_), (2, .int (nI sg_)), (3, .int (bI (cold_ = true))), (4, .int (nmI (nmdN P sg_ u_.2.1)))] [] μ4
    have hn4 : μ4.1 w_ 1 = nI u_.2.1 := by rw [e4 1 (by decide), w3, e2 1 (by decide), a1 w_ (by omega)]; exact hU.2.1
    have hs4 : μ4.1 w_ 2 = nI u_.2.2.1 := by rw [e4 2 (by decide), w3, e2 2 (by decide), a1 w_ (by omega)]; exact hU.2.2.1
    refine V_aload_n hX dX6_pass_47 0 rfl ?_
    refine V_dup hX dX6_pass_48 rfl ?_
    refine V_getN (x := nI u_.2.1) hX fX6_15 hkw hn4 dX6_pass_49 ?_
    refine V_iload_n hX dX6_pass_52 2 rfl ?_
    refine V_bipush (v := nI 110) hX dX6_pass_53 (by decide) ?_
    refine V_icmp_neN (tgt := 62) hX dX6_pass_55 (by decide) (by omega) (by omega) (fun c55 => ?_) (fun c55 => ?_)
    · refine V_iconst (v := nI 0) hX dX6_pass_62 (by decide) ?_
      refine V_iaddN hX dX6_pass_63 ?_
      refine V_puti hX fX6_15 fw_5_1 hkw dX6_pass_64 ?_
      show V G 5 X 67 [(0, .ref w_), (1, .ref p_), (2, .int (nI sg_)), (3, .int (bI (cold_ = true))), (4, .int (nmI (nmdN P sg_ u_.2.1)))] [] (vup μ4.1 w_ 1 (nI (u_.2.1 + 0)), μ4.2)
      refine V_aload_n hX dX6_pass_67 0 rfl ?_
      refine V_dup hX dX6_pass_68 rfl ?_
      refine V_getN (x := nI u_.2.2.1) hX fX6_19 hkw ((vup_ne (by decide)).trans hs4) dX6_pass_69 ?_
      refine V_iload_n hX dX6_pass_72 2 rfl ?_
      refine V_bipush (v := nI 115) hX dX6_pass_73 (by decide) ?_
      refine V_icmp_neN (tgt := 82) hX dX6_pass_75 (by decide) (by omega) (by omega) (fun c75 => ?_) (fun c75 => ?_)
      · refine V_iconst (v := nI 0) hX dX6_pass_82 (by decide) ?_
        refine V_iaddN hX dX6_pass_83 ?_
        refine V_puti hX fX6_19 fw_5_2 hkw dX6_pass_84 ?_
        show V G 5 X 87 [(0, .ref w_), (1, .ref p_), (2, .int (nI sg_)), (3, .int (bI (cold_ = true))), (4, .int (nmI (nmdN P sg_ u_.2.1)))] [] (vup (vup μ4.1 w_ 1 (nI (u_.2.1 + 0))) w_ 2 (nI (u_.2.2.1 + 0)), μ4.2)
        refine V_vret hX rfl dX6_pass_87 ?_
        refine hR _ _ (hQ _ (fun a h1 h2 => ?_) ⟨fun h hh => ?_, ?_, ?_, fun k h7 h8 => ?_⟩ ⟨?_, ?_, ?_, ?_⟩ (by dsimp only; rw [d4, d3, d2, d1]))
        · dsimp only; rw [vup_row _ _ _ h1, vup_row _ _ _ h1, a4 a h1, a3 a h2, a2 a h1, a1 a h2]
        · dsimp only; rw [vup_row _ _ _ (by omega), vup_row _ _ _ (by omega), a4 _ (by omega)]; exact b3 h hh
        · show _ = nI (u_.2.1 + (if sg_ = 110 then 1 else 0)); rw [if_neg c55]; exact ((vup_ne (by decide)).trans (vup_same _ _ _ _))
        · show _ = nI (u_.2.2.1 + (if sg_ = 115 then 1 else 0)); rw [if_neg c75]; exact (vup_same _ _ _ _)
        · dsimp only; rw [vup_ne (by omega), vup_ne (by omega)]; exact t4 k h7 h8
        · dsimp only; rw [vup_ne (by omega), vup_ne (by omega), e4 3 (by decide), w3]; exact m3
        · dsimp only; rw [vup_ne (by omega), vup_ne (by omega), e4 4 (by decide), w3]; exact m4
        · dsimp only; rw [vup_ne (by omega), vup_ne (by omega), e4 5 (by decide), w3]; exact m5
        · dsimp only; rw [vup_ne (by omega), vup_ne (by omega), e4 6 (by decide), w3]; exact m6
      · refine V_iconst (v := nI 1) hX dX6_pass_78 (by decide) ?_
        refine V_goto (tgt := 83) hX dX6_pass_79 (by decide) ?_
        refine V_iaddN hX dX6_pass_83 ?_
        refine V_puti hX fX6_19 fw_5_2 hkw dX6_pass_84 ?_
        show V G 5 X 87 [(0, .ref w_), (1, .ref p_), (2, .int (nI sg_)), (3, .int (bI (cold_ = true))), (4, .int (nmI (nmdN P sg_ u_.2.1)))] [] (vup (vup μ4.1 w_ 1 (nI (u_.2.1 + 0))) w_ 2 (nI (u_.2.2.1 + 1)), μ4.2)
        refine V_vret hX rfl dX6_pass_87 ?_
        refine hR _ _ (hQ _ (fun a h1 h2 => ?_) ⟨fun h hh => ?_, ?_, ?_, fun k h7 h8 => ?_⟩ ⟨?_, ?_, ?_, ?_⟩ (by dsimp only; rw [d4, d3, d2, d1]))
        · dsimp only; rw [vup_row _ _ _ h1, vup_row _ _ _ h1, a4 a h1, a3 a h2, a2 a h1, a1 a h2]
        · dsimp only; rw [vup_row _ _ _ (by omega), vup_row _ _ _ (by omega), a4 _ (by omega)]; exact b3 h hh
        · show _ = nI (u_.2.1 + (if sg_ = 110 then 1 else 0)); rw [if_neg c55]; exact ((vup_ne (by decide)).trans (vup_same _ _ _ _))
        · show _ = nI (u_.2.2.1 + (if sg_ = 115 then 1 else 0)); rw [if_pos c75]; exact (vup_same _ _ _ _)
        · dsimp only; rw [vup_ne (by omega), vup_ne (by omega)]; exact t4 k h7 h8
        · dsimp only; rw [vup_ne (by omega), vup_ne (by omega), e4 3 (by decide), w3]; exact m3
        · dsimp only; rw [vup_ne (by omega), vup_ne (by omega), e4 4 (by decide), w3]; exact m4
        · dsimp only; rw [vup_ne (by omega), vup_ne (by omega), e4 5 (by decide), w3]; exact m5
        · dsimp only; rw [vup_ne (by omega), vup_ne (by omega), e4 6 (by decide), w3]; exact m6
    · refine V_iconst (v := nI 1) hX dX6_pass_58 (by decide) ?_
      refine V_goto (tgt := 63) hX dX6_pass_59 (by decide) ?_
      refine V_iaddN hX dX6_pass_63 ?_
      refine V_puti hX fX6_15 fw_5_1 hkw dX6_pass_64 ?_
      show V G 5 X 67 [(0, .ref w_), (1, .ref p_), (2, .int (nI sg_)), (3, .int (bI (cold_ = true))), (4, .int (nmI (nmdN P sg_ u_.2.1)))] [] (vup μ4.1 w_ 1 (nI (u_.2.1 + 1)), μ4.2)
      refine V_aload_n hX dX6_pass_67 0 rfl ?_
      refine V_dup hX dX6_pass_68 rfl ?_
      refine V_getN (x := nI u_.2.2.1) hX fX6_19 hkw ((vup_ne (by decide)).trans hs4) dX6_pass_69 ?_
      refine V_iload_n hX dX6_pass_72 2 rfl ?_
      refine V_bipush (v := nI 115) hX dX6_pass_73 (by decide) ?_
      refine V_icmp_neN (tgt := 82) hX dX6_pass_75 (by decide) (by omega) (by omega) (fun c75 => ?_) (fun c75 => ?_)
      · refine V_iconst (v := nI 0) hX dX6_pass_82 (by decide) ?_
        refine V_iaddN hX dX6_pass_83 ?_
        refine V_puti hX fX6_19 fw_5_2 hkw dX6_pass_84 ?_
        show V G 5 X 87 [(0, .ref w_), (1, .ref p_), (2, .int (nI sg_)), (3, .int (bI (cold_ = true))), (4, .int (nmI (nmdN P sg_ u_.2.1)))] [] (vup (vup μ4.1 w_ 1 (nI (u_.2.1 + 1))) w_ 2 (nI (u_.2.2.1 + 0)), μ4.2)
        refine V_vret hX rfl dX6_pass_87 ?_
        exact absurd c55 c3
      · refine V_iconst (v := nI 1) hX dX6_pass_78 (by decide) ?_
        refine V_goto (tgt := 83) hX dX6_pass_79 (by decide) ?_
        refine V_iaddN hX dX6_pass_83 ?_
        refine V_puti hX fX6_19 fw_5_2 hkw dX6_pass_84 ?_
        show V G 5 X 87 [(0, .ref w_), (1, .ref p_), (2, .int (nI sg_)), (3, .int (bI (cold_ = true))), (4, .int (nmI (nmdN P sg_ u_.2.1)))] [] (vup (vup μ4.1 w_ 1 (nI (u_.2.1 + 1))) w_ 2 (nI (u_.2.2.1 + 1)), μ4.2)
        refine V_vret hX rfl dX6_pass_87 ?_
        exact absurd c55 c3
  · refine V_aload_n hX dX6_pass_6 1 rfl ?_
    refine V_aload_n hX dX6_pass_7 0 rfl ?_
    refine V_getN (x := nI u_.2.1) hX fX6_15 hkw hU.2.1 dX6_pass_8 ?_
    refine V_callV (As := [.int (nI u_.2.1)]) (st := []) hX mX6_72 hkp (k_named hkp hP hP4 (by have := hu.2.1; omega) ?_) rfl (Nat.le_of_ble_eq_true rfl) (Nat.le_of_ble_eq_true rfl) dX6_pass_11
    show V G 5 X 14 [(0, .ref w_), (1, .ref p_), (2, .int (nI sg_)), (3, .int (bI (cold_ = true)))] [.int (nmI (nmdN P 110 u_.2.1))] μ
    refine V_goto (tgt := 19) hX dX6_pass_14 (by decide) ?_
    refine V_istore (ls' := [(0, .ref w_), (1, .ref p_), (2, .int (nI sg_)), (3, .int (bI (cold_ = true))), (4, .int (nmI (nmdN P 110 u_.2.1)))]) hX dX6_pass_19 (by decide) rfl ?_
    refine V_ls (ls' := [(0, .ref w_), (1, .ref p_), (2, .int (nI sg_)), (3, .int (bI (cold_ = true))), (4, .int (nmI (nmdN P sg_ u_.2.1)))]) (by rw [show nmI (nmdN P sg_ u_.2.1) = nmI (nmdN P 110 u_.2.1) from by rw [c3]]) ?_
    refine V_aload_n hX dX6_pass_21 0 rfl ?_
    refine V_aload_n hX dX6_pass_22 1 rfl ?_
    refine V_iload_n hX dX6_pass_23 2 rfl ?_
    refine V_iload hX dX6_pass_24 4 rfl ?_
    refine V_iload_n hX dX6_pass_26 3 rfl ?_
    refine V_callV (As := [.ref p_, .int (nI sg_), .int (nmI (nmdN P sg_ u_.2.1)), .int (bI (cold_ = true))]) (st := []) hX mX6_76 hkw (k_changeLevels hkw hkp hP hok hU.2.2.1 (by have := hu.2.2; omega) hsg (nmdN_lt _ _ _) hu.1 hU.1 (fun μ1 a1 b1 d1 => ?_)) rfl (Nat.le_of_ble_eq_true rfl) (Nat.le_of_ble_eq_true rfl) dX6_pass_27
    show V G 5 X 30 [(0, .ref w_), (1, .ref p_), (2, .int (nI sg_)), (3, .int (bI (cold_ = true))), (4, .int (nmI (nmdN P sg_ u_.2.1)))] [] μ1
    have hP1 : isP μ1 p_ P := hP.frame (fun j hj => a1 _ (by omega))
    have b1 : ∀ h, h < 8 → μ1.1 (w_ + 1) h = nI (mwL1 P sg_ cold_ u_ h) := b1
    refine V_aload_n hX dX6_pass_30 0 rfl ?_
    refine V_aload_n hX dX6_pass_31 1 rfl ?_
    refine V_iload_n hX dX6_pass_32 2 rfl ?_
    refine V_callV (As := [.ref p_, .int (nI sg_)]) (st := []) hX mX6_80 hkw (k_findHeads (l_ := mwL1 P sg_ cold_ u_) hkw hkp hP1 hok hsg b1 (l1_20 hok hu) (fun μ2 a2 e2 m3 m4 m5 m6 d2 => ?_)) rfl (Nat.le_of_ble_eq_true rfl) (Nat.le_of_ble_eq_true rfl) dX6_pass_33
    show V G 5 X 36 [(0, .ref w_), (1, .ref p_), (2, .int (nI sg_)), (3, .int (bI (cold_ = true))), (4, .int (nmI (nmdN P sg_ u_.2.1)))] [] μ2
    have hP2 : isP μ2 p_ P := hP1.frame (fun j hj => a2 _ (by omega))
    refine V_aload_n hX dX6_pass_36 0 rfl ?_
    refine V_aload_n hX dX6_pass_37 1 rfl ?_
    refine V_callV (As := [.ref p_]) (st := []) hX mX6_84 hkw (k_elbow (l_ := mwL1 P sg_ cold_ u_) hkw hkp hP2 hok (fun h hh => by rw [a2 (w_ + 1) (by omega)]; exact b1 h hh) m3 m4 (fun μ3 a3 b3 d3 => ?_)) rfl (Nat.le_of_ble_eq_true rfl) (Nat.le_of_ble_eq_true rfl) dX6_pass_38
    show V G 5 X 41 [(0, .ref w_), (1, .ref p_), (2, .int (nI sg_)), (3, .int (bI (cold_ = true))), (4, .int (nmI (nmdN P sg_ u_.2.1)))] [] μ3
    have hP3 : isP μ3 p_ P := hP2.frame (fun j hj => a3 _ (by omega))
    have w3 : μ3.1 w_ = μ2.1 w_ := a3 w_ (by omega)
    refine V_aload_n hX dX6_pass_41 0 rfl ?_
    refine V_aload_n hX dX6_pass_42 1 rfl ?_
    refine V_iload_n hX dX6_pass_43 2 rfl ?_
    refine V_callV (As := [.ref p_, .int (nI sg_)]) (st := []) hX mX6_88 hkw (k_count (l_ := mwL1 P sg_ cold_ u_) (T_ := u_.2.2.2) hkw hkp hP3 hok hsg (by rw [w3]; exact m3) (by rw [w3]; exact m4) (by rw [w3]; exact m5) (by rw [w3]; exact m6) (fun k h7 h8 => by rw [w3, e2 k (by omega), a1 w_ (by omega)]; exact hU.2.2.2 k h7 h8) (fun μ4 a4 e4 t4 d4 => ?_)) rfl (Nat.le_of_ble_eq_true rfl) (Nat.le_of_ble_eq_true rfl) dX6_pass_44
    show V G 5 X 47 [(0, .ref w_), (1, .ref p_), (2, .int (nI sg_)), (3, .int (bI (cold_ = true))), (4, .int (nmI (nmdN P sg_ u_.2.1)))] [] μ4
    have hn4 : μ4.1 w_ 1 = nI u_.2.1 := by rw [e4 1 (by decide), w3, e2 1 (by decide), a1 w_ (by omega)]; exact hU.2.1
    have hs4 : μ4.1 w_ 2 = nI u_.2.2.1 := by rw [e4 2 (by decide), w3, e2 2 (by decide), a1 w_ (by omega)]; exact hU.2.2.1
    refine V_aload_n hX dX6_pass_47 0 rfl ?_
    refine V_dup hX dX6_pass_48 rfl ?_
    refine V_getN (x := nI u_.2.1) hX fX6_15 hkw hn4 dX6_pass_49 ?_
    refine V_iload_n hX dX6_pass_52 2 rfl ?_
    refine V_bipush (v := nI 110) hX dX6_pass_53 (by decide) ?_
    refine V_icmp_neN (tgt := 62) hX dX6_pass_55 (by decide) (by omega) (by omega) (fun c55 => ?_) (fun c55 => ?_)
    · refine V_iconst (v := nI 0) hX dX6_pass_62 (by decide) ?_
      refine V_iaddN hX dX6_pass_63 ?_
      refine V_puti hX fX6_15 fw_5_1 hkw dX6_pass_64 ?_
      show V G 5 X 67 [(0, .ref w_), (1, .ref p_), (2, .int (nI sg_)), (3, .int (bI (cold_ = true))), (4, .int (nmI (nmdN P sg_ u_.2.1)))] [] (vup μ4.1 w_ 1 (nI (u_.2.1 + 0)), μ4.2)
      refine V_aload_n hX dX6_pass_67 0 rfl ?_
      refine V_dup hX dX6_pass_68 rfl ?_
      refine V_getN (x := nI u_.2.2.1) hX fX6_19 hkw ((vup_ne (by decide)).trans hs4) dX6_pass_69 ?_
      refine V_iload_n hX dX6_pass_72 2 rfl ?_
      refine V_bipush (v := nI 115) hX dX6_pass_73 (by decide) ?_
      refine V_icmp_neN (tgt := 82) hX dX6_pass_75 (by decide) (by omega) (by omega) (fun c75 => ?_) (fun c75 => ?_)
      · refine V_iconst (v := nI 0) hX dX6_pass_82 (by decide) ?_
        refine V_iaddN hX dX6_pass_83 ?_
        refine V_puti hX fX6_19 fw_5_2 hkw dX6_pass_84 ?_
        show V G 5 X 87 [(0, .ref w_), (1, .ref p_), (2, .int (nI sg_)), (3, .int (bI (cold_ = true))), (4, .int (nmI (nmdN P sg_ u_.2.1)))] [] (vup (vup μ4.1 w_ 1 (nI (u_.2.1 + 0))) w_ 2 (nI (u_.2.2.1 + 0)), μ4.2)
        refine V_vret hX rfl dX6_pass_87 ?_
        exact absurd c3 c55
      · refine V_iconst (v := nI 1) hX dX6_pass_78 (by decide) ?_
        refine V_goto (tgt := 83) hX dX6_pass_79 (by decide) ?_
        refine V_iaddN hX dX6_pass_83 ?_
        refine V_puti hX fX6_19 fw_5_2 hkw dX6_pass_84 ?_
        show V G 5 X 87 [(0, .ref w_), (1, .ref p_), (2, .int (nI sg_)), (3, .int (bI (cold_ = true))), (4, .int (nmI (nmdN P sg_ u_.2.1)))] [] (vup (vup μ4.1 w_ 1 (nI (u_.2.1 + 0))) w_ 2 (nI (u_.2.2.1 + 1)), μ4.2)
        refine V_vret hX rfl dX6_pass_87 ?_
        exact absurd c3 c55
    · refine V_iconst (v := nI 1) hX dX6_pass_58 (by decide) ?_
      refine V_goto (tgt := 63) hX dX6_pass_59 (by decide) ?_
      refine V_iaddN hX dX6_pass_63 ?_
      refine V_puti hX fX6_15 fw_5_1 hkw dX6_pass_64 ?_
      show V G 5 X 67 [(0, .ref w_), (1, .ref p_), (2, .int (nI sg_)), (3, .int (bI (cold_ = true))), (4, .int (nmI (nmdN P sg_ u_.2.1)))] [] (vup μ4.1 w_ 1 (nI (u_.2.1 + 1)), μ4.2)
      refine V_aload_n hX dX6_pass_67 0 rfl ?_
      refine V_dup hX dX6_pass_68 rfl ?_
      refine V_getN (x := nI u_.2.2.1) hX fX6_19 hkw ((vup_ne (by decide)).trans hs4) dX6_pass_69 ?_
      refine V_iload_n hX dX6_pass_72 2 rfl ?_
      refine V_bipush (v := nI 115) hX dX6_pass_73 (by decide) ?_
      refine V_icmp_neN (tgt := 82) hX dX6_pass_75 (by decide) (by omega) (by omega) (fun c75 => ?_) (fun c75 => ?_)
      · refine V_iconst (v := nI 0) hX dX6_pass_82 (by decide) ?_
        refine V_iaddN hX dX6_pass_83 ?_
        refine V_puti hX fX6_19 fw_5_2 hkw dX6_pass_84 ?_
        show V G 5 X 87 [(0, .ref w_), (1, .ref p_), (2, .int (nI sg_)), (3, .int (bI (cold_ = true))), (4, .int (nmI (nmdN P sg_ u_.2.1)))] [] (vup (vup μ4.1 w_ 1 (nI (u_.2.1 + 1))) w_ 2 (nI (u_.2.2.1 + 0)), μ4.2)
        refine V_vret hX rfl dX6_pass_87 ?_
        refine hR _ _ (hQ _ (fun a h1 h2 => ?_) ⟨fun h hh => ?_, ?_, ?_, fun k h7 h8 => ?_⟩ ⟨?_, ?_, ?_, ?_⟩ (by dsimp only; rw [d4, d3, d2, d1]))
        · dsimp only; rw [vup_row _ _ _ h1, vup_row _ _ _ h1, a4 a h1, a3 a h2, a2 a h1, a1 a h2]
        · dsimp only; rw [vup_row _ _ _ (by omega), vup_row _ _ _ (by omega), a4 _ (by omega)]; exact b3 h hh
        · show _ = nI (u_.2.1 + (if sg_ = 110 then 1 else 0)); rw [if_pos c55]; exact ((vup_ne (by decide)).trans (vup_same _ _ _ _))
        · show _ = nI (u_.2.2.1 + (if sg_ = 115 then 1 else 0)); rw [if_neg c75]; exact (vup_same _ _ _ _)
        · dsimp only; rw [vup_ne (by omega), vup_ne (by omega)]; exact t4 k h7 h8
        · dsimp only; rw [vup_ne (by omega), vup_ne (by omega), e4 3 (by decide), w3]; exact m3
        · dsimp only; rw [vup_ne (by omega), vup_ne (by omega), e4 4 (by decide), w3]; exact m4
        · dsimp only; rw [vup_ne (by omega), vup_ne (by omega), e4 5 (by decide), w3]; exact m5
        · dsimp only; rw [vup_ne (by omega), vup_ne (by omega), e4 6 (by decide), w3]; exact m6
      · refine V_iconst (v := nI 1) hX dX6_pass_78 (by decide) ?_
        refine V_goto (tgt := 83) hX dX6_pass_79 (by decide) ?_
        refine V_iaddN hX dX6_pass_83 ?_
        refine V_puti hX fX6_19 fw_5_2 hkw dX6_pass_84 ?_
        show V G 5 X 87 [(0, .ref w_), (1, .ref p_), (2, .int (nI sg_)), (3, .int (bI (cold_ = true))), (4, .int (nmI (nmdN P sg_ u_.2.1)))] [] (vup (vup μ4.1 w_ 1 (nI (u_.2.1 + 1))) w_ 2 (nI (u_.2.2.1 + 1)), μ4.2)
        refine V_vret hX rfl dX6_pass_87 ?_
        refine hR _ _ (hQ _ (fun a h1 h2 => ?_) ⟨fun h hh => ?_, ?_, ?_, fun k h7 h8 => ?_⟩ ⟨?_, ?_, ?_, ?_⟩ (by dsimp only; rw [d4, d3, d2, d1]))
        · dsimp only; rw [vup_row _ _ _ h1, vup_row _ _ _ h1, a4 a h1, a3 a h2, a2 a h1, a1 a h2]
        · dsimp only; rw [vup_row _ _ _ (by omega), vup_row _ _ _ (by omega), a4 _ (by omega)]; exact b3 h hh
        · show _ = nI (u_.2.1 + (if sg_ = 110 then 1 else 0)); rw [if_pos c55]; exact ((vup_ne (by decide)).trans (vup_same _ _ _ _))
        · show _ = nI (u_.2.2.1 + (if sg_ = 115 then 1 else 0)); rw [if_pos c75]; exact (vup_same _ _ _ _)
        · dsimp only; rw [vup_ne (by omega), vup_ne (by omega)]; exact t4 k h7 h8
        · dsimp only; rw [vup_ne (by omega), vup_ne (by omega), e4 3 (by decide), w3]; exact m3
        · dsimp only; rw [vup_ne (by omega), vup_ne (by omega), e4 4 (by decide), w3]; exact m4
        · dsimp only; rw [vup_ne (by omega), vup_ne (by omega), e4 5 (by decide), w3]; exact m5
        · dsimp only; rw [vup_ne (by omega), vup_ne (by omega), e4 6 (by decide), w3]; exact m6
