theorem ge10_ne {w_ : Int32} (h : nI 10 ≤ w_) (k : Nat) (hk : k < 10) : ¬ w_ = nI k := fun e => absurd h (by rw [e]; exact nI_ge hk (by decide))
theorem toldS_lo {P : PC} {L : Nat} {w_ : Int32} (e0 : ¬ w_ = nI 0) (e1 : ¬ w_ = nI 1) (e2 : ¬ w_ = nI 2) (e3 : ¬ w_ = nI 3) (e4 : ¬ w_ = nI 4) (e5 : ¬ w_ = nI 5) (e6 : ¬ w_ = nI 6) (h : ¬ nI 10 ≤ w_) : toldS P L w_ = -2 := by
  unfold toldS
  rw [if_neg e0, if_neg e1, if_neg e2, if_neg e3, if_neg e4, if_neg e5, if_neg e6, if_neg h]
theorem toldS_hi {P : PC} {L : Nat} {w_ : Int32} (h : nI 10 ≤ w_) : toldS P L w_ = (if thr P (w_ / nI 10 - nI 1) then
      (if w_ - w_ / nI 10 * nI 10 = nI 0 then nI (P 1 (w_ / nI 10 - nI 1).toNatClampNeg) else if w_ - w_ / nI 10 * nI 10 = nI 1 then nI (P 2 (w_ / nI 10 - nI 1).toNatClampNeg) else if w_ - w_ / nI 10 * nI 10 = nI 2 then nI (P 3 (w_ / nI 10 - nI 1).toNatClampNeg) else if w_ - w_ / nI 10 * nI 10 = nI 3 then nI (P 4 (w_ / nI 10 - nI 1).toNatClampNeg) else if w_ - w_ / nI 10 * nI 10 = nI 4 then bI (pUpr P (w_ / nI 10 - nI 1).toNatClampNeg = true) else -2)
    else -2) := by
  unfold toldS
  rw [if_neg (ge10_ne h 0 (by decide)), if_neg (ge10_ne h 1 (by decide)), if_neg (ge10_ne h 2 (by decide)), if_neg (ge10_ne h 3 (by decide)), if_neg (ge10_ne h 4 (by decide)), if_neg (ge10_ne h 5 (by decide)), if_neg (ge10_ne h 6 (by decide)), if_pos h]
theorem shr_bI (n j : Nat) : nI (n >>> j &&& 1) = bI (n.testBit j = true) := by
  by_cases h : n.testBit j = true
  · rw [bI_t h, shr_test n j |>.mpr h]; rfl
  · rw [bI_f h]
    have h2 : ¬ n >>> j &&& 1 = 1 := fun z => h ((shr_test n j).mp z)
    have := Nat.and_le_right (n := n >>> j) (m := 1)
    rw [show n >>> j &&& 1 = 0 by omega]; rfl
def toldD (P : PC) (h d : Int32) : Int32 := if thr P h then (if d = nI 0 then nI (P 1 h.toNatClampNeg) else if d = nI 1 then nI (P 2 h.toNatClampNeg) else if d = nI 2 then nI (P 3 h.toNatClampNeg) else if d = nI 3 then nI (P 4 h.toNatClampNeg) else if d = nI 4 then bI (pUpr P h.toNatClampNeg = true) else -2) else -2
set_option maxRecDepth 100000 in
set_option maxHeartbeats 4000000 in
theorem kC_toldOf {G : VG} {d : Nat} {μ : VS} {Q : Option Value → VS → Prop} {P : PC} {h_ d_ : Int32} (hP : isP μ 1 P) (h4 : P 0 4 < 256) (h5 : P 0 5 < 256) (hQ : Q (some (.int (toldD P h_ d_))) μ) : Call G (d + 1) yX8_toldOf cX8_toldOf 3 (some .int) [.ref 0, .int h_, .int d_] μ Q := by
  intro X hX hR
  show V G 3 X 0 [(0, .ref 0), (1, .int h_), (2, .int d_)] [] μ
  refine V_aload_n hX dX8_toldOf_0 0 rfl ?_
  refine V_getr (j := 1) hX fX8_10 rfl rfl dX8_toldOf_1 ?_
  refine V_iload_n hX dX8_toldOf_4 1 rfl ?_
  refine V_callV (As := [.int h_]) (st := []) hX mX8_115 rfl (kC_isThere rfl hP (by omega) ?_) rfl (Nat.le_of_ble_eq_true rfl) (Nat.le_of_ble_eq_true rfl) dX8_toldOf_5
  show V G 3 X 8 [(0, .ref 0), (1, .int h_), (2, .int d_)] [.int (bI (thr P h_))] μ
  refine V_if_neB (tgt := 14) hX dX8_toldOf_8 (by decide) (fun c8 => ?_) (fun c8 => ?_)
  · obtain ⟨j_, hj7, rfl, hpj⟩ := thr_nat c8
    refine V_iload_n hX dX8_toldOf_14 2 rfl ?_
    show V G 3 X 15 [(0, .ref 0), (1, .int (nI j_)), (2, .int d_)] (.int d_ :: []) μ
    by_cases e15_0 : d_ = nI 0
    · subst e15_0
      refine V_tableIn (x := nI 0) (off := 33) (tgt := 48) hX dX8_toldOf_15 (by decide) (by decide) (by decide) (by decide) ?_
      refine V_aload_n hX dX8_toldOf_48 0 rfl ?_
      refine V_getr (j := 1) hX fX8_10 rfl rfl dX8_toldOf_49 ?_
      refine V_getr (j := 2) hX fX8_93 rfl rfl dX8_toldOf_52 ?_
      refine V_iload_n hX dX8_toldOf_55 1 rfl ?_
      refine V_ialdN (x := nI (P 1 j_)) hX rfl (by omega) (by decide) (hP.2 0 (by decide) _ (by omega)) dX8_toldOf_56 ?_
      refine V_iret hX rfl dX8_toldOf_57 ?_
      rw [show toldD P (nI j_) (nI 0) = nI (P 1 j_) from (if_pos c8).trans (by rw [nI_clamp (by omega)]; rw [if_pos (rfl : nI 0 = nI 0)])] at hQ
      exact hR _ _ hQ
    · skip
      by_cases e15_1 : d_ = nI 1
      · subst e15_1
        refine V_tableIn (x := nI 1) (off := 43) (tgt := 58) hX dX8_toldOf_15 (by decide) (by decide) (by decide) (by decide) ?_
        refine V_aload_n hX dX8_toldOf_58 0 rfl ?_
        refine V_getr (j := 1) hX fX8_10 rfl rfl dX8_toldOf_59 ?_
        refine V_getr (j := 3) hX fX8_97 rfl rfl dX8_toldOf_62 ?_
        refine V_iload_n hX dX8_toldOf_65 1 rfl ?_
        refine V_ialdN (x := nI (P 2 j_)) hX rfl (by omega) (by decide) (hP.2 1 (by decide) _ (by omega)) dX8_toldOf_66 ?_
        refine V_iret hX rfl dX8_toldOf_67 ?_
        rw [show toldD P (nI j_) (nI 1) = nI (P 2 j_) from (if_pos c8).trans (by rw [nI_clamp (by omega)]; rw [if_neg (by decide : ¬ nI 1 = nI 0), if_pos (rfl : nI 1 = nI 1)])] at hQ
        exact hR _ _ hQ
      · skip
        by_cases e15_2 : d_ = nI 2
        · subst e15_2
          refine V_tableIn (x := nI 2) (off := 53) (tgt := 68) hX dX8_toldOf_15 (by decide) (by decide) (by decide) (by decide) ?_
          refine V_aload_n hX dX8_toldOf_68 0 rfl ?_
          refine V_getr (j := 1) hX fX8_10 rfl rfl dX8_toldOf_69 ?_
          refine V_getr (j := 4) hX fX8_100 rfl rfl dX8_toldOf_72 ?_
          refine V_iload_n hX dX8_toldOf_75 1 rfl ?_
          refine V_ialdN (x := nI (P 3 j_)) hX rfl (by omega) (by decide) (hP.2 2 (by decide) _ (by omega)) dX8_toldOf_76 ?_
          refine V_iret hX rfl dX8_toldOf_77 ?_
          rw [show toldD P (nI j_) (nI 2) = nI (P 3 j_) from (if_pos c8).trans (by rw [nI_clamp (by omega)]; rw [if_neg (by decide : ¬ nI 2 = nI 0), if_neg (by decide : ¬ nI 2 = nI 1), if_pos (rfl : nI 2 = nI 2)])] at hQ
          exact hR _ _ hQ
        · skip
          by_cases e15_3 : d_ = nI 3
          · subst e15_3
            refine V_tableIn (x := nI 3) (off := 63) (tgt := 78) hX dX8_toldOf_15 (by decide) (by decide) (by decide) (by decide) ?_
            refine V_aload_n hX dX8_toldOf_78 0 rfl ?_
            refine V_getr (j := 1) hX fX8_10 rfl rfl dX8_toldOf_79 ?_
            refine V_getr (j := 5) hX fX8_103 rfl rfl dX8_toldOf_82 ?_
            refine V_iload_n hX dX8_toldOf_85 1 rfl ?_
            refine V_ialdN (x := nI (P 4 j_)) hX rfl (by omega) (by decide) (hP.2 3 (by decide) _ (by omega)) dX8_toldOf_86 ?_
            refine V_iret hX rfl dX8_toldOf_87 ?_
            rw [show toldD P (nI j_) (nI 3) = nI (P 4 j_) from (if_pos c8).trans (by rw [nI_clamp (by omega)]; rw [if_neg (by decide : ¬ nI 3 = nI 0), if_neg (by decide : ¬ nI 3 = nI 1), if_neg (by decide : ¬ nI 3 = nI 2), if_pos (rfl : nI 3 = nI 3)])] at hQ
            exact hR _ _ hQ
          · skip
            by_cases e15_4 : d_ = nI 4
            · subst e15_4
              refine V_tableIn (x := nI 4) (off := 73) (tgt := 88) hX dX8_toldOf_15 (by decide) (by decide) (by decide) (by decide) ?_
              refine V_aload_n hX dX8_toldOf_88 0 rfl ?_
              refine V_getr (j := 1) hX fX8_10 rfl rfl dX8_toldOf_89 ?_
              refine V_iload_n hX dX8_toldOf_92 1 rfl ?_
              refine V_callV (As := [.int (nI j_)]) (st := []) hX mX8_294 rfl (kC_isUpright rfl hP (by omega) (by omega) ?_) rfl (Nat.le_of_ble_eq_true rfl) (Nat.le_of_ble_eq_true rfl) dX8_toldOf_93
              show V G 3 X 96 [(0, .ref 0), (1, .int (nI j_)), (2, .int (nI 4))] [.int (bI (pUpr P j_ = true))] μ
              refine V_if_eqB (tgt := 103) hX dX8_toldOf_96 (by decide) (fun c96 => ?_) (fun c96 => ?_)
              · refine V_iconst (v := nI 0) hX dX8_toldOf_103 (by decide) ?_
                refine V_iret hX rfl dX8_toldOf_104 ?_
                rw [show toldD P (nI j_) (nI 4) = nI 0 from (if_pos c8).trans (by rw [nI_clamp (by omega)]; rw [if_neg (by decide : ¬ nI 4 = nI 0), if_neg (by decide : ¬ nI 4 = nI 1), if_neg (by decide : ¬ nI 4 = nI 2), if_neg (by decide : ¬ nI 4 = nI 3), if_pos (rfl : nI 4 = nI 4), bI_f c96]; rfl)] at hQ
                exact hR _ _ hQ
              · refine V_iconst (v := nI 1) hX dX8_toldOf_99 (by decide) ?_
                refine V_goto (tgt := 104) hX dX8_toldOf_100 (by decide) ?_
                refine V_iret hX rfl dX8_toldOf_104 ?_
                rw [show toldD P (nI j_) (nI 4) = nI 1 from (if_pos c8).trans (by rw [nI_clamp (by omega)]; rw [if_neg (by decide : ¬ nI 4 = nI 0), if_neg (by decide : ¬ nI 4 = nI 1), if_neg (by decide : ¬ nI 4 = nI 2), if_neg (by decide : ¬ nI 4 = nI 3), if_pos (rfl : nI 4 = nI 4), bI_t c96]; rfl)] at hQ
                exact hR _ _ hQ
            · skip
              refine V_tableOut (tgt := 105) hX dX8_toldOf_15 (tbl_out 4 (by decide) (by intro k hk; match k, hk with | 0, _ => exact e15_0 | 1, _ => exact e15_1 | 2, _ => exact e15_2 | 3, _ => exact e15_3 | 4, _ => exact e15_4)) (by decide) ?_
              refine V_bipush (v := (-2)) hX dX8_toldOf_105 (by decide) ?_
              refine V_iret hX rfl dX8_toldOf_107 ?_
              rw [show toldD P (nI j_) d_ = -2 from (if_pos c8).trans (by rw [nI_clamp (by omega)]; rw [if_neg e15_0, if_neg e15_1, if_neg e15_2, if_neg e15_3, if_neg e15_4])] at hQ
              exact hR _ _ hQ
  · refine V_bipush (v := (-2)) hX dX8_toldOf_11 (by decide) ?_
    refine V_iret hX rfl dX8_toldOf_13 ?_
    rw [show toldD P h_ d_ = -2 from if_neg c8] at hQ
    exact hR _ _ hQ
set_option maxRecDepth 100000 in
set_option maxHeartbeats 4000000 in
theorem kC_told {G : VG} {d : Nat} {μ : VS} {Q : Option Value → VS → Prop} {P : PC} {L : Nat} {S κ : Nat → Nat} {I : Nat → PC} {w_ : Int32} (hRR : RC μ P L S κ I) (h4 : P 0 4 < 256) (h5 : P 0 5 < 256) (hQ : Q (some (.int (toldS P L w_))) μ) : Call G (d + 2) yX8_told cX8_told 2 (some .int) [.ref 0, .int w_] μ Q := by
  intro X hX hR
  have hP := hRR.1
  have hL := hRR.2.1
  show V G 2 X 0 [(0, .ref 0), (1, .int w_)] [] μ
  refine V_iload_n hX dX8_told_0 1 rfl ?_
  show V G 2 X 1 [(0, .ref 0), (1, .int w_)] (.int w_ :: []) μ
  by_cases e1_0 : w_ = nI 0
  · subst e1_0
    refine V_tableIn (x := nI 0) (off := 43) (tgt := 44) hX dX8_told_1 (by decide) (by decide) (by decide) (by decide) ?_
    refine V_aload_n hX dX8_told_44 0 rfl ?_
    refine V_getr (j := 31) hX fX8_30 rfl rfl dX8_told_45 ?_
    refine V_getN (x := nI L) hX fX8_128 rfl hL.1 dX8_told_48 ?_
    refine V_iret hX rfl dX8_told_51 ?_
    rw [show toldS P L (nI 0) = nI L from by unfold toldS; rw [if_pos (rfl : nI 0 = nI 0)]] at hQ
    exact hR _ _ hQ
  · skip
    by_cases e1_1 : w_ = nI 1
    · subst e1_1
      refine V_tableIn (x := nI 1) (off := 51) (tgt := 52) hX dX8_told_1 (by decide) (by decide) (by decide) (by decide) ?_
      refine V_aload_n hX dX8_told_52 0 rfl ?_
      refine V_getr (j := 1) hX fX8_10 rfl rfl dX8_told_53 ?_
      refine V_getN (x := nI (P 0 0)) hX fX8_77 rfl (hP.1 0 (by decide)) dX8_told_56 ?_
      refine V_iret hX rfl dX8_told_59 ?_
      rw [show toldS P L (nI 1) = nI (P 0 0) from by unfold toldS; rw [if_neg (by decide : ¬ nI 1 = nI 0), if_pos (rfl : nI 1 = nI 1)]] at hQ
      exact hR _ _ hQ
    · skip
      by_cases e1_2 : w_ = nI 2
      · subst e1_2
        refine V_tableIn (x := nI 2) (off := 59) (tgt := 60) hX dX8_told_1 (by decide) (by decide) (by decide) (by decide) ?_
        refine V_aload_n hX dX8_told_60 0 rfl ?_
        refine V_getr (j := 1) hX fX8_10 rfl rfl dX8_told_61 ?_
        refine V_getN (x := nI (P 0 4)) hX fX8_106 rfl (hP.1 4 (by decide)) dX8_told_64 ?_
        refine V_iret hX rfl dX8_told_67 ?_
        rw [show toldS P L (nI 2) = nI (P 0 4) from by unfold toldS; rw [if_neg (by decide : ¬ nI 2 = nI 0), if_neg (by decide : ¬ nI 2 = nI 1), if_pos (rfl : nI 2 = nI 2)]] at hQ
        exact hR _ _ hQ
      · skip
        by_cases e1_3 : w_ = nI 3
        · subst e1_3
          refine V_tableIn (x := nI 3) (off := 67) (tgt := 68) hX dX8_told_1 (by decide) (by decide) (by decide) (by decide) ?_
          refine V_aload_n hX dX8_told_68 0 rfl ?_
          refine V_getr (j := 1) hX fX8_10 rfl rfl dX8_told_69 ?_
          refine V_getN (x := nI (P 0 1)) hX fX8_275 rfl (hP.1 1 (by decide)) dX8_told_72 ?_
          refine V_iret hX rfl dX8_told_75 ?_
          rw [show toldS P L (nI 3) = nI (P 0 1) from by unfold toldS; rw [if_neg (by decide : ¬ nI 3 = nI 0), if_neg (by decide : ¬ nI 3 = nI 1), if_neg (by decide : ¬ nI 3 = nI 2), if_pos (rfl : nI 3 = nI 3)]] at hQ
          exact hR _ _ hQ
        · skip
          by_cases e1_4 : w_ = nI 4
          · subst e1_4
            refine V_tableIn (x := nI 4) (off := 75) (tgt := 76) hX dX8_told_1 (by decide) (by decide) (by decide) (by decide) ?_
            refine V_aload_n hX dX8_told_76 0 rfl ?_
            refine V_getr (j := 1) hX fX8_10 rfl rfl dX8_told_77 ?_
            refine V_getN (x := nI (P 0 2)) hX fX8_278 rfl (hP.1 2 (by decide)) dX8_told_80 ?_
            refine V_iret hX rfl dX8_told_83 ?_
            rw [show toldS P L (nI 4) = nI (P 0 2) from by unfold toldS; rw [if_neg (by decide : ¬ nI 4 = nI 0), if_neg (by decide : ¬ nI 4 = nI 1), if_neg (by decide : ¬ nI 4 = nI 2), if_neg (by decide : ¬ nI 4 = nI 3), if_pos (rfl : nI 4 = nI 4)]] at hQ
            exact hR _ _ hQ
          · skip
            by_cases e1_5 : w_ = nI 5
            · subst e1_5
              refine V_tableIn (x := nI 5) (off := 83) (tgt := 84) hX dX8_told_1 (by decide) (by decide) (by decide) (by decide) ?_
              refine V_aload_n hX dX8_told_84 0 rfl ?_
              refine V_getr (j := 1) hX fX8_10 rfl rfl dX8_told_85 ?_
              refine V_getN (x := nI (P 0 3)) hX fX8_281 rfl (hP.1 3 (by decide)) dX8_told_88 ?_
              refine V_iret hX rfl dX8_told_91 ?_
              rw [show toldS P L (nI 5) = nI (P 0 3) from by unfold toldS; rw [if_neg (by decide : ¬ nI 5 = nI 0), if_neg (by decide : ¬ nI 5 = nI 1), if_neg (by decide : ¬ nI 5 = nI 2), if_neg (by decide : ¬ nI 5 = nI 3), if_neg (by decide : ¬ nI 5 = nI 4), if_pos (rfl : nI 5 = nI 5)]] at hQ
              exact hR _ _ hQ
            · skip
              by_cases e1_6 : w_ = nI 6
              · subst e1_6
                refine V_tableIn (x := nI 6) (off := 91) (tgt := 92) hX dX8_told_1 (by decide) (by decide) (by decide) (by decide) ?_
                refine V_aload_n hX dX8_told_92 0 rfl ?_
                refine V_getr (j := 1) hX fX8_10 rfl rfl dX8_told_93 ?_
                refine V_getN (x := nI (P 0 6)) hX fX8_200 rfl (hP.1 6 (by decide)) dX8_told_96 ?_
                refine V_iret hX rfl dX8_told_99 ?_
                rw [show toldS P L (nI 6) = nI (P 0 6) from by unfold toldS; rw [if_neg (by decide : ¬ nI 6 = nI 0), if_neg (by decide : ¬ nI 6 = nI 1), if_neg (by decide : ¬ nI 6 = nI 2), if_neg (by decide : ¬ nI 6 = nI 3), if_neg (by decide : ¬ nI 6 = nI 4), if_neg (by decide : ¬ nI 6 = nI 5), if_pos (rfl : nI 6 = nI 6)]] at hQ
                exact hR _ _ hQ
              · skip
                refine V_tableOut (tgt := 100) hX dX8_told_1 (tbl_out 6 (by decide) (by intro k hk; match k, hk with | 0, _ => exact e1_0 | 1, _ => exact e1_1 | 2, _ => exact e1_2 | 3, _ => exact e1_3 | 4, _ => exact e1_4 | 5, _ => exact e1_5 | 6, _ => exact e1_6)) (by decide) ?_
                refine V_iload_n hX dX8_told_100 1 rfl ?_
                refine V_bipush (v := nI 10) hX dX8_told_101 (by decide) ?_
                refine V_icmp_ge (tgt := 111) hX dX8_told_103 (by decide) (fun c103 => ?_) (fun c103 => ?_)
                · refine V_aload_n hX dX8_told_111 0 rfl ?_
                  refine V_iload_n hX dX8_told_112 1 rfl ?_
                  refine V_bipush (v := nI 10) hX dX8_told_113 (by decide) ?_
                  refine V_idiv hX dX8_told_115 (by decide) ?_
                  refine V_iconst (v := nI 1) hX dX8_told_116 (by decide) ?_
                  refine V_isub hX dX8_told_117 ?_
                  refine V_iload_n hX dX8_told_118 1 rfl ?_
                  refine V_bipush (v := nI 10) hX dX8_told_119 (by decide) ?_
                  refine V_irem hX dX8_told_121 (by decide) ?_
                  refine V_callV (As := [.int ((w_ / (nI 10)) - (nI 1)), .int (w_ - w_ / (nI 10) * (nI 10))]) (st := []) hX mX8_284 rfl (kC_toldOf hP (by omega) (by omega) ?_) rfl (Nat.le_of_ble_eq_true rfl) (Nat.le_of_ble_eq_true rfl) dX8_told_122
                  show V G 2 X 125 [(0, .ref 0), (1, .int w_)] [.int (toldD P ((w_ / (nI 10)) - (nI 1)) (w_ - w_ / (nI 10) * (nI 10)))] μ
                  refine V_iret hX rfl dX8_told_125 ?_
                  rw [toldS_hi c103] at hQ
                  exact hR _ _ hQ
                · refine V_bipush (v := (-2)) hX dX8_told_106 (by decide) ?_
                  refine V_goto (tgt := 125) hX dX8_told_108 (by decide) ?_
                  refine V_iret hX rfl dX8_told_125 ?_
                  rw [toldS_lo e1_0 e1_1 e1_2 e1_3 e1_4 e1_5 e1_6 c103] at hQ
                  exact hR _ _ hQ
set_option maxRecDepth 100000 in
set_option maxHeartbeats 4000000 in
theorem kM_told {G : VG} {d : Nat} {μ : VS} {Q : Option Value → VS → Prop} {P : PC} {L : Nat} {S κ : Nat → Nat} {I : Nat → PC} {w_ : Int32} (hRR : RM μ P L S κ I) (h4 : P 0 4 < 256) (h5 : P 0 5 < 256) (hQ : Q (some (.int (toldS P L w_))) μ) : Call G (d + 2) yX9_told cX9_told 3 (some .int) [.ref 69, .int w_] μ Q := by
  intro X hX hR
  have hM := hRR.1
  have hL := hRR.2.1
  show V G 3 X 0 [(0, .ref 69), (1, .int w_)] [] μ
  refine V_iload_n hX dX9_told_0 1 rfl ?_
  refine V_bipush (v := nI 10) hX dX9_told_1 (by decide) ?_
  refine V_icmp_lt (tgt := 110) hX dX9_told_3 (by decide) (fun c3 => ?_) (fun c3 => ?_)
  · refine V_iload_n hX dX9_told_110 1 rfl ?_
    show V G 3 X 111 [(0, .ref 69), (1, .int w_)] (.int w_ :: []) μ
    by_cases e111_0 : w_ = nI 0
    · subst e111_0
      refine V_tableIn (x := nI 0) (off := 37) (tgt := 148) hX dX9_told_111 (by decide) (by decide) (by decide) (by decide) ?_
      refine V_aload_n hX dX9_told_148 0 rfl ?_
      refine V_getN (x := nI L) hX fX9_103 rfl hL.1 dX9_told_149 ?_
      refine V_iret hX rfl dX9_told_152 ?_
      rw [show toldS P L (nI 0) = nI L from by unfold toldS; rw [if_pos (rfl : nI 0 = nI 0)]] at hQ
      exact hR _ _ hQ
    · skip
      by_cases e111_1 : w_ = nI 1
      · subst e111_1
        refine V_tableIn (x := nI 1) (off := 42) (tgt := 153) hX dX9_told_111 (by decide) (by decide) (by decide) (by decide) ?_
        refine V_aload_n hX dX9_told_153 0 rfl ?_
        refine V_getN (x := nI (P 0 0)) hX fX9_7 rfl (hM.1 0 (by decide)) dX9_told_154 ?_
        refine V_iret hX rfl dX9_told_157 ?_
        rw [show toldS P L (nI 1) = nI (P 0 0) from by unfold toldS; rw [if_neg (by decide : ¬ nI 1 = nI 0), if_pos (rfl : nI 1 = nI 1)]] at hQ
        exact hR _ _ hQ
      · skip
        by_cases e111_2 : w_ = nI 2
        · subst e111_2
          refine V_tableIn (x := nI 2) (off := 47) (tgt := 158) hX dX9_told_111 (by decide) (by decide) (by decide) (by decide) ?_
          refine V_aload_n hX dX9_told_158 0 rfl ?_
          refine V_getN (x := nI (P 0 4)) hX fX9_72 rfl (hM.1 4 (by decide)) dX9_told_159 ?_
          refine V_iret hX rfl dX9_told_162 ?_
          rw [show toldS P L (nI 2) = nI (P 0 4) from by unfold toldS; rw [if_neg (by decide : ¬ nI 2 = nI 0), if_neg (by decide : ¬ nI 2 = nI 1), if_pos (rfl : nI 2 = nI 2)]] at hQ
          exact hR _ _ hQ
        · skip
          by_cases e111_3 : w_ = nI 3
          · subst e111_3
            refine V_tableIn (x := nI 3) (off := 52) (tgt := 163) hX dX9_told_111 (by decide) (by decide) (by decide) (by decide) ?_
            refine V_aload_n hX dX9_told_163 0 rfl ?_
            refine V_getN (x := nI (P 0 1)) hX fX9_26 rfl (hM.1 1 (by decide)) dX9_told_164 ?_
            refine V_iret hX rfl dX9_told_167 ?_
            rw [show toldS P L (nI 3) = nI (P 0 1) from by unfold toldS; rw [if_neg (by decide : ¬ nI 3 = nI 0), if_neg (by decide : ¬ nI 3 = nI 1), if_neg (by decide : ¬ nI 3 = nI 2), if_pos (rfl : nI 3 = nI 3)]] at hQ
            exact hR _ _ hQ
          · skip
            by_cases e111_4 : w_ = nI 4
            · subst e111_4
              refine V_tableIn (x := nI 4) (off := 57) (tgt := 168) hX dX9_told_111 (by decide) (by decide) (by decide) (by decide) ?_
              refine V_aload_n hX dX9_told_168 0 rfl ?_
              refine V_getN (x := nI (P 0 2)) hX fX9_29 rfl (hM.1 2 (by decide)) dX9_told_169 ?_
              refine V_iret hX rfl dX9_told_172 ?_
              rw [show toldS P L (nI 4) = nI (P 0 2) from by unfold toldS; rw [if_neg (by decide : ¬ nI 4 = nI 0), if_neg (by decide : ¬ nI 4 = nI 1), if_neg (by decide : ¬ nI 4 = nI 2), if_neg (by decide : ¬ nI 4 = nI 3), if_pos (rfl : nI 4 = nI 4)]] at hQ
              exact hR _ _ hQ
            · skip
              by_cases e111_5 : w_ = nI 5
              · subst e111_5
                refine V_tableIn (x := nI 5) (off := 62) (tgt := 173) hX dX9_told_111 (by decide) (by decide) (by decide) (by decide) ?_
                refine V_aload_n hX dX9_told_173 0 rfl ?_
                refine V_getN (x := nI (P 0 3)) hX fX9_89 rfl (hM.1 3 (by decide)) dX9_told_174 ?_
                refine V_iret hX rfl dX9_told_177 ?_
                rw [show toldS P L (nI 5) = nI (P 0 3) from by unfold toldS; rw [if_neg (by decide : ¬ nI 5 = nI 0), if_neg (by decide : ¬ nI 5 = nI 1), if_neg (by decide : ¬ nI 5 = nI 2), if_neg (by decide : ¬ nI 5 = nI 3), if_neg (by decide : ¬ nI 5 = nI 4), if_pos (rfl : nI 5 = nI 5)]] at hQ
                exact hR _ _ hQ
              · skip
                refine V_tableOut (tgt := 178) hX dX9_told_111 (tbl_out 5 (by decide) (by intro k hk; match k, hk with | 0, _ => exact e111_0 | 1, _ => exact e111_1 | 2, _ => exact e111_2 | 3, _ => exact e111_3 | 4, _ => exact e111_4 | 5, _ => exact e111_5)) (by decide) ?_
                refine V_iload_n hX dX9_told_178 1 rfl ?_
                refine V_bipush (v := nI 6) hX dX9_told_179 (by decide) ?_
                refine V_icmp_ne (tgt := 191) hX dX9_told_181 (by decide) (fun c181 => ?_) (fun c181 => ?_)
                · refine V_bipush (v := (-2)) hX dX9_told_191 (by decide) ?_
                  refine V_iret hX rfl dX9_told_193 ?_
                  rw [toldS_lo e111_0 e111_1 e111_2 e111_3 e111_4 e111_5 c181 (Int32.not_le.mpr c3)] at hQ
                  exact hR _ _ hQ
                · refine V_aload_n hX dX9_told_184 0 rfl ?_
                  refine V_getN (x := nI (P 0 6)) hX fX9_86 rfl (hM.1 6 (by decide)) dX9_told_185 ?_
                  refine V_goto (tgt := 193) hX dX9_told_188 (by decide) ?_
                  refine V_iret hX rfl dX9_told_193 ?_
                  rw [show toldS P L w_ = nI (P 0 6) from by unfold toldS; rw [if_neg e111_0, if_neg e111_1, if_neg e111_2, if_neg e111_3, if_neg e111_4, if_neg e111_5, if_pos c181]] at hQ
                  exact hR _ _ hQ
  · refine V_iload_n hX dX9_told_6 1 rfl ?_
    refine V_bipush (v := nI 10) hX dX9_told_7 (by decide) ?_
    refine V_idiv hX dX9_told_9 (by decide) ?_
    refine V_iconst (v := nI 1) hX dX9_told_10 (by decide) ?_
    refine V_isub hX dX9_told_11 ?_
    refine V_istore_n (ls' := [(0, .ref 69), (1, .int w_), (2, .int ((w_ / (nI 10)) - (nI 1)))]) hX dX9_told_12 (by decide) rfl ?_
    refine V_aload_n hX dX9_told_13 0 rfl ?_
    refine V_iload_n hX dX9_told_14 2 rfl ?_
    refine V_callV (As := [.int ((w_ / (nI 10)) - (nI 1))]) (st := []) hX mX9_99 rfl (kM_isThere hM (by omega) ?_) rfl (Nat.le_of_ble_eq_true rfl) (Nat.le_of_ble_eq_true rfl) dX9_told_15
    show V G 3 X 18 [(0, .ref 69), (1, .int w_), (2, .int ((w_ / (nI 10)) - (nI 1)))] [.int (bI (thr P ((w_ / (nI 10)) - (nI 1))))] μ
    refine V_if_neB (tgt := 24) hX dX9_told_18 (by decide) (fun c18 => ?_) (fun c18 => ?_)
    · obtain ⟨j_, hj7, ej_, hpj⟩ := thr_nat c18
      rw [ej_]
      refine V_iload_n hX dX9_told_24 1 rfl ?_
      refine V_bipush (v := nI 10) hX dX9_told_25 (by decide) ?_
      refine V_irem hX dX9_told_27 (by decide) ?_
      show V G 3 X 28 [(0, .ref 69), (1, .int w_), (2, .int (nI j_))] (.int (w_ - w_ / (nI 10) * (nI 10)) :: []) μ
      by_cases e28_0 : w_ - w_ / (nI 10) * (nI 10) = nI 0
      · rw [e28_0]
        refine V_tableIn (x := nI 0) (off := 32) (tgt := 60) hX dX9_told_28 (by decide) (by decide) (by decide) (by decide) ?_
        refine V_aload_n hX dX9_told_60 0 rfl ?_
        refine V_getr (j := 70) hX fX9_13 rfl rfl dX9_told_61 ?_
        refine V_iload_n hX dX9_told_64 2 rfl ?_
        refine V_ialdN (x := nI (P 1 j_)) hX rfl (by first | omega | exact and1_lt _ _) (by decide) (hM.2.1 0 (by decide) _ (by omega)) dX9_told_65 ?_
        refine V_iret hX rfl dX9_told_66 ?_
        rw [toldS_hi (Int32.not_lt.mp c3), if_pos c18, ej_, nI_clamp (by omega), e28_0, if_pos (rfl : nI 0 = nI 0)] at hQ
        exact hR _ _ hQ
      · skip
        by_cases e28_1 : w_ - w_ / (nI 10) * (nI 10) = nI 1
        · rw [e28_1]
          refine V_tableIn (x := nI 1) (off := 39) (tgt := 67) hX dX9_told_28 (by decide) (by decide) (by decide) (by decide) ?_
          refine V_aload_n hX dX9_told_67 0 rfl ?_
          refine V_getr (j := 71) hX fX9_17 rfl rfl dX9_told_68 ?_
          refine V_iload_n hX dX9_told_71 2 rfl ?_
          refine V_ialdN (x := nI (P 2 j_)) hX rfl (by first | omega | exact and1_lt _ _) (by decide) (hM.2.1 1 (by decide) _ (by omega)) dX9_told_72 ?_
          refine V_iret hX rfl dX9_told_73 ?_
          rw [toldS_hi (Int32.not_lt.mp c3), if_pos c18, ej_, nI_clamp (by omega), e28_1, if_neg (by decide : ¬ nI 1 = nI 0), if_pos (rfl : nI 1 = nI 1)] at hQ
          exact hR _ _ hQ
        · skip
          by_cases e28_2 : w_ - w_ / (nI 10) * (nI 10) = nI 2
          · rw [e28_2]
            refine V_tableIn (x := nI 2) (off := 46) (tgt := 74) hX dX9_told_28 (by decide) (by decide) (by decide) (by decide) ?_
            refine V_aload_n hX dX9_told_74 0 rfl ?_
            refine V_getr (j := 72) hX fX9_20 rfl rfl dX9_told_75 ?_
            refine V_iload_n hX dX9_told_78 2 rfl ?_
            refine V_ialdN (x := nI (P 3 j_)) hX rfl (by first | omega | exact and1_lt _ _) (by decide) (hM.2.1 2 (by decide) _ (by omega)) dX9_told_79 ?_
            refine V_iret hX rfl dX9_told_80 ?_
            rw [toldS_hi (Int32.not_lt.mp c3), if_pos c18, ej_, nI_clamp (by omega), e28_2, if_neg (by decide : ¬ nI 2 = nI 0), if_neg (by decide : ¬ nI 2 = nI 1), if_pos (rfl : nI 2 = nI 2)] at hQ
            exact hR _ _ hQ
          · skip
            by_cases e28_3 : w_ - w_ / (nI 10) * (nI 10) = nI 3
            · rw [e28_3]
              refine V_tableIn (x := nI 3) (off := 53) (tgt := 81) hX dX9_told_28 (by decide) (by decide) (by decide) (by decide) ?_
              refine V_aload_n hX dX9_told_81 0 rfl ?_
              refine V_getr (j := 73) hX fX9_23 rfl rfl dX9_told_82 ?_
              refine V_iload_n hX dX9_told_85 2 rfl ?_
              refine V_ialdN (x := nI (P 4 j_)) hX rfl (by first | omega | exact and1_lt _ _) (by decide) (hM.2.1 3 (by decide) _ (by omega)) dX9_told_86 ?_
              refine V_iret hX rfl dX9_told_87 ?_
              rw [toldS_hi (Int32.not_lt.mp c3), if_pos c18, ej_, nI_clamp (by omega), e28_3, if_neg (by decide : ¬ nI 3 = nI 0), if_neg (by decide : ¬ nI 3 = nI 1), if_neg (by decide : ¬ nI 3 = nI 2), if_pos (rfl : nI 3 = nI 3)] at hQ
              exact hR _ _ hQ
            · skip
              refine V_tableOut (tgt := 88) hX dX9_told_28 (tbl_out 3 (by decide) (by intro k hk; match k, hk with | 0, _ => exact e28_0 | 1, _ => exact e28_1 | 2, _ => exact e28_2 | 3, _ => exact e28_3)) (by decide) ?_
              refine V_iload_n hX dX9_told_88 1 rfl ?_
              refine V_bipush (v := nI 10) hX dX9_told_89 (by decide) ?_
              refine V_irem hX dX9_told_91 (by decide) ?_
              refine V_iconst (v := nI 4) hX dX9_told_92 (by decide) ?_
              refine V_icmp_ne (tgt := 107) hX dX9_told_93 (by decide) (fun c93 => ?_) (fun c93 => ?_)
              · refine V_bipush (v := (-2)) hX dX9_told_107 (by decide) ?_
                refine V_iret hX rfl dX9_told_109 ?_
                rw [toldS_hi (Int32.not_lt.mp c3), if_pos c18, ej_, nI_clamp (by omega), if_neg e28_0, if_neg e28_1, if_neg e28_2, if_neg e28_3, if_neg c93] at hQ
                exact hR _ _ hQ
              · refine V_aload_n hX dX9_told_96 0 rfl ?_
                refine V_getN (x := nI (P 0 5)) hX fX9_83 rfl (hM.1 5 (by decide)) dX9_told_97 ?_
                refine V_iload_n hX dX9_told_100 2 rfl ?_
                refine V_ishrN hX dX9_told_101 (by first | omega | exact and1_lt _ _) (by first | omega | exact and1_lt _ _) ?_
                refine V_iconst (v := nI 1) hX dX9_told_102 (by decide) ?_
                refine V_iandN hX dX9_told_103 ?_
                refine V_goto (tgt := 109) hX dX9_told_104 (by decide) ?_
                refine V_iret hX rfl dX9_told_109 ?_
                rw [toldS_hi (Int32.not_lt.mp c3), if_pos c18, ej_, nI_clamp (by omega), if_neg e28_0, if_neg e28_1, if_neg e28_2, if_neg e28_3, if_pos c93] at hQ
                exact hR _ _ (by rw [shr_bI]; exact hQ)
    · refine V_bipush (v := (-2)) hX dX9_told_21 (by decide) ?_
      refine V_iret hX rfl dX9_told_23 ?_
      rw [toldS_hi (Int32.not_lt.mp c3), if_neg c18] at hQ
      exact hR _ _ hQ
