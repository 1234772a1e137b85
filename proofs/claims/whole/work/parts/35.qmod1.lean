theorem flt_ge {S : Nat → Nat} {L : Nat} (hL : L ≤ 60) (h : ¬ fltU S L < 0) : ¬ fltU S L = -6 := fun e => h (by rw [e]; decide)
set_option maxRecDepth 100000 in
set_option maxHeartbeats 4000000 in
theorem kM_gainOf {G : VG} {d : Nat} {μ : VS} {Q : Option Value → VS → Prop} {M_ cm_ : Nat} {E : PC} {sg_ : Nat → Nat} {cb_ : Nat → Bool} (hlen : μ.1 69 15 = nI M_) (hE0 : isE μ E) (hok : okP E) (hcm : μ.1 69 19 = nI cm_) (hM61 : M_ ≤ 61) (hser : ∀ i, i < M_ → μ.1 76 i = nI (sg_ i)) (hsg : ∀ i, i < M_ → sg_ i < 1000) (hcb : ∀ i, i < M_ → cbOK cm_ i (cb_ i)) (hQ : ∀ μ', prR E sg_ cb_ μ μ' M_ → Q (some (.int (nI ((mwR E sg_ cb_ (mw0 E) M_).2.2.2 10) - nI ((mwR E sg_ cb_ (mw0 E) M_).2.2.2 9)))) μ') : Call G (d + 5) yX9_gainOf cX9_gainOf 1 (some .int) [.ref 69] μ Q := by
  intro X hX hR
  show V G 1 X 0 [(0, .ref 69)] [] μ
  refine V_aload_n hX dX9_gainOf_0 0 rfl ?_
  refine V_aload_n hX dX9_gainOf_1 0 rfl ?_
  refine V_getN (x := nI M_) hX fX9_113 rfl hlen dX9_gainOf_2 ?_
  refine V_callV (As := [.int (nI M_)]) (st := []) hX mX9_163 rfl (kM_preach (sg_ := sg_) (cb_ := cb_) (cm_ := cm_) hE0 hok hcm hM61 hser hsg hcb (fun μ2 hp => ?_)) rfl (Nat.le_of_ble_eq_true rfl) (Nat.le_of_ble_eq_true rfl) dX9_gainOf_5
  show V G 1 X 8 [(0, .ref 69)] [] μ2
  refine V_aload_n hX dX9_gainOf_8 0 rfl ?_
  refine V_getN (x := nI ((mwR E sg_ cb_ (mw0 E) M_).2.2.2 10)) hX fX9_150 rfl hp.2.2.2.1.2.2.2.1 dX9_gainOf_9 ?_
  refine V_aload_n hX dX9_gainOf_12 0 rfl ?_
  refine V_getN (x := nI ((mwR E sg_ cb_ (mw0 E) M_).2.2.2 9)) hX fX9_147 rfl hp.2.2.2.1.2.2.1 dX9_gainOf_13 ?_
  refine V_isub hX dX9_gainOf_16 ?_
  refine V_iret hX rfl dX9_gainOf_17 ?_
  exact hR _ _ (hQ μ2 hp)
set_option maxRecDepth 100000 in
set_option maxHeartbeats 4000000 in
theorem kM_gain {G : VG} {d : Nat} {μ : VS} {Q : Option Value → VS → Prop} {P : PC} {L : Nat} {S κ : Nat → Nat} {I : Nat → PC} (hRM : RM μ P L S κ I) (hok : okP P) (hpd : okPad L S) (hQ : ∀ μ', RM μ' P L S κ I → keepC μ μ' → Q (some (.int (gainS P L S))) μ') : Call G (d + 6) yX9_gain cX9_gain 1 (some .int) [.ref 69] μ Q := by
  intro X hX hR
  have hM := hRM.1
  have hL := hRM.2.1
  have hS := hpd.2
  have hL60 := hpd.1
  have hP4 := hok.2.2.2.2.1
  have h4 := hP4
  show V G 1 X 0 [(0, .ref 69)] [] μ
  refine V_aload_n hX dX9_gain_0 0 rfl ?_
  refine V_callV (As := []) (st := []) hX mX9_109 rfl (kM_faultOf hL hS hL60 ?_) rfl (Nat.le_of_ble_eq_true rfl) (Nat.le_of_ble_eq_true rfl) dX9_gain_1
  show V G 1 X 4 [(0, .ref 69)] [.int (fltU S L)] μ
  refine V_if_lt (tgt := 10) hX dX9_gain_4 (by decide) (fun c4 => ?_) (fun c4 => ?_)
  · refine V_aload_n hX dX9_gain_10 0 rfl ?_
    refine V_callV (As := []) (st := []) hX mX9_160 rfl (kM_lay hM hL hL60 (fun μ1 hLy hK1 => ?_)) rfl (Nat.le_of_ble_eq_true rfl) (Nat.le_of_ble_eq_true rfl) dX9_gain_11
    show V G 1 X 14 [(0, .ref 69)] [] μ1
    have hR1 := hRM.keep hK1
    refine V_aload_n hX dX9_gain_14 0 rfl ?_
    refine V_callV (As := []) (st := []) hX mX9_169 rfl (kM_gainOf (sg_ := S) (cb_ := noC) (cm_ := 0) hLy.2.1 hLy.1 hok hLy.2.2.2 (by omega) (fun i hi => hLy.2.2.1 i (by omega)) (fun i hi => by have := hS i (by omega); omega) (fun i _ => Or.inr ⟨rfl, rfl⟩) (fun μ2 hp => ?_)) rfl (Nat.le_of_ble_eq_true rfl) (Nat.le_of_ble_eq_true rfl) dX9_gain_15
    show V G 1 X 18 [(0, .ref 69)] [.int (nI ((uAt P S L).2.2.2 10) - nI ((uAt P S L).2.2.2 9))] μ2
    have hR2 := hR1.keep hp.1.keep
    have hC2 : keepC μ μ2 := (hK1.tr hp.1.keep).C
    refine V_sipush (v := nI 10000) hX dX9_gain_18 (by decide) ?_
    refine V_iadd hX dX9_gain_21 ?_
    refine V_iret hX rfl dX9_gain_22 ?_
    have h9 := hQ μ2
    rw [show gainS P L S = (nI ((uAt P S L).2.2.2 10) - nI ((uAt P S L).2.2.2 9)) + (nI 10000) from (if_pos (flt_neg L (by omega) c4)).trans (by unfold gainI; rw [zI_nat, zI_nat, zI_nat, zI_sub, zI_add]; congr 1; omega)] at h9
    exact hR _ _ (h9 hR2 hC2)
  · refine V_bipush (v := (-5)) hX dX9_gain_7 (by decide) ?_
    refine V_iret hX rfl dX9_gain_9 ?_
    have h9 := hQ μ
    rw [show gainS P L S = -5 from if_neg (flt_ge hL60 c4)] at h9
    exact hR _ _ (h9 hRM (keepC.rf μ))
set_option maxRecDepth 100000 in
set_option maxHeartbeats 4000000 in
theorem kM_isMinute {G : VG} {d : Nat} {μ : VS} {Q : Option Value → VS → Prop} {L : Nat} {S : Nat → Nat} {m_ : Int32} (hL : isPadM μ L S) (hQ : Q (some (.int (bI (-1 ≤ m_ ∧ m_ ≤ nI L - nI 1)))) μ) : Call G (d + 1) yX9_isMinute cX9_isMinute 2 (some .boolean) [.ref 69, .int m_] μ Q := by
  intro X hX hR
  show V G 2 X 0 [(0, .ref 69), (1, .int m_)] [] μ
  refine V_iload_n hX dX9_isMinute_0 1 rfl ?_
  refine V_iconst (v := (-1)) hX dX9_isMinute_1 (by decide) ?_
  refine V_aload_n hX dX9_isMinute_2 0 rfl ?_
  refine V_getN (x := nI L) hX fX9_103 rfl hL.1 dX9_isMinute_3 ?_
  refine V_iconst (v := nI 1) hX dX9_isMinute_6 (by decide) ?_
  refine V_isub hX dX9_isMinute_7 ?_
  refine V_callS (As := [.int m_, .int (-1), .int ((nI L) - (nI 1))]) (st := []) hX mX9_75 (k_in ?_) rfl (Nat.le_of_ble_eq_true rfl) (Nat.le_of_ble_eq_true rfl) dX9_isMinute_8
  show V G 2 X 11 [(0, .ref 69), (1, .int m_)] [.int (bI ((-1) ≤ m_ ∧ m_ ≤ (nI L) - (nI 1)))] μ
  refine V_zret hX rfl bI_nar dX9_isMinute_11 ?_
  exact hR _ _ hQ
theorem lo_m1 {m : Int32} (h1 : -1 ≤ m) (h2 : ¬ 0 ≤ m) : m = -1 := by
  have g1 := Int32.le_iff_toInt_le.mp h1
  have g2 : ¬ (0 : Int32).toInt ≤ m.toInt := fun z => h2 (Int32.le_iff_toInt_le.mpr z)
  have e1 : (-1 : Int32).toInt = -1 := by decide
  have e2 : (0 : Int32).toInt = 0 := by decide
  rw [e1] at g1
  rw [e2] at g2
  exact Int32.toInt_inj.mp (by rw [e1]; omega)
theorem ge0_m1 {m : Int32} (h : 0 ≤ m) : ¬ m = -1 := fun e => by rw [e] at h; exact absurd h (by decide)
set_option maxRecDepth 100000 in
set_option maxHeartbeats 4000000 in
theorem kM_sum {G : VG} {d : Nat} {μ : VS} {Q : Option Value → VS → Prop} {P : PC} {L : Nat} {S κ : Nat → Nat} {I : Nat → PC} {m_ w_ : Int32} (hRM : RM μ P L S κ I) (hok : okP P) (hpd : okPad L S) (hQ : ∀ μ', RM μ' P L S κ I → keepC μ μ' → Q (some (.int (sumS P L S m_ w_))) μ') : Call G (d + 6) yX9_sum cX9_sum 3 (some .int) [.ref 69, .int m_, .int w_] μ Q := by
  intro X hX hR
  have hM := hRM.1
  have hL := hRM.2.1
  have hS := hpd.2
  have hL60 := hpd.1
  have hP4 := hok.2.2.2.2.1
  have h4 := hP4
  show V G 3 X 0 [(0, .ref 69), (1, .int m_), (2, .int w_)] [] μ
  refine V_iload_n hX dX9_sum_0 2 rfl ?_
  refine V_iconst (v := nI 0) hX dX9_sum_1 (by decide) ?_
  refine V_iconst (v := nI 4) hX dX9_sum_2 (by decide) ?_
  refine V_callS (As := [.int w_, .int (nI 0), .int (nI 4)]) (st := []) hX mX9_75 (k_in ?_) rfl (Nat.le_of_ble_eq_true rfl) (Nat.le_of_ble_eq_true rfl) dX9_sum_3
  show V G 3 X 6 [(0, .ref 69), (1, .int m_), (2, .int w_)] [.int (bI (nI 0 ≤ w_ ∧ w_ ≤ nI 4))] μ
  refine V_if_neB (tgt := 12) hX dX9_sum_6 (by decide) (fun c6 => ?_) (fun c6 => ?_)
  · obtain ⟨b_, hb0, hb7, rfl⟩ := nat_of_in (by decide) (by decide) c6
    refine V_aload_n hX dX9_sum_12 0 rfl ?_
    refine V_callV (As := []) (st := []) hX mX9_109 rfl (kM_faultOf hL hS hL60 ?_) rfl (Nat.le_of_ble_eq_true rfl) (Nat.le_of_ble_eq_true rfl) dX9_sum_13
    show V G 3 X 16 [(0, .ref 69), (1, .int m_), (2, .int (nI b_))] [.int (fltU S L)] μ
    refine V_if_lt (tgt := 22) hX dX9_sum_16 (by decide) (fun c16 => ?_) (fun c16 => ?_)
    · refine V_aload_n hX dX9_sum_22 0 rfl ?_
      refine V_iload_n hX dX9_sum_23 1 rfl ?_
      refine V_callV (As := [.int m_]) (st := []) hX mX9_166 rfl (kM_isMinute hL ?_) rfl (Nat.le_of_ble_eq_true rfl) (Nat.le_of_ble_eq_true rfl) dX9_sum_24
      show V G 3 X 27 [(0, .ref 69), (1, .int m_), (2, .int (nI b_))] [.int (bI (-1 ≤ m_ ∧ m_ ≤ nI L - nI 1))] μ
      refine V_if_neB (tgt := 33) hX dX9_sum_27 (by decide) (fun c27 => ?_) (fun c27 => ?_)
      · refine V_aload_n hX dX9_sum_33 0 rfl ?_
        refine V_callV (As := []) (st := []) hX mX9_160 rfl (kM_lay hM hL hL60 (fun μ1 hLy hK1 => ?_)) rfl (Nat.le_of_ble_eq_true rfl) (Nat.le_of_ble_eq_true rfl) dX9_sum_34
        show V G 3 X 37 [(0, .ref 69), (1, .int m_), (2, .int (nI b_))] [] μ1
        have hR1 := hRM.keep hK1
        refine V_aload_n hX dX9_sum_37 0 rfl ?_
        refine V_iload_n hX dX9_sum_38 1 rfl ?_
        refine V_if_ge (tgt := 49) hX dX9_sum_39 (by decide) (fun c39 => ?_) (fun c39 => ?_)
        · obtain ⟨j_, hj_, rfl⟩ := inM_nat (by omega) (show inM m_ L from ⟨c39, c27.2⟩)
          refine V_iload_n hX dX9_sum_49 1 rfl ?_
          refine V_iconst (v := nI 1) hX dX9_sum_50 (by decide) ?_
          refine V_iaddN hX dX9_sum_51 ?_
          refine V_callV (As := [.int (nI (j_ + 1))]) (st := []) hX mX9_163 rfl (kM_preach (sg_ := S) (cb_ := noC) (cm_ := 0) hLy.1 hok hLy.2.2.2 (by omega) (fun i hi => hLy.2.2.1 i (by omega)) (fun i hi => by have := hS i (by omega); omega) (fun i _ => Or.inr ⟨rfl, rfl⟩) (fun μ2 hp => ?_)) rfl (Nat.le_of_ble_eq_true rfl) (Nat.le_of_ble_eq_true rfl) dX9_sum_52
          show V G 3 X 55 [(0, .ref 69), (1, .int (nI j_)), (2, .int (nI b_))] [] μ2
          have hR2 := hR1.keep hp.1.keep
          have hC2 : keepC μ μ2 := (hK1.tr hp.1.keep).C
          refine V_iload_n hX dX9_sum_55 2 rfl ?_
          refine V_if_neN (tgt := 66) hX dX9_sum_56 (by decide) (by omega) (fun c56 => ?_) (fun c56 => ?_)
          · refine V_iload_n hX dX9_sum_66 2 rfl ?_
            refine V_iconst (v := nI 1) hX dX9_sum_67 (by decide) ?_
            refine V_icmp_neN (tgt := 78) hX dX9_sum_68 (by decide) (by omega) (by omega) (fun c68 => ?_) (fun c68 => ?_)
            · refine V_iload_n hX dX9_sum_78 2 rfl ?_
              refine V_iconst (v := nI 2) hX dX9_sum_79 (by decide) ?_
              refine V_icmp_neN (tgt := 90) hX dX9_sum_80 (by decide) (by omega) (by omega) (fun c80 => ?_) (fun c80 => ?_)
              · refine V_iload_n hX dX9_sum_90 2 rfl ?_
                refine V_iconst (v := nI 3) hX dX9_sum_91 (by decide) ?_
                refine V_icmp_neN (tgt := 102) hX dX9_sum_92 (by decide) (by omega) (by omega) (fun c92 => ?_) (fun c92 => ?_)
                · refine V_aload_n hX dX9_sum_102 0 rfl ?_
                  refine V_getN (x := nI ((uAt P S (j_ + 1)).2.2.2 12)) hX fX9_153 rfl hp.2.2.2.1.2.2.2.2 dX9_sum_103 ?_
                  refine V_iret hX rfl dX9_sum_106 ?_
                  obtain rfl : b_ = 4 := by omega
                  have h9 := hQ μ2
                  rw [show sumS P L S (nI j_) (nI 4) = _ from (if_pos c6).trans ((if_pos (flt_neg L (by omega) c16)).trans ((if_neg (ge0_m1 c39)).trans (if_pos ⟨c39, c27.2⟩)))] at h9
                  rw [nI_clamp (by omega), nI_clamp (by omega)] at h9
                  exact hR _ _ (h9 hR2 hC2)
                · refine V_aload_n hX dX9_sum_95 0 rfl ?_
                  refine V_getN (x := nI ((uAt P S (j_ + 1)).2.2.2 10)) hX fX9_150 rfl hp.2.2.2.1.2.2.2.1 dX9_sum_96 ?_
                  refine V_goto (tgt := 106) hX dX9_sum_99 (by decide) ?_
                  refine V_iret hX rfl dX9_sum_106 ?_
                  obtain rfl : b_ = 3 := by omega
                  have h9 := hQ μ2
                  rw [show sumS P L S (nI j_) (nI 3) = _ from (if_pos c6).trans ((if_pos (flt_neg L (by omega) c16)).trans ((if_neg (ge0_m1 c39)).trans (if_pos ⟨c39, c27.2⟩)))] at h9
                  rw [nI_clamp (by omega), nI_clamp (by omega)] at h9
                  exact hR _ _ (h9 hR2 hC2)
              · refine V_aload_n hX dX9_sum_83 0 rfl ?_
                refine V_getN (x := nI ((uAt P S (j_ + 1)).2.2.2 9)) hX fX9_147 rfl hp.2.2.2.1.2.2.1 dX9_sum_84 ?_
                refine V_goto (tgt := 106) hX dX9_sum_87 (by decide) ?_
                refine V_iret hX rfl dX9_sum_106 ?_
                obtain rfl : b_ = 2 := by omega
                have h9 := hQ μ2
                rw [show sumS P L S (nI j_) (nI 2) = _ from (if_pos c6).trans ((if_pos (flt_neg L (by omega) c16)).trans ((if_neg (ge0_m1 c39)).trans (if_pos ⟨c39, c27.2⟩)))] at h9
                rw [nI_clamp (by omega), nI_clamp (by omega)] at h9
                exact hR _ _ (h9 hR2 hC2)
            · refine V_aload_n hX dX9_sum_71 0 rfl ?_
              refine V_getN (x := nI ((uAt P S (j_ + 1)).2.2.2 8)) hX fX9_144 rfl hp.2.2.2.1.2.1 dX9_sum_72 ?_
              refine V_goto (tgt := 106) hX dX9_sum_75 (by decide) ?_
              refine V_iret hX rfl dX9_sum_106 ?_
              obtain rfl : b_ = 1 := by omega
              have h9 := hQ μ2
              rw [show sumS P L S (nI j_) (nI 1) = _ from (if_pos c6).trans ((if_pos (flt_neg L (by omega) c16)).trans ((if_neg (ge0_m1 c39)).trans (if_pos ⟨c39, c27.2⟩)))] at h9
              rw [nI_clamp (by omega), nI_clamp (by omega)] at h9
              exact hR _ _ (h9 hR2 hC2)
          · refine V_aload_n hX dX9_sum_59 0 rfl ?_
            refine V_getN (x := nI ((uAt P S (j_ + 1)).2.2.2 7)) hX fX9_141 rfl hp.2.2.2.1.1 dX9_sum_60 ?_
            refine V_goto (tgt := 106) hX dX9_sum_63 (by decide) ?_
            refine V_iret hX rfl dX9_sum_106 ?_
            obtain rfl : b_ = 0 := by omega
            have h9 := hQ μ2
            rw [show sumS P L S (nI j_) (nI 0) = _ from (if_pos c6).trans ((if_pos (flt_neg L (by omega) c16)).trans ((if_neg (ge0_m1 c39)).trans (if_pos ⟨c39, c27.2⟩)))] at h9
            rw [nI_clamp (by omega), nI_clamp (by omega)] at h9
            exact hR _ _ (h9 hR2 hC2)
        · refine V_aload_n hX dX9_sum_42 0 rfl ?_
          refine V_getN (x := nI L) hX fX9_103 rfl hR1.2.1.1 dX9_sum_43 ?_
          refine V_goto (tgt := 52) hX dX9_sum_46 (by decide) ?_
          refine V_callV (As := [.int (nI L)]) (st := []) hX mX9_163 rfl (kM_preach (sg_ := S) (cb_ := noC) (cm_ := 0) hLy.1 hok hLy.2.2.2 (by omega) (fun i hi => hLy.2.2.1 i (by omega)) (fun i hi => by have := hS i (by omega); omega) (fun i _ => Or.inr ⟨rfl, rfl⟩) (fun μ2 hp => ?_)) rfl (Nat.le_of_ble_eq_true rfl) (Nat.le_of_ble_eq_true rfl) dX9_sum_52
          show V G 3 X 55 [(0, .ref 69), (1, .int m_), (2, .int (nI b_))] [] μ2
          have hR2 := hR1.keep hp.1.keep
          have hC2 : keepC μ μ2 := (hK1.tr hp.1.keep).C
          refine V_iload_n hX dX9_sum_55 2 rfl ?_
          refine V_if_neN (tgt := 66) hX dX9_sum_56 (by decide) (by omega) (fun c56 => ?_) (fun c56 => ?_)
          · refine V_iload_n hX dX9_sum_66 2 rfl ?_
            refine V_iconst (v := nI 1) hX dX9_sum_67 (by decide) ?_
            refine V_icmp_neN (tgt := 78) hX dX9_sum_68 (by decide) (by omega) (by omega) (fun c68 => ?_) (fun c68 => ?_)
            · refine V_iload_n hX dX9_sum_78 2 rfl ?_
              refine V_iconst (v := nI 2) hX dX9_sum_79 (by decide) ?_
              refine V_icmp_neN (tgt := 90) hX dX9_sum_80 (by decide) (by omega) (by omega) (fun c80 => ?_) (fun c80 => ?_)
              · refine V_iload_n hX dX9_sum_90 2 rfl ?_
                refine V_iconst (v := nI 3) hX dX9_sum_91 (by decide) ?_
                refine V_icmp_neN (tgt := 102) hX dX9_sum_92 (by decide) (by omega) (by omega) (fun c92 => ?_) (fun c92 => ?_)
                · refine V_aload_n hX dX9_sum_102 0 rfl ?_
                  refine V_getN (x := nI ((uAt P S L).2.2.2 12)) hX fX9_153 rfl hp.2.2.2.1.2.2.2.2 dX9_sum_103 ?_
                  refine V_iret hX rfl dX9_sum_106 ?_
                  obtain rfl : b_ = 4 := by omega
                  have h9 := hQ μ2
                  rw [show sumS P L S m_ (nI 4) = _ from (if_pos c6).trans ((if_pos (flt_neg L (by omega) c16)).trans (if_pos (lo_m1 c27.1 c39)))] at h9
                  rw [nI_clamp (by omega)] at h9
                  exact hR _ _ (h9 hR2 hC2)
                · refine V_aload_n hX dX9_sum_95 0 rfl ?_
                  refine V_getN (x := nI ((uAt P S L).2.2.2 10)) hX fX9_150 rfl hp.2.2.2.1.2.2.2.1 dX9_sum_96 ?_
                  refine V_goto (tgt := 106) hX dX9_sum_99 (by decide) ?_
                  refine V_iret hX rfl dX9_sum_106 ?_
                  obtain rfl : b_ = 3 := by omega
                  have h9 := hQ μ2
                  rw [show sumS P L S m_ (nI 3) = _ from (if_pos c6).trans ((if_pos (flt_neg L (by omega) c16)).trans (if_pos (lo_m1 c27.1 c39)))] at h9
                  rw [nI_clamp (by omega)] at h9
                  exact hR _ _ (h9 hR2 hC2)
              · refine V_aload_n hX dX9_sum_83 0 rfl ?_
                refine V_getN (x := nI ((uAt P S L).2.2.2 9)) hX fX9_147 rfl hp.2.2.2.1.2.2.1 dX9_sum_84 ?_
                refine V_goto (tgt := 106) hX dX9_sum_87 (by decide) ?_
                refine V_iret hX rfl dX9_sum_106 ?_
                obtain rfl : b_ = 2 := by omega
                have h9 := hQ μ2
                rw [show sumS P L S m_ (nI 2) = _ from (if_pos c6).trans ((if_pos (flt_neg L (by omega) c16)).trans (if_pos (lo_m1 c27.1 c39)))] at h9
                rw [nI_clamp (by omega)] at h9
                exact hR _ _ (h9 hR2 hC2)
            · refine V_aload_n hX dX9_sum_71 0 rfl ?_
              refine V_getN (x := nI ((uAt P S L).2.2.2 8)) hX fX9_144 rfl hp.2.2.2.1.2.1 dX9_sum_72 ?_
              refine V_goto (tgt := 106) hX dX9_sum_75 (by decide) ?_
              refine V_iret hX rfl dX9_sum_106 ?_
              obtain rfl : b_ = 1 := by omega
              have h9 := hQ μ2
              rw [show sumS P L S m_ (nI 1) = _ from (if_pos c6).trans ((if_pos (flt_neg L (by omega) c16)).trans (if_pos (lo_m1 c27.1 c39)))] at h9
              rw [nI_clamp (by omega)] at h9
              exact hR _ _ (h9 hR2 hC2)
          · refine V_aload_n hX dX9_sum_59 0 rfl ?_
            refine V_getN (x := nI ((uAt P S L).2.2.2 7)) hX fX9_141 rfl hp.2.2.2.1.1 dX9_sum_60 ?_
            refine V_goto (tgt := 106) hX dX9_sum_63 (by decide) ?_
            refine V_iret hX rfl dX9_sum_106 ?_
            obtain rfl : b_ = 0 := by omega
            have h9 := hQ μ2
            rw [show sumS P L S m_ (nI 0) = _ from (if_pos c6).trans ((if_pos (flt_neg L (by omega) c16)).trans (if_pos (lo_m1 c27.1 c39)))] at h9
            rw [nI_clamp (by omega)] at h9
            exact hR _ _ (h9 hR2 hC2)
      · refine V_bipush (v := (-2)) hX dX9_sum_30 (by decide) ?_
        refine V_iret hX rfl dX9_sum_32 ?_
        have h9 := hQ μ
        rw [show sumS P L S m_ (nI b_) = -2 from (if_pos c6).trans ((if_pos (flt_neg L (by omega) c16)).trans ((if_neg (out_m1 (by omega) (out_iff_in.mpr c27)).1).trans (if_neg (out_m1 (by omega) (out_iff_in.mpr c27)).2)))] at h9
        exact hR _ _ (h9 hRM (keepC.rf μ))
    · refine V_bipush (v := (-5)) hX dX9_sum_19 (by decide) ?_
      refine V_iret hX rfl dX9_sum_21 ?_
      have h9 := hQ μ
      rw [show sumS P L S m_ (nI b_) = -5 from (if_pos c6).trans (if_neg (flt_ge hL60 c16))] at h9
      exact hR _ _ (h9 hRM (keepC.rf μ))
  · refine V_bipush (v := (-2)) hX dX9_sum_9 (by decide) ?_
    refine V_iret hX rfl dX9_sum_11 ?_
    have h9 := hQ μ
    rw [show sumS P L S m_ w_ = -2 from if_neg c6] at h9
    exact hR _ _ (h9 hRM (keepC.rf μ))
set_option maxRecDepth 100000 in
set_option maxHeartbeats 4000000 in
theorem kM_heard {G : VG} {d : Nat} {μ : VS} {Q : Option Value → VS → Prop} {P : PC} {L : Nat} {S κ : Nat → Nat} {I : Nat → PC} {h_ m_ w_ : Int32} (hRM : RM μ P L S κ I) (hok : okP P) (hpd : okPad L S) (hQ : ∀ μ', RM μ' P L S κ I → keepC μ μ' → Q (some (.int (heardS P L S h_ m_ w_))) μ') : Call G (d + 6) yX9_heard cX9_heard 4 (some .int) [.ref 69, .int h_, .int m_, .int w_] μ Q := by
  intro X hX hR
  have hM := hRM.1
  have hL := hRM.2.1
  have hS := hpd.2
  have hL60 := hpd.1
  have hP4 := hok.2.2.2.2.1
  have h4 := hP4
  show V G 4 X 0 [(0, .ref 69), (1, .int h_), (2, .int m_), (3, .int w_)] [] μ
  refine V_aload_n hX dX9_heard_0 0 rfl ?_
  refine V_iload_n hX dX9_heard_1 1 rfl ?_
  refine V_callV (As := [.int h_]) (st := []) hX mX9_99 rfl (kM_isThere hM hP4 ?_) rfl (Nat.le_of_ble_eq_true rfl) (Nat.le_of_ble_eq_true rfl) dX9_heard_2
  show V G 4 X 5 [(0, .ref 69), (1, .int h_), (2, .int m_), (3, .int w_)] [.int (bI (thr P h_))] μ
  refine V_if_neB (tgt := 10) hX dX9_heard_5 (by decide) (fun c5 => ?_) (fun c5 => ?_)
  · obtain ⟨g_, hg7, rfl, hpg⟩ := thr_nat c5
    refine V_iload_n hX dX9_heard_10 3 rfl ?_
    refine V_iconst (v := nI 0) hX dX9_heard_11 (by decide) ?_
    refine V_iconst (v := nI 3) hX dX9_heard_12 (by decide) ?_
    refine V_callS (As := [.int w_, .int (nI 0), .int (nI 3)]) (st := []) hX mX9_75 (k_in ?_) rfl (Nat.le_of_ble_eq_true rfl) (Nat.le_of_ble_eq_true rfl) dX9_heard_13
    show V G 4 X 16 [(0, .ref 69), (1, .int (nI g_)), (2, .int m_), (3, .int w_)] [.int (bI (nI 0 ≤ w_ ∧ w_ ≤ nI 3))] μ
    refine V_if_neB (tgt := 22) hX dX9_heard_16 (by decide) (fun c16 => ?_) (fun c16 => ?_)
    · obtain ⟨b_, hb0, hb7, rfl⟩ := nat_of_in (by decide) (by decide) c16
      refine V_aload_n hX dX9_heard_22 0 rfl ?_
      refine V_callV (As := []) (st := []) hX mX9_109 rfl (kM_faultOf hL hS hL60 ?_) rfl (Nat.le_of_ble_eq_true rfl) (Nat.le_of_ble_eq_true rfl) dX9_heard_23
      show V G 4 X 26 [(0, .ref 69), (1, .int (nI g_)), (2, .int m_), (3, .int (nI b_))] [.int (fltU S L)] μ
      refine V_if_lt (tgt := 32) hX dX9_heard_26 (by decide) (fun c26 => ?_) (fun c26 => ?_)
      · refine V_iload_n hX dX9_heard_32 2 rfl ?_
        refine V_iconst (v := nI 0) hX dX9_heard_33 (by decide) ?_
        refine V_aload_n hX dX9_heard_34 0 rfl ?_
        refine V_getN (x := nI L) hX fX9_103 rfl hL.1 dX9_heard_35 ?_
        refine V_iconst (v := nI 1) hX dX9_heard_38 (by decide) ?_
        refine V_isub hX dX9_heard_39 ?_
        refine V_callS (As := [.int m_, .int (nI 0), .int ((nI L) - (nI 1))]) (st := []) hX mX9_75 (k_in ?_) rfl (Nat.le_of_ble_eq_true rfl) (Nat.le_of_ble_eq_true rfl) dX9_heard_40
        show V G 4 X 43 [(0, .ref 69), (1, .int (nI g_)), (2, .int m_), (3, .int (nI b_))] [.int (bI (nI 0 ≤ m_ ∧ m_ ≤ (nI L) - (nI 1)))] μ
        refine V_if_neB (tgt := 49) hX dX9_heard_43 (by decide) (fun c43 => ?_) (fun c43 => ?_)
        · obtain ⟨j_, hj_, rfl⟩ := inM_nat (by omega) c43
          refine V_aload_n hX dX9_heard_49 0 rfl ?_
          refine V_callV (As := []) (st := []) hX mX9_160 rfl (kM_lay hM hL hL60 (fun μ1 hLy hK1 => ?_)) rfl (Nat.le_of_ble_eq_true rfl) (Nat.le_of_ble_eq_true rfl) dX9_heard_50
          show V G 4 X 53 [(0, .ref 69), (1, .int (nI g_)), (2, .int (nI j_)), (3, .int (nI b_))] [] μ1
          have hR1 := hRM.keep hK1
          refine V_aload_n hX dX9_heard_53 0 rfl ?_
          refine V_aload_n hX dX9_heard_54 0 rfl ?_
          refine V_getN (x := nI L) hX fX9_103 rfl hR1.2.1.1 dX9_heard_55 ?_
          refine V_callV (As := [.int (nI L)]) (st := []) hX mX9_163 rfl (kM_preach (sg_ := S) (cb_ := noC) (cm_ := 0) hLy.1 hok hLy.2.2.2 (by omega) (fun i hi => hLy.2.2.1 i (by omega)) (fun i hi => by have := hS i (by omega); omega) (fun i _ => Or.inr ⟨rfl, rfl⟩) (fun μ2 hp => ?_)) rfl (Nat.le_of_ble_eq_true rfl) (Nat.le_of_ble_eq_true rfl) dX9_heard_58
          show V G 4 X 61 [(0, .ref 69), (1, .int (nI g_)), (2, .int (nI j_)), (3, .int (nI b_))] [] μ2
          have hR2 := hR1.keep hp.1.keep
          have hC2 : keepC μ μ2 := (hK1.tr hp.1.keep).C
          refine V_iload_n hX dX9_heard_61 3 rfl ?_
          refine V_if_neN (tgt := 79) hX dX9_heard_62 (by decide) (by first | omega | (have := sm_lt8 (nodF P (lAt P S j_)) (n := 8) (by decide); omega) | (have := sm_lt8 (agrF P (S j_) (lAt P S j_)) (n := 8) (by decide); omega) | (have := sm_lt8 (snoF P (nodF P (lAt P S j_))) (n := 8) (by decide); omega)) (fun c62 => ?_) (fun c62 => ?_)
          · refine V_iload_n hX dX9_heard_79 3 rfl ?_
            refine V_iconst (v := nI 1) hX dX9_heard_80 (by decide) ?_
            refine V_icmp_neN (tgt := 97) hX dX9_heard_81 (by decide) (by first | omega | (have := sm_lt8 (nodF P (lAt P S j_)) (n := 8) (by decide); omega) | (have := sm_lt8 (agrF P (S j_) (lAt P S j_)) (n := 8) (by decide); omega) | (have := sm_lt8 (snoF P (nodF P (lAt P S j_))) (n := 8) (by decide); omega)) (by first | omega | (have := sm_lt8 (nodF P (lAt P S j_)) (n := 8) (by decide); omega) | (have := sm_lt8 (agrF P (S j_) (lAt P S j_)) (n := 8) (by decide); omega) | (have := sm_lt8 (snoF P (nodF P (lAt P S j_))) (n := 8) (by decide); omega)) (fun c81 => ?_) (fun c81 => ?_)
            · refine V_iload_n hX dX9_heard_97 3 rfl ?_
              refine V_iconst (v := nI 2) hX dX9_heard_98 (by decide) ?_
              refine V_icmp_neN (tgt := 115) hX dX9_heard_99 (by decide) (by first | omega | (have := sm_lt8 (nodF P (lAt P S j_)) (n := 8) (by decide); omega) | (have := sm_lt8 (agrF P (S j_) (lAt P S j_)) (n := 8) (by decide); omega) | (have := sm_lt8 (snoF P (nodF P (lAt P S j_))) (n := 8) (by decide); omega)) (by first | omega | (have := sm_lt8 (nodF P (lAt P S j_)) (n := 8) (by decide); omega) | (have := sm_lt8 (agrF P (S j_) (lAt P S j_)) (n := 8) (by decide); omega) | (have := sm_lt8 (snoF P (nodF P (lAt P S j_))) (n := 8) (by decide); omega)) (fun c99 => ?_) (fun c99 => ?_)
              · refine V_aload_n hX dX9_heard_115 0 rfl ?_
                refine V_getr (j := 81) hX fX9_53 rfl rfl dX9_heard_116 ?_
                refine V_iload_n hX dX9_heard_119 2 rfl ?_
                refine V_ialdN (x := nI (sm (fun h => h) (snoF P (nodF P (lAt P S j_))) 8)) hX rfl (by first | omega | (have := sm_lt8 (nodF P (lAt P S j_)) (n := 8) (by decide); omega) | (have := sm_lt8 (agrF P (S j_) (lAt P S j_)) (n := 8) (by decide); omega) | (have := sm_lt8 (snoF P (nodF P (lAt P S j_))) (n := 8) (by decide); omega)) (by decide) (hp.2.2.2.2.1 j_ (by omega)).2.2 dX9_heard_120 ?_
                refine V_iload_n hX dX9_heard_121 1 rfl ?_
                refine V_ishrN hX dX9_heard_122 (by first | omega | (have := sm_lt8 (nodF P (lAt P S j_)) (n := 8) (by decide); omega) | (have := sm_lt8 (agrF P (S j_) (lAt P S j_)) (n := 8) (by decide); omega) | (have := sm_lt8 (snoF P (nodF P (lAt P S j_))) (n := 8) (by decide); omega)) (by first | omega | (have := sm_lt8 (nodF P (lAt P S j_)) (n := 8) (by decide); omega) | (have := sm_lt8 (agrF P (S j_) (lAt P S j_)) (n := 8) (by decide); omega) | (have := sm_lt8 (snoF P (nodF P (lAt P S j_))) (n := 8) (by decide); omega)) ?_
                refine V_iconst (v := nI 1) hX dX9_heard_123 (by decide) ?_
                refine V_iandN hX dX9_heard_124 ?_
                refine V_iret hX rfl dX9_heard_125 ?_
                have h9 := hQ μ2
                rw [show heardS P L S (nI g_) (nI j_) (nI b_) = _ from (if_pos c5).trans ((if_pos c16).trans ((if_pos (flt_neg L (by omega) c26)).trans (if_pos c43)))] at h9
                rw [nI_clamp (by omega), nI_clamp (by omega), nI_clamp (by omega)] at h9
                rw [show heardV P S g_ j_ b_ = _ from (if_neg c62).trans ((if_neg c81).trans (if_neg c99))] at h9
                exact hR _ _ (by rw [shr_bI, sm_id (by omega)]; exact h9 hR2 hC2)
              · refine V_aload_n hX dX9_heard_102 0 rfl ?_
                refine V_getr (j := 80) hX fX9_50 rfl rfl dX9_heard_103 ?_
                refine V_iload_n hX dX9_heard_106 2 rfl ?_
                refine V_ialdN (x := nI (sm (fun h => h) (agrF P (S j_) (lAt P S j_)) 8)) hX rfl (by first | omega | (have := sm_lt8 (nodF P (lAt P S j_)) (n := 8) (by decide); omega) | (have := sm_lt8 (agrF P (S j_) (lAt P S j_)) (n := 8) (by decide); omega) | (have := sm_lt8 (snoF P (nodF P (lAt P S j_))) (n := 8) (by decide); omega)) (by decide) (hp.2.2.2.2.1 j_ (by omega)).2.1 dX9_heard_107 ?_
                refine V_iload_n hX dX9_heard_108 1 rfl ?_
                refine V_ishrN hX dX9_heard_109 (by first | omega | (have := sm_lt8 (nodF P (lAt P S j_)) (n := 8) (by decide); omega) | (have := sm_lt8 (agrF P (S j_) (lAt P S j_)) (n := 8) (by decide); omega) | (have := sm_lt8 (snoF P (nodF P (lAt P S j_))) (n := 8) (by decide); omega)) (by first | omega | (have := sm_lt8 (nodF P (lAt P S j_)) (n := 8) (by decide); omega) | (have := sm_lt8 (agrF P (S j_) (lAt P S j_)) (n := 8) (by decide); omega) | (have := sm_lt8 (snoF P (nodF P (lAt P S j_))) (n := 8) (by decide); omega)) ?_
                refine V_iconst (v := nI 1) hX dX9_heard_110 (by decide) ?_
                refine V_iandN hX dX9_heard_111 ?_
                refine V_goto (tgt := 125) hX dX9_heard_112 (by decide) ?_
                refine V_iret hX rfl dX9_heard_125 ?_
                have h9 := hQ μ2
                rw [show heardS P L S (nI g_) (nI j_) (nI b_) = _ from (if_pos c5).trans ((if_pos c16).trans ((if_pos (flt_neg L (by omega) c26)).trans (if_pos c43)))] at h9
                rw [nI_clamp (by omega), nI_clamp (by omega), nI_clamp (by omega)] at h9
                rw [show heardV P S g_ j_ b_ = _ from (if_neg c62).trans ((if_neg c81).trans (if_pos c99))] at h9
                exact hR _ _ (by rw [shr_bI, sm_id (by omega)]; exact h9 hR2 hC2)
            · refine V_aload_n hX dX9_heard_84 0 rfl ?_
              refine V_getr (j := 79) hX fX9_47 rfl rfl dX9_heard_85 ?_
              refine V_iload_n hX dX9_heard_88 2 rfl ?_
              refine V_ialdN (x := nI (sm (fun h => h) (nodF P (lAt P S j_)) 8)) hX rfl (by first | omega | (have := sm_lt8 (nodF P (lAt P S j_)) (n := 8) (by decide); omega) | (have := sm_lt8 (agrF P (S j_) (lAt P S j_)) (n := 8) (by decide); omega) | (have := sm_lt8 (snoF P (nodF P (lAt P S j_))) (n := 8) (by decide); omega)) (by decide) (hp.2.2.2.2.1 j_ (by omega)).1 dX9_heard_89 ?_
              refine V_iload_n hX dX9_heard_90 1 rfl ?_
              refine V_ishrN hX dX9_heard_91 (by first | omega | (have := sm_lt8 (nodF P (lAt P S j_)) (n := 8) (by decide); omega) | (have := sm_lt8 (agrF P (S j_) (lAt P S j_)) (n := 8) (by decide); omega) | (have := sm_lt8 (snoF P (nodF P (lAt P S j_))) (n := 8) (by decide); omega)) (by first | omega | (have := sm_lt8 (nodF P (lAt P S j_)) (n := 8) (by decide); omega) | (have := sm_lt8 (agrF P (S j_) (lAt P S j_)) (n := 8) (by decide); omega) | (have := sm_lt8 (snoF P (nodF P (lAt P S j_))) (n := 8) (by decide); omega)) ?_
              refine V_iconst (v := nI 1) hX dX9_heard_92 (by decide) ?_
              refine V_iandN hX dX9_heard_93 ?_
              refine V_goto (tgt := 125) hX dX9_heard_94 (by decide) ?_
              refine V_iret hX rfl dX9_heard_125 ?_
              have h9 := hQ μ2
              rw [show heardS P L S (nI g_) (nI j_) (nI b_) = _ from (if_pos c5).trans ((if_pos c16).trans ((if_pos (flt_neg L (by omega) c26)).trans (if_pos c43)))] at h9
              rw [nI_clamp (by omega), nI_clamp (by omega), nI_clamp (by omega)] at h9
              rw [show heardV P S g_ j_ b_ = _ from (if_neg c62).trans (if_pos c81)] at h9
              exact hR _ _ (by rw [shr_bI, sm_id (by omega)]; exact h9 hR2 hC2)
          · refine V_aload_n hX dX9_heard_65 0 rfl ?_
            refine V_getr (j := 82) hX fX9_56 rfl rfl dX9_heard_66 ?_
            refine V_bipush (v := nI 8) hX dX9_heard_69 (by decide) ?_
            refine V_iload_n hX dX9_heard_71 2 rfl ?_
            refine V_imulN hX dX9_heard_72 ?_
            refine V_iload_n hX dX9_heard_73 1 rfl ?_
            refine V_iaddN hX dX9_heard_74 ?_
            refine V_ialdN (x := nI ((uAt P S (j_ + 1)).1 g_)) hX rfl (by first | omega | (have := sm_lt8 (nodF P (lAt P S j_)) (n := 8) (by decide); omega) | (have := sm_lt8 (agrF P (S j_) (lAt P S j_)) (n := 8) (by decide); omega) | (have := sm_lt8 (snoF P (nodF P (lAt P S j_))) (n := 8) (by decide); omega)) (by decide) (hp.2.2.2.2.2 j_ (by omega) g_ (by omega)) dX9_heard_75 ?_
            refine V_goto (tgt := 125) hX dX9_heard_76 (by decide) ?_
            refine V_iret hX rfl dX9_heard_125 ?_
            have h9 := hQ μ2
            rw [show heardS P L S (nI g_) (nI j_) (nI b_) = _ from (if_pos c5).trans ((if_pos c16).trans ((if_pos (flt_neg L (by omega) c26)).trans (if_pos c43)))] at h9
            rw [nI_clamp (by omega), nI_clamp (by omega), nI_clamp (by omega)] at h9
            rw [show heardV P S g_ j_ b_ = _ from if_pos c62] at h9
            exact hR _ _ (h9 hR2 hC2)
        · refine V_bipush (v := (-2)) hX dX9_heard_46 (by decide) ?_
          refine V_iret hX rfl dX9_heard_48 ?_
          have h9 := hQ μ
          rw [show heardS P L S (nI g_) m_ (nI b_) = -2 from (if_pos c5).trans ((if_pos c16).trans ((if_pos (flt_neg L (by omega) c26)).trans (if_neg c43)))] at h9
          exact hR _ _ (h9 hRM (keepC.rf μ))
      · refine V_bipush (v := (-5)) hX dX9_heard_29 (by decide) ?_
        refine V_iret hX rfl dX9_heard_31 ?_
        have h9 := hQ μ
        rw [show heardS P L S (nI g_) m_ (nI b_) = -5 from (if_pos c5).trans ((if_pos c16).trans (if_neg (flt_ge hL60 c26)))] at h9
        exact hR _ _ (h9 hRM (keepC.rf μ))
    · refine V_bipush (v := (-2)) hX dX9_heard_19 (by decide) ?_
      refine V_iret hX rfl dX9_heard_21 ?_
      have h9 := hQ μ
      rw [show heardS P L S (nI g_) m_ w_ = -2 from (if_pos c5).trans (if_neg c16)] at h9
      exact hR _ _ (h9 hRM (keepC.rf μ))
  · refine V_iconst (v := (-1)) hX dX9_heard_8 (by decide) ?_
    refine V_iret hX rfl dX9_heard_9 ?_
    have h9 := hQ μ
    rw [show heardS P L S h_ m_ w_ = -1 from if_neg c5] at h9
    exact hR _ _ (h9 hRM (keepC.rf μ))
