theorem Cx.down {G : VG} {d d2 : Nat} {y : MethodName} {cc : ByteArray} {nL : Nat} {rt : Option FieldType} {X : VX} (h : d ≤ d2) (hX : Cx G d2 y cc nL rt X) : Cx G d y cc nL rt X := by
  obtain ⟨p, l, e, R, s, m, args, below, meth, c, A, cells, slots, Qf⟩ := X
  obtain ⟨h1, h2, h3, h4, h5, h6, h7, h8, h9, h10, h11, hfr, hlo, hce, hsl⟩ := hX
  exact ⟨h1, h2, h3, h4, h5, h6, h7, h8, h9, h10, h11, Nat.le_trans h hfr, Nat.le_trans (Nat.mul_le_mul_left 60 h) hlo, hce, hsl⟩
theorem Call.mono {G : VG} {d d2 : Nat} {y : MethodName} {cc : ByteArray} {nL : Nat} {rt : Option FieldType} {av : List Value} {μ : VS} {Q : Option Value → VS → Prop} (h : d ≤ d2) (hC : Call G d y cc nL rt av μ Q) : Call G d2 y cc nL rt av μ Q := fun X hX hR => hC X (hX.down h) hR
theorem in01 {w : Nat} (h : w ≤ 1) : inZ (nI w) 0 1 := in_of_nat (by decide) (Nat.zero_le _) h
theorem out01 {w : Nat} (h : w ≤ 1) : ¬ (nI w < nI 0 ∨ nI 1 < nI w) := fun z => out_iff_in.mp z (in01 h)
theorem orderS_in {P : PC} {L : Nat} {S : Nat → Nat} {w : Nat} {q : Int32} (hw : w ≤ 1) (hf : fltU S L = -6) (hL : L ≤ 7) : orderS P L S (nI w) q = if q = -1 then ordV P L w (ordB P L S w).2 else if inM q L then nI ((ordB P L S w).2 q.toNatClampNeg) else -6 := by
  unfold orderS
  rw [if_pos (in01 hw), if_pos hf, if_neg (by omega), nI_clamp (by omega)]
theorem sob_in {q : Int32} {L : Nat} (hL : L ≤ 1000) (h1 : ¬ q < 0) (h2 : ¬ nI L ≤ q) : ∃ i, i < L ∧ q = nI i := by
  obtain ⟨i, hi, rfl⟩ := nI_of h1
  refine ⟨i, ?_, rfl⟩
  rcases Nat.lt_or_ge i L with z | z
  · exact z
  · exact absurd ((nI_leI (by omega) hi).mpr z) h2
theorem sob_lt {q : Int32} {L : Nat} (hL : L ≤ 1000) (h : q < 0) : ¬ inM q L := fun z => by
  obtain ⟨i, hi, rfl⟩ := inM_nat hL z
  exact nI_pos (by omega) h
theorem sob_ge {q : Int32} {L : Nat} (hL : L ≤ 1000) (h : nI L ≤ q) : ¬ inM q L := fun z => by
  obtain ⟨i, hi, rfl⟩ := inM_nat hL z
  have := (nI_leI (by omega) (by omega)).mp h
  omega
set_option maxRecDepth 100000 in
set_option maxHeartbeats 4000000 in
theorem k_aim0 {G : VG} {d : Nat} {μ : VS} {Q : Option Value → VS → Prop}  (hQ : ∀ μ', (∀ a, a ≠ 56 → μ'.1 a = μ.1 a) → μ'.1 56 6 = nI 0 → μ'.1 56 5 = nI 1000000 → μ'.2 = μ.2 → Q none μ') : Call G d yX0_aimAt cX0_aimAt 2 none [.ref 56, .int (nI 0)] μ Q := by
  intro X hX hR
  show V G 2 X 0 [(0, .ref 56), (1, .int (nI 0))] [] μ
  refine V_aload_n hX dX0_aimAt_0 0 rfl ?_
  refine V_iload_n hX dX0_aimAt_1 1 rfl ?_
  refine V_putz hX fX0_18 fw_0_6 rfl (by decide) (by decide) dX0_aimAt_2 ?_
  show V G 2 X 5 [(0, .ref 56), (1, .int (nI 0))] [] (vup μ.1 56 6 (nI 0), μ.2)
  generalize hE1 : ((vup μ.1 56 6 (nI 0), μ.2) : VS) = μ1
  have e1 : ∀ a, a ≠ 56 → μ1.1 a = μ.1 a := fun a ha => by rw [← hE1]; dsimp only; exact vup_row _ _ _ ha
  have g1 : μ1.1 56 6 = nI 0 := by rw [← hE1]; dsimp only; exact vup_same _ _ _ _
  have d1 : μ1.2 = μ.2 := by rw [← hE1]
  refine V_aload_n hX dX0_aimAt_5 0 rfl ?_
  refine V_ldc hX kX0_22 dX0_aimAt_6 ?_
  refine V_puti hX fX0_15 fw_0_5 rfl dX0_aimAt_8 ?_
  show V G 2 X 11 [(0, .ref 56), (1, .int (nI 0))] [] (vup μ1.1 56 5 (1000000 : Int32), μ1.2)
  refine V_vret hX rfl dX0_aimAt_11 ?_
  refine hR _ _ (hQ _ (fun a ha => by dsimp only; rw [vup_row _ _ _ ha]; exact e1 a ha) ?_ ?_ d1)
  · dsimp only; rw [vup_ne (by decide)]; exact g1
  · dsimp only; rw [vup_same]; rfl
set_option maxRecDepth 100000 in
set_option maxHeartbeats 4000000 in
theorem k_aim1 {G : VG} {d : Nat} {μ : VS} {Q : Option Value → VS → Prop}  (hQ : ∀ μ', (∀ a, a ≠ 56 → μ'.1 a = μ.1 a) → μ'.1 56 6 = nI 1 → μ'.1 56 5 = nI 1000000 → μ'.2 = μ.2 → Q none μ') : Call G d yX0_aimAt cX0_aimAt 2 none [.ref 56, .int (nI 1)] μ Q := by
  intro X hX hR
  show V G 2 X 0 [(0, .ref 56), (1, .int (nI 1))] [] μ
  refine V_aload_n hX dX0_aimAt_0 0 rfl ?_
  refine V_iload_n hX dX0_aimAt_1 1 rfl ?_
  refine V_putz hX fX0_18 fw_0_6 rfl (by decide) (by decide) dX0_aimAt_2 ?_
  show V G 2 X 5 [(0, .ref 56), (1, .int (nI 1))] [] (vup μ.1 56 6 (nI 1), μ.2)
  generalize hE1 : ((vup μ.1 56 6 (nI 1), μ.2) : VS) = μ1
  have e1 : ∀ a, a ≠ 56 → μ1.1 a = μ.1 a := fun a ha => by rw [← hE1]; dsimp only; exact vup_row _ _ _ ha
  have g1 : μ1.1 56 6 = nI 1 := by rw [← hE1]; dsimp only; exact vup_same _ _ _ _
  have d1 : μ1.2 = μ.2 := by rw [← hE1]
  refine V_aload_n hX dX0_aimAt_5 0 rfl ?_
  refine V_ldc hX kX0_22 dX0_aimAt_6 ?_
  refine V_puti hX fX0_15 fw_0_5 rfl dX0_aimAt_8 ?_
  show V G 2 X 11 [(0, .ref 56), (1, .int (nI 1))] [] (vup μ1.1 56 5 (1000000 : Int32), μ1.2)
  refine V_vret hX rfl dX0_aimAt_11 ?_
  refine hR _ _ (hQ _ (fun a ha => by dsimp only; rw [vup_row _ _ _ ha]; exact e1 a ha) ?_ ?_ d1)
  · dsimp only; rw [vup_ne (by decide)]; exact g1
  · dsimp only; rw [vup_same]; rfl
theorem k_aim {G : VG} {d : Nat} {μ : VS} {Q : Option Value → VS → Prop} {w_ : Nat} (hw : w_ ≤ 1) (hQ : ∀ μ', (∀ a, a ≠ 56 → μ'.1 a = μ.1 a) → μ'.1 56 6 = nI w_ → μ'.1 56 5 = nI 1000000 → μ'.2 = μ.2 → Q none μ') : Call G d yX0_aimAt cX0_aimAt 2 none [.ref 56, .int (nI w_)] μ Q := by
  rcases (by omega : w_ = 0 ∨ w_ = 1) with e | e <;> subst e
  · exact k_aim0 hQ
  · exact k_aim1 hQ
set_option maxRecDepth 100000 in
set_option maxHeartbeats 4000000 in
theorem k_sob {G : VG} {d : Nat} {μ : VS} {Q : Option Value → VS → Prop} {L : Nat} {T_ : Nat → Nat} {q_ : Int32} (hL7 : L ≤ 7) (hl : μ.1 56 3 = nI L) (hT : ∀ i, i < L → μ.1 58 i = nI (T_ i)) (hQ : Q (some (.int (if inM q_ L then nI (T_ q_.toNatClampNeg) else -6))) μ) : Call G d yX0_signOfBest cX0_signOfBest 2 (some .int) [.ref 56, .int q_] μ Q := by
  intro X hX hR
  show V G 2 X 0 [(0, .ref 56), (1, .int q_)] [] μ
  refine V_iload_n hX dX0_signOfBest_0 1 rfl ?_
  refine V_if_lt (tgt := 21) hX dX0_signOfBest_1 (by decide) (fun c1 => ?_) (fun c1 => ?_)
  · refine V_bipush (v := (-6)) hX dX0_signOfBest_21 (by decide) ?_
    refine V_iret hX rfl dX0_signOfBest_23 ?_
    exact hR _ _ (by rw [if_neg (sob_lt (by omega) c1)] at hQ; exact hQ)
  · refine V_iload_n hX dX0_signOfBest_4 1 rfl ?_
    refine V_aload_n hX dX0_signOfBest_5 0 rfl ?_
    refine V_getN (x := nI L) hX fX0_42 rfl hl dX0_signOfBest_6 ?_
    refine V_icmp_ge (tgt := 21) hX dX0_signOfBest_9 (by decide) (fun c9 => ?_) (fun c9 => ?_)
    · refine V_bipush (v := (-6)) hX dX0_signOfBest_21 (by decide) ?_
      refine V_iret hX rfl dX0_signOfBest_23 ?_
      exact hR _ _ (by rw [if_neg (sob_ge (by omega) c9)] at hQ; exact hQ)
    · obtain ⟨i_, hi, rfl⟩ := sob_in (by omega) c1 c9
      refine V_aload_n hX dX0_signOfBest_12 0 rfl ?_
      refine V_getr (j := 58) hX fX0_45 rfl rfl dX0_signOfBest_13 ?_
      refine V_iload_n hX dX0_signOfBest_16 1 rfl ?_
      refine V_ialdN (x := nI (T_ i_)) hX rfl (by omega) (by decide) (hT _ hi) dX0_signOfBest_17 ?_
      refine V_goto (tgt := 23) hX dX0_signOfBest_18 (by decide) ?_
      refine V_iret hX rfl dX0_signOfBest_23 ?_
      exact hR _ _ (by rw [if_pos (nat_inM (by omega) hi), nI_clamp (by omega)] at hQ; exact hQ)
set_option maxRecDepth 100000 in
set_option maxHeartbeats 4000000 in
theorem kC_order1 {G : VG} {d : Nat} {μ : VS} {Q : Option Value → VS → Prop} {P : PC} {L : Nat} {S κ : Nat → Nat} {I : Nat → PC} {w_ : Nat} {q_ : Int32} (hw : w_ ≤ 1) (hRC : RC μ P L S κ I) (hok : okP P) (hpd : okPad L S) (hQ : ∀ μ', RC μ' P L S κ I → keepM μ μ' → Q (some (.int (orderS P L S (nI w_) q_))) μ') : Call G (d + 14) yX8_order cX8_order 3 (some .int) [.ref 0, .int (nI w_), .int q_] μ Q := by
  intro X hX hR
  have hP := hRC.1
  have hL := hRC.2.1
  have hS := hpd.2
  have hL60 := hpd.1
  have hP4 := hok.2.2.2.2.1
  show V G 3 X 0 [(0, .ref 0), (1, .int (nI w_)), (2, .int q_)] [] μ
  refine V_iload_n hX dX8_order_0 1 rfl ?_
  refine V_iconst (v := nI 0) hX dX8_order_1 (by decide) ?_
  refine V_iconst (v := nI 1) hX dX8_order_2 (by decide) ?_
  refine V_callS (As := [.int (nI w_), .int (nI 0), .int (nI 1)]) (st := []) hX mX8_73 (k_isOutside ?_) rfl (Nat.le_of_ble_eq_true rfl) (Nat.le_of_ble_eq_true rfl) dX8_order_3
  show V G 3 X 6 [(0, .ref 0), (1, .int (nI w_)), (2, .int q_)] [.int (bI (nI w_ < nI 0 ∨ nI 1 < nI w_))] μ
  refine V_if_eqB (tgt := 12) hX dX8_order_6 (by decide) (fun c6 => ?_) (fun c6 => ?_)
  · refine V_aload_n hX dX8_order_12 0 rfl ?_
    refine V_getr (j := 31) hX fX8_30 rfl rfl dX8_order_13 ?_
    refine V_callV (As := []) (st := []) hX mX8_137 rfl (kC_hasFault hL hS hL60 ?_) rfl (Nat.le_of_ble_eq_true rfl) (Nat.le_of_ble_eq_true rfl) dX8_order_16
    show V G 3 X 19 [(0, .ref 0), (1, .int (nI w_)), (2, .int q_)] [.int (bI (¬ fltU S L = -6))] μ
    refine V_if_eqB (tgt := 25) hX dX8_order_19 (by decide) (fun c19 => ?_) (fun c19 => ?_)
    · refine V_aload_n hX dX8_order_25 0 rfl ?_
      refine V_getr (j := 31) hX fX8_30 rfl rfl dX8_order_26 ?_
      refine V_getN (x := nI L) hX fX8_128 rfl hL.1 dX8_order_29 ?_
      refine V_bipush (v := nI 7) hX dX8_order_32 (by decide) ?_
      refine V_icmp_leN (tgt := 40) hX dX8_order_34 (by decide) (by omega) (by omega) (fun c34 => ?_) (fun c34 => ?_)
      · have hf : fltU S L = -6 := Decidable.not_not.mp c19
        have hgS : sgs S L := flt_all L hf (by omega)
        refine V_aload_n hX dX8_order_40 0 rfl ?_
        refine V_getr (j := 56) hX fX8_43 rfl rfl dX8_order_41 ?_
        suffices hJ44 : V G 3 X 54 [(0, .ref 0), (1, .int (nI w_)), (2, .int q_)] [.int (nI w_), .ref 56] μ by
          refine V_iload_n hX dX8_order_44 1 rfl ?_
          refine V_iconst (v := nI 1) hX dX8_order_45 (by decide) ?_
          refine V_icmp_neN (tgt := 53) hX dX8_order_46 (by decide) (by omega) (by omega) (fun c46 => ?_) (fun c46 => ?_)
          · refine V_iconst (v := nI 0) hX dX8_order_53 (by decide) ?_
            obtain rfl : w_ = 0 := by omega
            exact hJ44
          · refine V_iconst (v := nI 1) hX dX8_order_49 (by decide) ?_
            refine V_goto (tgt := 54) hX dX8_order_50 (by decide) ?_
            obtain rfl : w_ = 1 := by omega
            exact hJ44
        refine V_callV (As := [.int (nI w_)]) (st := []) hX mX8_168 rfl (k_aim hw (fun μ1 a1 g16 g15 d1 => ?_)) rfl (Nat.le_of_ble_eq_true rfl) (Nat.le_of_ble_eq_true rfl) dX8_order_54
        show V G 3 X 57 [(0, .ref 0), (1, .int (nI w_)), (2, .int q_)] [] μ1
        have hR1 : RC μ1 P L S κ I := hRC.frame (fun a ha => a1 a (by omega))
        refine V_aload_n hX dX8_order_57 0 rfl ?_
        refine V_getr (j := 56) hX fX8_43 rfl rfl dX8_order_58 ?_
        refine V_aload_n hX dX8_order_61 0 rfl ?_
        refine V_getr (j := 1) hX fX8_10 rfl rfl dX8_order_62 ?_
        refine V_aload_n hX dX8_order_65 0 rfl ?_
        refine V_getr (j := 31) hX fX8_30 rfl rfl dX8_order_66 ?_
        refine V_aload_n hX dX8_order_69 0 rfl ?_
        refine V_getr (j := 33) hX fX8_36 rfl rfl dX8_order_70 ?_
        refine V_callU (As := [.ref 1, .ref 31, .ref 33]) (st := []) hX mX8_172_0 rfl (Call.mono (by omega) (k_thru0 (d := 0) (w_ := w_) (a_ := (1000000, S)) hR1 hok c34 hw hgS trivial ⟨g15, g16, Nat.le_refl _, fun z => absurd z (Nat.lt_irrefl _)⟩ (fun μ2 a2 l2 r2 => ?_))) rfl (Nat.le_of_ble_eq_true rfl) (Nat.le_of_ble_eq_true rfl) dX8_order_73
        show V G 3 X 76 [(0, .ref 0), (1, .int (nI w_)), (2, .int q_)] [] μ2
        have hRC2 : RC μ2 P L S κ I := hR1.frame (fun a ha => a2 a (by omega))
        have hkM : keepM μ μ2 := fun a ha => by rw [a2 a (by omega), a1 a (by omega)]
        have hr2 : cRel P L w_ μ2 (ordB P L S w_) := by unfold ordB; rw [← cDfs (show 0 < 1000000 by decide)]; exact r2
        have hv := hr2.2.2.2 (ordB_ne hok c34 hgS)
        refine V_iload_n hX dX8_order_76 2 rfl ?_
        refine V_iconst (v := (-1)) hX dX8_order_77 (by decide) ?_
        refine V_icmp_ne (tgt := 91) hX dX8_order_78 (by decide) (fun c78 => ?_) (fun c78 => ?_)
        · refine V_aload_n hX dX8_order_91 0 rfl ?_
          refine V_getr (j := 56) hX fX8_43 rfl rfl dX8_order_92 ?_
          refine V_iload_n hX dX8_order_95 2 rfl ?_
          refine V_callV (As := [.int q_]) (st := []) hX mX8_179 rfl (k_sob (T_ := (ordB P L S w_).2) c34 l2 hv.2 ?_) rfl (Nat.le_of_ble_eq_true rfl) (Nat.le_of_ble_eq_true rfl) dX8_order_96
          show V G 3 X 99 [(0, .ref 0), (1, .int (nI w_)), (2, .int q_)] [.int (if inM q_ L then nI ((ordB P L S w_).2 q_.toNatClampNeg) else -6)] μ2
          refine V_iret hX rfl dX8_order_99 ?_
          have h9 := hQ μ2
          rw [orderS_in hw hf c34, if_neg c78] at h9
          exact hR _ _ (h9 hRC2 hkM)
        · refine V_aload_n hX dX8_order_81 0 rfl ?_
          refine V_getr (j := 56) hX fX8_43 rfl rfl dX8_order_82 ?_
          refine V_getN (x := ordV P L w_ (ordB P L S w_).2) hX fX8_176 rfl hv.1 dX8_order_85 ?_
          refine V_goto (tgt := 99) hX dX8_order_88 (by decide) ?_
          refine V_iret hX rfl dX8_order_99 ?_
          have h9 := hQ μ2
          rw [orderS_in hw hf c34, if_pos c78] at h9
          exact hR _ _ (h9 hRC2 hkM)
      · refine V_bipush (v := (-4)) hX dX8_order_37 (by decide) ?_
        refine V_iret hX rfl dX8_order_39 ?_
        have h9 := hQ μ
        rw [show orderS P L S (nI w_) q_ = -4 from (if_pos (in01 hw)).trans ((if_pos (Decidable.not_not.mp c19)).trans (if_pos (by omega)))] at h9
        exact hR _ _ (h9 hRC (keepM.rf μ))
    · refine V_bipush (v := (-5)) hX dX8_order_22 (by decide) ?_
      refine V_iret hX rfl dX8_order_24 ?_
      have h9 := hQ μ
      rw [show orderS P L S (nI w_) q_ = -5 from (if_pos (in01 hw)).trans (if_neg c19)] at h9
      exact hR _ _ (h9 hRC (keepM.rf μ))
  · exact absurd c6 (out01 hw)
set_option maxRecDepth 100000 in
set_option maxHeartbeats 4000000 in
theorem kC_order2 {G : VG} {d : Nat} {μ : VS} {Q : Option Value → VS → Prop} {P : PC} {L : Nat} {S κ : Nat → Nat} {I : Nat → PC} {w_ q_ : Int32} (hw : ¬ inZ w_ 0 1) (hRC : RC μ P L S κ I) (hok : okP P) (hpd : okPad L S) (hQ : ∀ μ', RC μ' P L S κ I → keepM μ μ' → Q (some (.int (orderS P L S w_ q_))) μ') : Call G (d + 14) yX8_order cX8_order 3 (some .int) [.ref 0, .int w_, .int q_] μ Q := by
  intro X hX hR
  have hP := hRC.1
  have hL := hRC.2.1
  have hS := hpd.2
  have hL60 := hpd.1
  have hP4 := hok.2.2.2.2.1
  show V G 3 X 0 [(0, .ref 0), (1, .int w_), (2, .int q_)] [] μ
  refine V_iload_n hX dX8_order_0 1 rfl ?_
  refine V_iconst (v := nI 0) hX dX8_order_1 (by decide) ?_
  refine V_iconst (v := nI 1) hX dX8_order_2 (by decide) ?_
  refine V_callS (As := [.int w_, .int (nI 0), .int (nI 1)]) (st := []) hX mX8_73 (k_isOutside ?_) rfl (Nat.le_of_ble_eq_true rfl) (Nat.le_of_ble_eq_true rfl) dX8_order_3
  show V G 3 X 6 [(0, .ref 0), (1, .int w_), (2, .int q_)] [.int (bI (w_ < nI 0 ∨ nI 1 < w_))] μ
  refine V_if_eqB (tgt := 12) hX dX8_order_6 (by decide) (fun c6 => ?_) (fun c6 => ?_)
  · exact absurd (out_iff_in.mpr hw) c6
  · refine V_bipush (v := (-2)) hX dX8_order_9 (by decide) ?_
    refine V_iret hX rfl dX8_order_11 ?_
    have h9 := hQ μ
    rw [show orderS P L S w_ q_ = -2 from if_neg hw] at h9
    exact hR _ _ (h9 hRC (keepM.rf μ))
theorem kC_order {G : VG} {d : Nat} {μ : VS} {Q : Option Value → VS → Prop} {P : PC} {L : Nat} {S κ : Nat → Nat} {I : Nat → PC} {w_ q_ : Int32} (hRC : RC μ P L S κ I) (hok : okP P) (hpd : okPad L S)  (hQ : ∀ μ', RC μ' P L S κ I → keepM μ μ' → Q (some (.int (orderS P L S w_ q_))) μ') : Call G (d + 14) yX8_order cX8_order 3 (some .int) [.ref 0, .int w_, .int q_] μ Q := by
  by_cases hw : inZ w_ 0 1
  · obtain ⟨j, -, h2, rfl⟩ := nat_of_in (by decide) (by decide) hw
    exact kC_order1 h2 hRC hok hpd hQ
  · exact kC_order2 hw hRC hok hpd hQ
theorem lt_all {f : Nat → Prop} {k : Nat} (h : ∀ i, i < k → f i) (hk : f k) : ∀ i, i < k + 1 → f i := fun i hi => by
  rcases Nat.lt_or_ge i k with q | q
  · exact h i q
  · obtain rfl : i = k := by omega
    exact hk
set_option maxRecDepth 100000 in
set_option maxHeartbeats 4000000 in
theorem lp_amt {G : VG} {d : Nat} {μ : VS} {Q : Option Value → VS → Prop} {X : VX} {P : PC} {L : Nat} (hX : Cx G d yX1_areMinutesThere cX1_areMinutesThere 3 (some .boolean) X) (hR : ∀ r μ', Q r μ' → Ret G X r μ') (hok : okP P) (hP : isP μ 1 P) (hL : μ.1 31 1 = nI L) (hL60 : L ≤ 60) (hQ : Q (some (.int (bI (∀ i, i < P 0 6 → P 5 i < L)))) μ) : ∀ (j k_ : Nat), k_ ≤ P 0 6 → P 0 6 + 1 ≤ k_ + j → (∀ i, i < k_ → P 5 i < L) → V G 3 X 2 [(0, .ref 1), (1, .ref 31), (2, .int (nI k_))] [] μ := by
  have h6 := hok.2.2.2.2.2.2.1
  have hsg := hok.2.2.2.2.2.2.2.2.1
  intro j
  induction j with
  | zero =>
    intro k_ h1 h2
    exact absurd h2 (by omega)
  | succ j ih =>
    intro k_ h1 h2 hno
    refine V_iload_n hX dX1_areMinutesThere_2 2 rfl ?_
    refine V_aload_n hX dX1_areMinutesThere_3 0 rfl ?_
    refine V_getN (x := nI (P 0 6)) hX fX1_26 rfl (hP.1 6 (by decide)) dX1_areMinutesThere_4 ?_
    refine V_icmp_geN (tgt := 31) hX dX1_areMinutesThere_7 (by decide) (by first | omega | (have := hsg k_ (by omega); omega)) (by first | omega | (have := hsg k_ (by omega); omega)) (fun c7 => ?_) (fun c7 => ?_)
    · refine V_iconst (v := nI 1) hX dX1_areMinutesThere_31 (by decide) ?_
      refine V_zret hX rfl rfl dX1_areMinutesThere_32 ?_
      exact hR _ _ (by rw [bI_t (fun i hi => hno i (by omega))] at hQ; exact hQ)
    · refine V_aload_n hX dX1_areMinutesThere_10 0 rfl ?_
      refine V_getr (j := 6) hX fX1_31 rfl rfl dX1_areMinutesThere_11 ?_
      refine V_iload_n hX dX1_areMinutesThere_14 2 rfl ?_
      refine V_ialdN (x := nI (P 5 k_)) hX rfl (by first | omega | (have := hsg k_ (by omega); omega)) (by decide) (hP.2 4 (by decide) _ (by omega)) dX1_areMinutesThere_15 ?_
      refine V_aload_n hX dX1_areMinutesThere_16 1 rfl ?_
      refine V_getN (x := nI L) hX fX1_35 rfl hL dX1_areMinutesThere_17 ?_
      refine V_icmp_ltN (tgt := 25) hX dX1_areMinutesThere_20 (by decide) (by first | omega | (have := hsg k_ (by omega); omega)) (by first | omega | (have := hsg k_ (by omega); omega)) (fun c20 => ?_) (fun c20 => ?_)
      · refine V_iincN (n := 1) (ls' := [(0, .ref 1), (1, .ref 31), (2, .int (nI (k_ + 1)))]) hX dX1_areMinutesThere_25 2 rfl (by decide) rfl ?_
        refine V_goto (tgt := 2) hX dX1_areMinutesThere_28 (by decide) ?_
        exact ih (k_ + 1) (by omega) (by omega) (lt_all hno c20)
      · refine V_iconst (v := nI 0) hX dX1_areMinutesThere_23 (by decide) ?_
        refine V_zret hX rfl rfl dX1_areMinutesThere_24 ?_
        exact hR _ _ (by rw [bI_f (fun z => absurd (z k_ (by omega)) (by omega))] at hQ; exact hQ)
set_option maxRecDepth 100000 in
set_option maxHeartbeats 4000000 in
theorem k_amt {G : VG} {d : Nat} {μ : VS} {Q : Option Value → VS → Prop} {P : PC} {L : Nat} (hok : okP P) (hP : isP μ 1 P) (hL : μ.1 31 1 = nI L) (hL60 : L ≤ 60) (hQ : Q (some (.int (bI (∀ i, i < P 0 6 → P 5 i < L)))) μ) : Call G d yX1_areMinutesThere cX1_areMinutesThere 3 (some .boolean) [.ref 1, .ref 31] μ Q := by
  intro X hX hR
  show V G 3 X 0 [(0, .ref 1), (1, .ref 31)] [] μ
  refine V_iconst (v := nI 0) hX dX1_areMinutesThere_0 (by decide) ?_
  refine V_istore_n (ls' := [(0, .ref 1), (1, .ref 31), (2, .int (nI 0))]) hX dX1_areMinutesThere_1 (by decide) rfl ?_
  exact lp_amt hX hR hok hP hL hL60 hQ (P 0 6 + 1) 0 (by omega) (by omega) (fun i hi => absurd hi (by omega))
set_option maxRecDepth 100000 in
set_option maxHeartbeats 4000000 in
theorem k_find {G : VG} {d : Nat} {μ : VS} {Q : Option Value → VS → Prop} {P : PC} {L : Nat} {S κ : Nat → Nat} {I : Nat → PC} (hRC : RC μ P L S κ I) (hok : okP P) (hpd : okPad L S) (hgS : sgs S L) (hL6 : L ≤ 6) (hQ : ∀ μ', (∀ a, a < 34 ∨ 64 ≤ a → μ'.1 a = μ.1 a) → (0 < (fitO P L S).1 → μ'.1 60 3 = nI L) → fRel L μ' (fitO P L S) → Q none μ') : Call G (d + 13) yX1_find cX1_find 4 none [.ref 60, .ref 1, .ref 31, .ref 33] μ Q := by
  intro X hX hR
  show V G 4 X 0 [(0, .ref 60), (1, .ref 1), (2, .ref 31), (3, .ref 33)] [] μ
  refine V_aload_n hX dX1_find_0 0 rfl ?_
  refine V_iconst (v := nI 0) hX dX1_find_1 (by decide) ?_
  refine V_puti hX fX1_9 fw_1_4 rfl dX1_find_2 ?_
  show V G 4 X 5 [(0, .ref 60), (1, .ref 1), (2, .ref 31), (3, .ref 33)] [] (vup μ.1 60 4 (nI 0), μ.2)
  refine V_aload_n hX dX1_find_5 0 rfl ?_
  refine V_iconst (v := nI 0) hX dX1_find_6 (by decide) ?_
  refine V_puti hX fX1_15 fw_1_5 rfl dX1_find_7 ?_
  show V G 4 X 10 [(0, .ref 60), (1, .ref 1), (2, .ref 31), (3, .ref 33)] [] (vup (vup μ.1 60 4 (nI 0)) 60 5 (nI 0), μ.2)
  generalize hE1 : ((vup (vup μ.1 60 4 (nI 0)) 60 5 (nI 0), μ.2) : VS) = μ1
  have e1 : ∀ a, a ≠ 60 → μ1.1 a = μ.1 a := fun a ha => by rw [← hE1]; dsimp only; rw [vup_row _ _ _ ha, vup_row _ _ _ ha]
  have g4 : μ1.1 60 4 = nI 0 := by rw [← hE1]; dsimp only; rw [vup_ne (by decide), vup_same]
  have g5 : μ1.1 60 5 = nI 0 := by rw [← hE1]; dsimp only; exact vup_same _ _ _ _
  have hR1 : RC μ1 P L S κ I := hRC.frame (fun a ha => e1 a (by omega))
  have hr1 : fRel L μ1 ((0, fun _ => false, S) : FA) := ⟨g4, g5, fun z => absurd z (Nat.lt_irrefl _)⟩
  refine V_aload_n hX dX1_find_10 1 rfl ?_
  refine V_aload_n hX dX1_find_11 2 rfl ?_
  refine V_callS (As := [.ref 1, .ref 31]) (st := []) hX mX1_18 (k_amt hok hR1.1 hR1.2.1.1 hpd.1 ?_) rfl (Nat.le_of_ble_eq_true rfl) (Nat.le_of_ble_eq_true rfl) dX1_find_12
  show V G 4 X 15 [(0, .ref 60), (1, .ref 1), (2, .ref 31), (3, .ref 33)] [.int (bI (∀ i, i < P 0 6 → P 5 i < L))] μ1
  refine V_if_eqB (tgt := 25) hX dX1_find_15 (by decide) (fun c15 => ?_) (fun c15 => ?_)
  · refine V_vret hX rfl dX1_find_25 ?_
    have e0 : fitO P L S = (0, fun _ => false, S) := fDfs0 c15
    exact hR _ _ (hQ μ1 (fun a ha => e1 a (by omega)) (fun z => absurd z (by rw [e0]; exact Nat.lt_irrefl _)) (by rw [e0]; exact hr1))
  · refine V_aload_n hX dX1_find_18 0 rfl ?_
    refine V_aload_n hX dX1_find_19 1 rfl ?_
    refine V_aload_n hX dX1_find_20 2 rfl ?_
    refine V_aload_n hX dX1_find_21 3 rfl ?_
    refine V_callU (As := [.ref 1, .ref 31, .ref 33]) (st := []) hX mX1_22_1 rfl (Call.mono (by omega) (k_thru1 (d := 0) (a_ := ((0, fun _ => false, S) : FA)) hR1 hok (by omega) hgS (by have := p7 hL6; show 0 + 7 ^ L ≤ 1000000; omega) hr1 (fun μ2 a2 l2 r2 => ?_))) rfl (Nat.le_of_ble_eq_true rfl) (Nat.le_of_ble_eq_true rfl) dX1_find_22
    show V G 4 X 25 [(0, .ref 60), (1, .ref 1), (2, .ref 31), (3, .ref 33)] [] μ2
    refine V_vret hX rfl dX1_find_25 ?_
    exact hR _ _ (hQ μ2 (fun a ha => by rw [a2 a ha, e1 a (by omega)]) (fun _ => l2) (by unfold fitO; rw [← fDfs c15]; exact r2))
set_option maxRecDepth 100000 in
set_option maxHeartbeats 4000000 in
theorem k_sof {G : VG} {d : Nat} {μ : VS} {Q : Option Value → VS → Prop} {P : PC} {L : Nat} {S : Nat → Nat} {q_ : Int32} (hL6 : L ≤ 6) (hl : 0 < (fitO P L S).1 → μ.1 60 3 = nI L) (hr : fRel L μ (fitO P L S)) (hQ : Q (some (.int (if 0 < (fitO P L S).1 ∧ inM q_ L then nI ((fitO P L S).2.2 q_.toNatClampNeg) else -6))) μ) : Call G d yX1_signOfFirst cX1_signOfFirst 2 (some .int) [.ref 60, .int q_] μ Q := by
  intro X hX hR
  show V G 2 X 0 [(0, .ref 60), (1, .int q_)] [] μ
  refine V_aload_n hX dX1_signOfFirst_0 0 rfl ?_
  refine V_getN (x := nI ((fitO P L S).1)) hX fX1_9 rfl hr.1 dX1_signOfFirst_1 ?_
  refine V_if_leN (tgt := 28) hX dX1_signOfFirst_4 (by decide) (by first | omega | (have := fitO_bd (P := P) (S := S) hL6; omega)) (fun c4 => ?_) (fun c4 => ?_)
  · refine V_bipush (v := (-6)) hX dX1_signOfFirst_28 (by decide) ?_
    refine V_iret hX rfl dX1_signOfFirst_30 ?_
    exact hR _ _ (by rw [if_neg (fun z => by omega)] at hQ; exact hQ)
  · refine V_iload_n hX dX1_signOfFirst_7 1 rfl ?_
    refine V_if_lt (tgt := 28) hX dX1_signOfFirst_8 (by decide) (fun c8 => ?_) (fun c8 => ?_)
    · refine V_bipush (v := (-6)) hX dX1_signOfFirst_28 (by decide) ?_
      refine V_iret hX rfl dX1_signOfFirst_30 ?_
      exact hR _ _ (by rw [if_neg (fun z => sob_lt (by omega) c8 z.2)] at hQ; exact hQ)
    · refine V_iload_n hX dX1_signOfFirst_11 1 rfl ?_
      refine V_aload_n hX dX1_signOfFirst_12 0 rfl ?_
      refine V_getN (x := nI L) hX fX1_58 rfl (hl c4) dX1_signOfFirst_13 ?_
      refine V_icmp_ge (tgt := 28) hX dX1_signOfFirst_16 (by decide) (fun c16 => ?_) (fun c16 => ?_)
      · refine V_bipush (v := (-6)) hX dX1_signOfFirst_28 (by decide) ?_
        refine V_iret hX rfl dX1_signOfFirst_30 ?_
        exact hR _ _ (by rw [if_neg (fun z => sob_ge (by omega) c16 z.2)] at hQ; exact hQ)
      · obtain ⟨i_, hi, rfl⟩ := sob_in (by omega) c8 c16
        refine V_aload_n hX dX1_signOfFirst_19 0 rfl ?_
        refine V_getr (j := 62) hX fX1_62 rfl rfl dX1_signOfFirst_20 ?_
        refine V_iload_n hX dX1_signOfFirst_23 1 rfl ?_
        refine V_ialdN (x := nI ((fitO P L S).2.2 i_)) hX rfl (by first | omega | (have := fitO_bd (P := P) (S := S) hL6; omega)) (by decide) (hr.2.2 c4 _ hi).1 dX1_signOfFirst_24 ?_
        refine V_goto (tgt := 30) hX dX1_signOfFirst_25 (by decide) ?_
        refine V_iret hX rfl dX1_signOfFirst_30 ?_
        exact hR _ _ (by rw [if_pos ⟨c4, nat_inM (by omega) hi⟩, nI_clamp (by omega)] at hQ; exact hQ)
def preR (S : Nat → Nat) (L : Nat) : Int32 := if fltU S L = -6 then (if 6 < L then -4 else nI 0) else -5
theorem preR_0 {S : Nat → Nat} {L : Nat} (h : preR S L = 0) : fltU S L = -6 ∧ L ≤ 6 := by
  unfold preR at h
  by_cases a : fltU S L = -6
  · refine ⟨a, ?_⟩
    rw [if_pos a] at h
    rcases Nat.lt_or_ge 6 L with b | b
    · rw [if_pos b] at h; exact absurd h (by decide)
    · exact b
  · rw [if_neg a] at h; exact absurd h (by decide)
theorem preR_n {P : PC} {S : Nat → Nat} {L : Nat} {q : Int32} (h : ¬ preR S L = 0) : preS P L S q = preR S L ∧ surS P L S = preR S L := by
  unfold preR at h ⊢
  unfold preS surS
  by_cases a : fltU S L = -6
  · rw [if_pos a] at h ⊢
    rw [if_pos a, if_pos a]
    by_cases b : 6 < L
    · rw [if_pos b, if_pos b, if_pos b]; exact ⟨rfl, rfl⟩
    · rw [if_neg b] at h; exact absurd rfl h
  · rw [if_neg a, if_neg a, if_neg a]; exact ⟨rfl, rfl⟩
set_option maxRecDepth 100000 in
set_option maxHeartbeats 4000000 in
theorem k_pref {G : VG} {d : Nat} {μ : VS} {Q : Option Value → VS → Prop} {P : PC} {L : Nat} {S κ : Nat → Nat} {I : Nat → PC} (hRC : RC μ P L S κ I) (hok : okP P) (hpd : okPad L S) (hQ : Q (some (.int (preR S L))) μ) : Call G (d + 3) yX8_preachedRefusal cX8_preachedRefusal 1 (some .int) [.ref 0] μ Q := by
  intro X hX hR
  have hP := hRC.1
  have hL := hRC.2.1
  have hS := hpd.2
  have hL60 := hpd.1
  have hP4 := hok.2.2.2.2.1
  show V G 1 X 0 [(0, .ref 0)] [] μ
  refine V_aload_n hX dX8_preachedRefusal_0 0 rfl ?_
  refine V_getr (j := 31) hX fX8_30 rfl rfl dX8_preachedRefusal_1 ?_
  refine V_callV (As := []) (st := []) hX mX8_137 rfl (kC_hasFault hL hS hL60 ?_) rfl (Nat.le_of_ble_eq_true rfl) (Nat.le_of_ble_eq_true rfl) dX8_preachedRefusal_4
  show V G 1 X 7 [(0, .ref 0)] [.int (bI (¬ fltU S L = -6))] μ
  refine V_if_eqB (tgt := 13) hX dX8_preachedRefusal_7 (by decide) (fun c7 => ?_) (fun c7 => ?_)
  · refine V_aload_n hX dX8_preachedRefusal_13 0 rfl ?_
    refine V_getr (j := 31) hX fX8_30 rfl rfl dX8_preachedRefusal_14 ?_
    refine V_getN (x := nI L) hX fX8_128 rfl hL.1 dX8_preachedRefusal_17 ?_
    refine V_bipush (v := nI 6) hX dX8_preachedRefusal_20 (by decide) ?_
    refine V_icmp_leN (tgt := 30) hX dX8_preachedRefusal_22 (by decide) (by omega) (by omega) (fun c22 => ?_) (fun c22 => ?_)
    · refine V_iconst (v := nI 0) hX dX8_preachedRefusal_30 (by decide) ?_
      refine V_iret hX rfl dX8_preachedRefusal_31 ?_
      exact hR _ _ (by rw [show preR S L = _ from (if_pos (Decidable.not_not.mp c7)).trans (if_neg (by omega))] at hQ; exact hQ)
    · refine V_bipush (v := (-4)) hX dX8_preachedRefusal_25 (by decide) ?_
      refine V_goto (tgt := 31) hX dX8_preachedRefusal_27 (by decide) ?_
      refine V_iret hX rfl dX8_preachedRefusal_31 ?_
      exact hR _ _ (by rw [show preR S L = _ from (if_pos (Decidable.not_not.mp c7)).trans (if_pos (by omega))] at hQ; exact hQ)
  · refine V_bipush (v := (-5)) hX dX8_preachedRefusal_10 (by decide) ?_
    refine V_iret hX rfl dX8_preachedRefusal_12 ?_
    exact hR _ _ (by rw [show preR S L = -5 from if_neg c7] at hQ; exact hQ)
set_option maxRecDepth 100000 in
set_option maxHeartbeats 4000000 in
theorem kC_preached {G : VG} {d : Nat} {μ : VS} {Q : Option Value → VS → Prop} {P : PC} {L : Nat} {S κ : Nat → Nat} {I : Nat → PC} {q_ : Int32} (hRC : RC μ P L S κ I) (hok : okP P) (hpd : okPad L S) (hQ : ∀ μ', RC μ' P L S κ I → keepM μ μ' → Q (some (.int (preS P L S q_))) μ') : Call G (d + 14) yX8_preached cX8_preached 3 (some .int) [.ref 0, .int q_] μ Q := by
  intro X hX hR
  have hP := hRC.1
  have hL := hRC.2.1
  have hS := hpd.2
  have hL60 := hpd.1
  have hP4 := hok.2.2.2.2.1
  show V G 3 X 0 [(0, .ref 0), (1, .int q_)] [] μ
  refine V_aload_n hX dX8_preached_0 0 rfl ?_
  refine V_callV (As := []) (st := []) hX mX8_206 rfl (k_pref hRC hok hpd ?_) rfl (Nat.le_of_ble_eq_true rfl) (Nat.le_of_ble_eq_true rfl) dX8_preached_1
  show V G 3 X 4 [(0, .ref 0), (1, .int q_)] [.int (preR S L)] μ
  refine V_istore_n (ls' := [(0, .ref 0), (1, .int q_), (2, .int (preR S L))]) hX dX8_preached_4 (by decide) rfl ?_
  refine V_iload_n hX dX8_preached_5 2 rfl ?_
  refine V_if_eq (tgt := 11) hX dX8_preached_6 (by decide) (fun c6 => ?_) (fun c6 => ?_)
  · obtain ⟨hf, hL6⟩ := preR_0 c6
    have hgS : sgs S L := flt_all L hf (by omega)
    refine V_aload_n hX dX8_preached_11 0 rfl ?_
    refine V_getr (j := 60) hX fX8_50 rfl rfl dX8_preached_12 ?_
    refine V_aload_n hX dX8_preached_15 0 rfl ?_
    refine V_getr (j := 1) hX fX8_10 rfl rfl dX8_preached_16 ?_
    refine V_aload_n hX dX8_preached_19 0 rfl ?_
    refine V_getr (j := 31) hX fX8_30 rfl rfl dX8_preached_20 ?_
    refine V_aload_n hX dX8_preached_23 0 rfl ?_
    refine V_getr (j := 33) hX fX8_36 rfl rfl dX8_preached_24 ?_
    refine V_callV (As := [.ref 1, .ref 31, .ref 33]) (st := []) hX mX8_209 rfl (k_find hRC hok hpd hgS hL6 (fun μ2 a2 l2 r2 => ?_)) rfl (Nat.le_of_ble_eq_true rfl) (Nat.le_of_ble_eq_true rfl) dX8_preached_27
    show V G 3 X 30 [(0, .ref 0), (1, .int q_), (2, .int (preR S L))] [] μ2
    have hRC2 : RC μ2 P L S κ I := hRC.frame (fun a ha => a2 a (by omega))
    have hkM : keepM μ μ2 := fun a ha => a2 a (by omega)
    refine V_iload_n hX dX8_preached_30 1 rfl ?_
    refine V_iconst (v := (-1)) hX dX8_preached_31 (by decide) ?_
    refine V_icmp_ne (tgt := 45) hX dX8_preached_32 (by decide) (fun c32 => ?_) (fun c32 => ?_)
    · refine V_aload_n hX dX8_preached_45 0 rfl ?_
      refine V_getr (j := 60) hX fX8_50 rfl rfl dX8_preached_46 ?_
      refine V_iload_n hX dX8_preached_49 1 rfl ?_
      refine V_callV (As := [.int q_]) (st := []) hX mX8_215 rfl (k_sof (P := P) (S := S) hL6 l2 r2 ?_) rfl (Nat.le_of_ble_eq_true rfl) (Nat.le_of_ble_eq_true rfl) dX8_preached_50
      show V G 3 X 53 [(0, .ref 0), (1, .int q_), (2, .int (preR S L))] [.int (if 0 < (fitO P L S).1 ∧ inM q_ L then nI ((fitO P L S).2.2 q_.toNatClampNeg) else -6)] μ2
      refine V_iret hX rfl dX8_preached_53 ?_
      have h9 := hQ μ2
      rw [show preS P L S q_ = _ from (if_pos hf).trans ((if_neg (by omega)).trans (if_neg c32))] at h9
      exact hR _ _ (h9 hRC2 hkM)
    · refine V_aload_n hX dX8_preached_35 0 rfl ?_
      refine V_getr (j := 60) hX fX8_50 rfl rfl dX8_preached_36 ?_
      refine V_getN (x := nI ((fitO P L S).1)) hX fX8_212 rfl r2.1 dX8_preached_39 ?_
      refine V_goto (tgt := 53) hX dX8_preached_42 (by decide) ?_
      refine V_iret hX rfl dX8_preached_53 ?_
      have h9 := hQ μ2
      rw [show preS P L S q_ = _ from (if_pos hf).trans ((if_neg (by omega)).trans (if_pos c32))] at h9
      exact hR _ _ (h9 hRC2 hkM)
  · refine V_iload_n hX dX8_preached_9 2 rfl ?_
    refine V_iret hX rfl dX8_preached_10 ?_
    have h9 := hQ μ
    rw [(preR_n c6).1] at h9
    exact hR _ _ (h9 hRC (keepM.rf μ))
set_option maxRecDepth 100000 in
set_option maxHeartbeats 4000000 in
theorem kC_surely {G : VG} {d : Nat} {μ : VS} {Q : Option Value → VS → Prop} {P : PC} {L : Nat} {S κ : Nat → Nat} {I : Nat → PC} (hRC : RC μ P L S κ I) (hok : okP P) (hpd : okPad L S) (hQ : ∀ μ', RC μ' P L S κ I → keepM μ μ' → Q (some (.int (surS P L S))) μ') : Call G (d + 14) yX8_surely cX8_surely 2 (some .int) [.ref 0] μ Q := by
  intro X hX hR
  have hP := hRC.1
  have hL := hRC.2.1
  have hS := hpd.2
  have hL60 := hpd.1
  have hP4 := hok.2.2.2.2.1
  show V G 2 X 0 [(0, .ref 0)] [] μ
  refine V_aload_n hX dX8_surely_0 0 rfl ?_
  refine V_callV (As := []) (st := []) hX mX8_206 rfl (k_pref hRC hok hpd ?_) rfl (Nat.le_of_ble_eq_true rfl) (Nat.le_of_ble_eq_true rfl) dX8_surely_1
  show V G 2 X 4 [(0, .ref 0)] [.int (preR S L)] μ
  refine V_istore_n (ls' := [(0, .ref 0), (1, .int (preR S L))]) hX dX8_surely_4 (by decide) rfl ?_
  refine V_iload_n hX dX8_surely_5 1 rfl ?_
  refine V_if_eq (tgt := 11) hX dX8_surely_6 (by decide) (fun c6 => ?_) (fun c6 => ?_)
  · obtain ⟨hf, hL6⟩ := preR_0 c6
    have hgS : sgs S L := flt_all L hf (by omega)
    refine V_aload_n hX dX8_surely_11 0 rfl ?_
    refine V_getr (j := 60) hX fX8_50 rfl rfl dX8_surely_12 ?_
    refine V_aload_n hX dX8_surely_15 0 rfl ?_
    refine V_getr (j := 1) hX fX8_10 rfl rfl dX8_surely_16 ?_
    refine V_aload_n hX dX8_surely_19 0 rfl ?_
    refine V_getr (j := 31) hX fX8_30 rfl rfl dX8_surely_20 ?_
    refine V_aload_n hX dX8_surely_23 0 rfl ?_
    refine V_getr (j := 33) hX fX8_36 rfl rfl dX8_surely_24 ?_
    refine V_callV (As := [.ref 1, .ref 31, .ref 33]) (st := []) hX mX8_209 rfl (k_find hRC hok hpd hgS hL6 (fun μ2 a2 l2 r2 => ?_)) rfl (Nat.le_of_ble_eq_true rfl) (Nat.le_of_ble_eq_true rfl) dX8_surely_27
    show V G 2 X 30 [(0, .ref 0), (1, .int (preR S L))] [] μ2
    have hRC2 : RC μ2 P L S κ I := hRC.frame (fun a ha => a2 a (by omega))
    have hkM : keepM μ μ2 := fun a ha => a2 a (by omega)
    refine V_aload_n hX dX8_surely_30 0 rfl ?_
    refine V_getr (j := 60) hX fX8_50 rfl rfl dX8_surely_31 ?_
    refine V_getN (x := nI (if (fitO P L S).1 = 0 then 0 else sm (fun i => i) (fitO P L S).2.1 L)) hX fX8_218 rfl r2.2.1 dX8_surely_34 ?_
    refine V_iret hX rfl dX8_surely_37 ?_
    have h9 := hQ μ2
    rw [show surS P L S = _ from (if_pos hf).trans (if_neg (by omega))] at h9
    exact hR _ _ (h9 hRC2 hkM)
  · refine V_iload_n hX dX8_surely_9 1 rfl ?_
    refine V_iret hX rfl dX8_surely_10 ?_
    have h9 := hQ μ
    rw [(preR_n (q := 0) c6).2] at h9
    exact hR _ _ (h9 hRC (keepM.rf μ))
