theorem cw_le {P : PC} {S : Nat → Nat} {t b : Nat} (ht : t ≤ 10) {f : MW → Nat} (hf : ∀ u m, u.2.2.2 7 ≤ 8 * m → m ≤ b → f u ≤ 8 * b + 1) : ∀ j m u w, m + j ≤ b → u.2.2.2 7 ≤ 8 * m → cw P S t f j m u w ≤ w * 10 ^ j * (8 * b + 1)
  | 0, m, u, w, hm, hu => by
    unfold cw
    rw [Nat.pow_zero, Nat.mul_one]
    exact Nat.mul_le_mul (Nat.le_refl _) (hf u m hu (by omega))
  | j + 1, m, u, w, hm, hu => by
    unfold cw
    have h1 := cw_le ht hf (P := P) (S := S) j (m + 1) (mwStep P (S m) true u) (w * t) (by omega) (step7 hu)
    have h2 := cw_le ht hf (P := P) (S := S) j (m + 1) (mwStep P (S m) false u) (w * (10 - t)) (by omega) (step7 hu)
    have h3 : w * t * 10 ^ j * (8 * b + 1) + w * (10 - t) * 10 ^ j * (8 * b + 1) = w * 10 ^ (j + 1) * (8 * b + 1) := by
      rw [← Nat.add_mul, ← Nat.add_mul, ← Nat.mul_add, show t + (10 - t) = 10 by omega, Nat.pow_succ, Nat.mul_assoc w 10, Nat.mul_comm 10]
    omega
theorem clF_le (w : Nat) : ∀ (u : MW) (m : Nat), u.2.2.2 7 ≤ 8 * m → m ≤ 10 → clF w u ≤ 8 * 10 + 1 := fun u m hu hm => by
  unfold clF
  split
  · unfold fA; split <;> omega
  · unfold fB; omega
theorem clU_lt {P : PC} {L : Nat} {S : Nat → Nat} {t : Nat} (ht : t ≤ 10) (hL : L ≤ 10) (w : Nat) : clU P L S t w < 2 ^ 63 := by
  have h := cw_le (P := P) (S := S) (b := 10) ht (f := clF w) (clF_le w) L 0 (mw0 P) 1 (by omega) (Nat.zero_le _)
  have h2 : 1 * 10 ^ L * (8 * 10 + 1) ≤ 1 * 10 ^ 10 * (8 * 10 + 1) := Nat.mul_le_mul (Nat.mul_le_mul (Nat.le_refl _) (Nat.pow_le_pow_right (by decide) hL)) (Nat.le_refl _)
  unfold clU
  exact Nat.lt_of_le_of_lt (Nat.le_trans h h2) (by decide)
theorem low_lt {L : Nat} (hL : L ≤ 10) : 10 ^ L < 2 ^ 63 := Nat.lt_of_le_of_lt (Nat.pow_le_pow_right (by decide) hL) (by decide)
theorem low_pos {L : Nat} : 0 < 10 ^ L := Nat.pow_pos (by decide)
set_option maxRecDepth 100000 in
set_option maxHeartbeats 4000000 in
theorem lpC_weigh {G : VG} {d : Nat} {μ : VS} {X : VX} {L t_ : Nat} {S : Nat → Nat} (hX : Cx G d yX7_weigh cX7_weigh 6 none X) (hL : isPad μ L S) (hL10 : L ≤ 10) (hF : ∀ μ1 : VS, (μ1.1 = μ.1 ∧ μ1.2 64 0 = lgN 0 ∧ μ1.2 64 1 = lgN 0 ∧ μ1.2 64 2 = lgN (10 ^ L)) → V G 6 X 58 [(0, .ref 64), (1, .ref 1), (2, .ref 31), (3, .ref 33), (4, .int (nI t_)), (5, .int (nI L))] [] μ1) : ∀ (j k_ : Nat) (μ1 : VS), k_ ≤ L → L + 1 ≤ k_ + j → (μ1.1 = μ.1 ∧ μ1.2 64 0 = lgN 0 ∧ μ1.2 64 1 = lgN 0 ∧ μ1.2 64 2 = lgN (10 ^ k_)) → V G 6 X 24 [(0, .ref 64), (1, .ref 1), (2, .ref 31), (3, .ref 33), (4, .int (nI t_)), (5, .int (nI k_))] [] μ1 := by
  intro j
  induction j with
  | zero =>
    intro k_ μ1 h1 h2
    exact absurd h2 (by omega)
  | succ j ih =>
    intro k_ μ1 h1 h2 hV
    refine V_iload hX dX7_weigh_24 5 rfl ?_
    refine V_aload_n hX dX7_weigh_26 2 rfl ?_
    refine V_getN (x := nI L) hX fX7_25 rfl (by rw [hV.1]; exact hL.1) dX7_weigh_27 ?_
    refine V_icmp_geN (tgt := 58) hX dX7_weigh_30 (by decide) (by omega) (by omega) (fun c30 => ?_) (fun c30 => ?_)
    · obtain rfl : k_ = L := by omega
      exact hF μ1 hV
    · refine V_iload hX dX7_weigh_33 5 rfl ?_
      refine V_bipush (v := nI 10) hX dX7_weigh_35 (by decide) ?_
      refine V_icmp_geN (tgt := 58) hX dX7_weigh_37 (by decide) (by omega) (by omega) (fun c37 => ?_) (fun c37 => ?_)
      · obtain rfl : k_ = L := by omega
        exact hF μ1 hV
      · refine V_aload_n hX dX7_weigh_40 0 rfl ?_
        refine V_dup hX dX7_weigh_41 rfl ?_
        refine V_getlN (x := lgN (10 ^ k_)) hX fX7_18 rfl hV.2.2.2 dX7_weigh_42 ?_
        refine V_ldc2 hX kX7_30 dX7_weigh_45 ?_
        show V G 6 X 48 [(0, .ref 64), (1, .ref 1), (2, .ref 31), (3, .ref 33), (4, .int (nI t_)), (5, .int (nI k_))] [.long (lgN 10), .long (lgN (10 ^ k_)), .ref 64] μ1
        refine V_lmulN hX dX7_weigh_48 ?_
        refine V_putl hX fX7_18 fw_6_2 rfl dX7_weigh_49 ?_
        show V G 6 X 52 [(0, .ref 64), (1, .ref 1), (2, .ref 31), (3, .ref 33), (4, .int (nI t_)), (5, .int (nI k_))] [] (μ1.1, vup μ1.2 64 2 (lgN ((10 ^ k_) * 10)))
        refine V_iincN (n := 1) (ls' := [(0, .ref 64), (1, .ref 1), (2, .ref 31), (3, .ref 33), (4, .int (nI t_)), (5, .int (nI (k_ + 1)))]) hX dX7_weigh_52 5 rfl (by decide) rfl ?_
        refine V_goto (tgt := 24) hX dX7_weigh_55 (by decide) ?_
        exact ih (k_ + 1) _ (by omega) (by omega) ⟨hV.1, hV.2.1, hV.2.2.1, by rw [Nat.pow_succ]; rfl⟩
set_option maxRecDepth 100000 in
set_option maxHeartbeats 4000000 in
theorem k_weigh {G : VG} {d : Nat} {μ : VS} {Q : Option Value → VS → Prop} {P : PC} {L : Nat} {S κ : Nat → Nat} {I : Nat → PC} {t_ : Nat} (hRC : RC μ P L S κ I) (hok : okP P) (hpd : okPad L S) (hL10 : L ≤ 10) (ht : t_ ≤ 10) (hQ : ∀ μ', RC μ' P L S κ I → keepM μ μ' → μ'.2 64 0 = lgN (clU P L S t_ 0) → μ'.2 64 1 = lgN (clU P L S t_ 1) → μ'.2 64 2 = lgN (10 ^ L) → Q none μ') : Call G (d + 15) yX7_weigh cX7_weigh 6 none [.ref 64, .ref 1, .ref 31, .ref 33, .int (nI t_)] μ Q := by
  intro X hX hR
  have hP := hRC.1
  have hL := hRC.2.1
  have hS := hpd.2
  have hL60 := hpd.1
  have hP4 := hok.2.2.2.2.1
  show V G 6 X 0 [(0, .ref 64), (1, .ref 1), (2, .ref 31), (3, .ref 33), (4, .int (nI t_))] [] μ
  refine V_aload_n hX dX7_weigh_0 0 rfl ?_
  refine V_iload hX dX7_weigh_1 4 rfl ?_
  refine V_puti hX fX7_21 fw_6_3 rfl dX7_weigh_3 ?_
  show V G 6 X 6 [(0, .ref 64), (1, .ref 1), (2, .ref 31), (3, .ref 33), (4, .int (nI t_))] [] (vup μ.1 64 3 (nI t_), μ.2)
  refine V_aload_n hX dX7_weigh_6 0 rfl ?_
  refine V_lconst (v := lgN 0) hX dX7_weigh_7 (by decide) ?_
  refine V_putl hX fX7_9 fw_6_0 rfl dX7_weigh_8 ?_
  show V G 6 X 11 [(0, .ref 64), (1, .ref 1), (2, .ref 31), (3, .ref 33), (4, .int (nI t_))] [] (vup μ.1 64 3 (nI t_), vup μ.2 64 0 (lgN 0))
  refine V_aload_n hX dX7_weigh_11 0 rfl ?_
  refine V_lconst (v := lgN 0) hX dX7_weigh_12 (by decide) ?_
  refine V_putl hX fX7_15 fw_6_1 rfl dX7_weigh_13 ?_
  show V G 6 X 16 [(0, .ref 64), (1, .ref 1), (2, .ref 31), (3, .ref 33), (4, .int (nI t_))] [] (vup μ.1 64 3 (nI t_), vup (vup μ.2 64 0 (lgN 0)) 64 1 (lgN 0))
  refine V_aload_n hX dX7_weigh_16 0 rfl ?_
  refine V_lconst (v := lgN 1) hX dX7_weigh_17 (by decide) ?_
  refine V_putl hX fX7_18 fw_6_2 rfl dX7_weigh_18 ?_
  show V G 6 X 21 [(0, .ref 64), (1, .ref 1), (2, .ref 31), (3, .ref 33), (4, .int (nI t_))] [] (vup μ.1 64 3 (nI t_), vup (vup (vup μ.2 64 0 (lgN 0)) 64 1 (lgN 0)) 64 2 (lgN 1))
  refine V_iconst (v := nI 0) hX dX7_weigh_21 (by decide) ?_
  refine V_istore (ls' := [(0, .ref 64), (1, .ref 1), (2, .ref 31), (3, .ref 33), (4, .int (nI t_)), (5, .int (nI 0))]) hX dX7_weigh_22 (by decide) rfl ?_
  have hL0 : isPad (vup μ.1 64 3 (nI t_), vup (vup (vup μ.2 64 0 (lgN 0)) 64 1 (lgN 0)) 64 2 (lgN 1)) L S := ⟨hL.1, hL.2⟩
  refine lpC_weigh (μ := (vup μ.1 64 3 (nI t_), vup (vup (vup μ.2 64 0 (lgN 0)) 64 1 (lgN 0)) 64 2 (lgN 1))) hX hL0 hL10 (fun μ1 hV => ?_) (L + 1) 0 _ (by omega) (by omega) ⟨rfl, rfl, rfl, rfl⟩
  have hR1 : RC μ1 P L S κ I := hRC.frame (fun a ha => by rw [hV.1]; dsimp only; rw [vup_row _ _ _ (by omega)])
  have hM1 : keepM μ μ1 := fun a ha => by rw [hV.1]; dsimp only; rw [vup_row _ _ _ (by omega)]
  have hc1 : μ1.1 64 3 = nI t_ := by rw [hV.1]; rfl
  refine V_aload_n hX dX7_weigh_58 3 rfl ?_
  refine V_iconst (v := nI 0) hX dX7_weigh_59 (by decide) ?_
  refine V_waldN (r := 34) hX rfl (by omega) (by decide) rfl dX7_weigh_60 ?_
  refine V_aload_n hX dX7_weigh_61 1 rfl ?_
  refine V_callV (As := [.ref 1]) (st := []) hX mX7_32 rfl (k_begin rfl rfl hR1.1 (fun μ2 a2 b2 d2 => ?_)) rfl (Nat.le_of_ble_eq_true rfl) (Nat.le_of_ble_eq_true rfl) dX7_weigh_62
  show V G 6 X 65 [(0, .ref 64), (1, .ref 1), (2, .ref 31), (3, .ref 33), (4, .int (nI t_)), (5, .int (nI L))] [] μ2
  have hR2 : RC μ2 P L S κ I := hR1.frame (fun a ha => a2 a (by omega) (by omega))
  have hM2 : keepM μ μ2 := hM1.tr (fun a ha => a2 a (by omega) (by omega))
  refine V_aload_n hX dX7_weigh_65 0 rfl ?_
  refine V_aload_n hX dX7_weigh_66 1 rfl ?_
  refine V_aload_n hX dX7_weigh_67 2 rfl ?_
  refine V_aload_n hX dX7_weigh_68 3 rfl ?_
  refine V_iconst (v := nI 0) hX dX7_weigh_69 (by decide) ?_
  refine V_lconst (v := lgN 1) hX dX7_weigh_70 (by decide) ?_
  refine V_callV (As := [.ref 1, .ref 31, .ref 33, .int (nI 0), .long (lgN 1)]) (st := []) hX mX7_38 rfl (Call.more (show d + L + 4 ≤ d + 14 by omega) (k_wgo (P := P) (L := L) (S := S) (κ := κ) (I := I) hok hpd hL10 ht L 0 (mw0 P) 1 0 0 (Nat.le_refl _) (Nat.zero_le _) (by omega) (mw0_ok hok) hR2 b2 (by rw [a2 64 (by decide) (by decide)]; exact hc1) (by rw [d2]; exact hV.2.1) (by rw [d2]; exact hV.2.2.1) (fun μ3 g3 => ?_))) rfl (Nat.le_of_ble_eq_true rfl) (Nat.le_of_ble_eq_true rfl) dX7_weigh_71
  show V G 6 X 74 [(0, .ref 64), (1, .ref 1), (2, .ref 31), (3, .ref 33), (4, .int (nI t_)), (5, .int (nI L))] [] μ3
  refine V_vret hX rfl dX7_weigh_74 ?_
  exact hR _ _ (hQ μ3 (hR2.frame (fun a ha => g3.1 a (by omega))) (hM2.tr (fun a ha => g3.1 a (by omega))) (by rw [g3.2.1, Nat.zero_add]; rfl) (by rw [g3.2.2.1, Nat.zero_add]; rfl) (by rw [g3.2.2.2, d2]; exact hV.2.2.2))
set_option maxRecDepth 100000 in
set_option maxHeartbeats 4000000 in
theorem kC_cold {G : VG} {d : Nat} {μ : VS} {Q : Option Value → VS → Prop} {P : PC} {L : Nat} {S κ : Nat → Nat} {I : Nat → PC} {t_ w_ q_ : Int32} (hRC : RC μ P L S κ I) (hok : okP P) (hpd : okPad L S) (hQ : ∀ μ', RC μ' P L S κ I → keepM μ μ' → Q (some (.long (coldS P L S t_ w_ q_))) μ') : Call G (d + 16) yX8_cold cX8_cold 4 (some .long) [.ref 0, .int t_, .int w_, .int q_] μ Q := by
  intro X hX hR
  have hP := hRC.1
  have hL := hRC.2.1
  have hS := hpd.2
  have hL60 := hpd.1
  have hP4 := hok.2.2.2.2.1
  show V G 4 X 0 [(0, .ref 0), (1, .int t_), (2, .int w_), (3, .int q_)] [] μ
  refine V_iload_n hX dX8_cold_0 1 rfl ?_
  refine V_iconst (v := nI 0) hX dX8_cold_1 (by decide) ?_
  refine V_bipush (v := nI 10) hX dX8_cold_2 (by decide) ?_
  refine V_callS (As := [.int t_, .int (nI 0), .int (nI 10)]) (st := []) hX mX8_73 (k_isOutside ?_) rfl (Nat.le_of_ble_eq_true rfl) (Nat.le_of_ble_eq_true rfl) dX8_cold_4
  show V G 4 X 7 [(0, .ref 0), (1, .int t_), (2, .int w_), (3, .int q_)] [.int (bI (t_ < nI 0 ∨ nI 10 < t_))] μ
  refine V_if_neB (tgt := 28) hX dX8_cold_7 (by decide) (fun c7 => ?_) (fun c7 => ?_)
  · refine V_ldc2 hX kX8_244 dX8_cold_28 ?_
    refine V_lret hX rfl dX8_cold_31 ?_
    have h9 := hQ μ
    rw [show coldS P L S t_ w_ q_ = _ from if_neg (fun z => not_in_of_out c7 z.1)] at h9
    exact hR _ _ (h9 hRC (keepM.rf μ))
  · refine V_iload_n hX dX8_cold_10 2 rfl ?_
    refine V_iconst (v := nI 0) hX dX8_cold_11 (by decide) ?_
    refine V_iconst (v := nI 1) hX dX8_cold_12 (by decide) ?_
    refine V_callS (As := [.int w_, .int (nI 0), .int (nI 1)]) (st := []) hX mX8_73 (k_isOutside ?_) rfl (Nat.le_of_ble_eq_true rfl) (Nat.le_of_ble_eq_true rfl) dX8_cold_13
    show V G 4 X 16 [(0, .ref 0), (1, .int t_), (2, .int w_), (3, .int q_)] [.int (bI (w_ < nI 0 ∨ nI 1 < w_))] μ
    refine V_if_neB (tgt := 28) hX dX8_cold_16 (by decide) (fun c16 => ?_) (fun c16 => ?_)
    · refine V_ldc2 hX kX8_244 dX8_cold_28 ?_
      refine V_lret hX rfl dX8_cold_31 ?_
      have h9 := hQ μ
      rw [show coldS P L S t_ w_ q_ = _ from if_neg (fun z => not_in_of_out c16 z.2.1)] at h9
      exact hR _ _ (h9 hRC (keepM.rf μ))
    · refine V_iload_n hX dX8_cold_19 3 rfl ?_
      refine V_iconst (v := nI 0) hX dX8_cold_20 (by decide) ?_
      refine V_iconst (v := nI 1) hX dX8_cold_21 (by decide) ?_
      refine V_callS (As := [.int q_, .int (nI 0), .int (nI 1)]) (st := []) hX mX8_73 (k_isOutside ?_) rfl (Nat.le_of_ble_eq_true rfl) (Nat.le_of_ble_eq_true rfl) dX8_cold_22
      show V G 4 X 25 [(0, .ref 0), (1, .int t_), (2, .int w_), (3, .int q_)] [.int (bI (q_ < nI 0 ∨ nI 1 < q_))] μ
      refine V_if_eqB (tgt := 32) hX dX8_cold_25 (by decide) (fun c25 => ?_) (fun c25 => ?_)
      · obtain ⟨k_, hk0, hk1, rfl⟩ := nat_of_out (by decide) (by decide) c7
        obtain ⟨b_, hb0, hb1, rfl⟩ := nat_of_out (by decide) (by decide) c16
        obtain ⟨e_, he0, he1, rfl⟩ := nat_of_out (by decide) (by decide) c25
        refine V_aload_n hX dX8_cold_32 0 rfl ?_
        refine V_getr (j := 31) hX fX8_30 rfl rfl dX8_cold_33 ?_
        refine V_callV (As := []) (st := []) hX mX8_137 rfl (kC_hasFault hL hS hL60 ?_) rfl (Nat.le_of_ble_eq_true rfl) (Nat.le_of_ble_eq_true rfl) dX8_cold_36
        show V G 4 X 39 [(0, .ref 0), (1, .int (nI k_)), (2, .int (nI b_)), (3, .int (nI e_))] [.int (bI (¬ fltU S L = -6))] μ
        refine V_if_eqB (tgt := 46) hX dX8_cold_39 (by decide) (fun c39 => ?_) (fun c39 => ?_)
        · refine V_aload_n hX dX8_cold_46 0 rfl ?_
          refine V_getr (j := 31) hX fX8_30 rfl rfl dX8_cold_47 ?_
          refine V_getN (x := nI L) hX fX8_128 rfl hL.1 dX8_cold_50 ?_
          refine V_bipush (v := nI 10) hX dX8_cold_53 (by decide) ?_
          refine V_icmp_leN (tgt := 62) hX dX8_cold_55 (by decide) (by omega) (by omega) (fun c55 => ?_) (fun c55 => ?_)
          · refine V_aload_n hX dX8_cold_62 0 rfl ?_
            refine V_getr (j := 64) hX fX8_57 rfl rfl dX8_cold_63 ?_
            refine V_aload_n hX dX8_cold_66 0 rfl ?_
            refine V_getr (j := 1) hX fX8_10 rfl rfl dX8_cold_67 ?_
            refine V_aload_n hX dX8_cold_70 0 rfl ?_
            refine V_getr (j := 31) hX fX8_30 rfl rfl dX8_cold_71 ?_
            refine V_aload_n hX dX8_cold_74 0 rfl ?_
            refine V_getr (j := 33) hX fX8_36 rfl rfl dX8_cold_75 ?_
            refine V_iload_n hX dX8_cold_78 1 rfl ?_
            refine V_callV (As := [.ref 1, .ref 31, .ref 33, .int (nI k_)]) (st := []) hX mX8_250 rfl (k_weigh hRC hok hpd (by omega) (by omega) (fun μ2 hRC2 hkM z0 z1 z2 => ?_)) rfl (Nat.le_of_ble_eq_true rfl) (Nat.le_of_ble_eq_true rfl) dX8_cold_79
            show V G 4 X 82 [(0, .ref 0), (1, .int (nI k_)), (2, .int (nI b_)), (3, .int (nI e_))] [] μ2
            refine V_iload_n hX dX8_cold_82 2 rfl ?_
            refine V_if_neN (tgt := 96) hX dX8_cold_83 (by decide) (by omega) (fun c83 => ?_) (fun c83 => ?_)
            · refine V_aload_n hX dX8_cold_96 0 rfl ?_
              refine V_getr (j := 64) hX fX8_57 rfl rfl dX8_cold_97 ?_
              refine V_getlN (x := lgN (clU P L S k_ 1)) hX fX8_258 rfl z1 dX8_cold_100 ?_
              refine V_aload_n hX dX8_cold_103 0 rfl ?_
              refine V_getr (j := 64) hX fX8_57 rfl rfl dX8_cold_104 ?_
              refine V_getlN (x := lgN (10 ^ L)) hX fX8_261 rfl z2 dX8_cold_107 ?_
              refine V_iload_n hX dX8_cold_110 3 rfl ?_
              refine V_callS (As := [.long (lgN (clU P L S k_ 1)), .long (lgN (10 ^ L)), .int (nI e_)]) (st := []) hX mX8_264 (k_lowest (by omega) (clU_lt (by omega) (by omega) 1) (low_lt (by omega)) low_pos ?_) rfl (Nat.le_of_ble_eq_true rfl) (Nat.le_of_ble_eq_true rfl) dX8_cold_111
              show V G 4 X 114 [(0, .ref 0), (1, .int (nI k_)), (2, .int (nI b_)), (3, .int (nI e_))] [.long (lgN (coldV (clU P L S k_ 1) (10 ^ L) e_))] μ2
              refine V_lret hX rfl dX8_cold_114 ?_
              obtain rfl : b_ = 1 := by omega
              have h9 := hQ μ2
              rw [show coldS P L S (nI k_) (nI 1) (nI e_) = _ from (if_pos ⟨in_of_not_out c7, in_of_not_out c16, in_of_not_out c25⟩).trans ((if_pos (Decidable.not_not.mp c39)).trans (if_neg (by omega)))] at h9
              rw [nI_clamp (by omega), nI_clamp (by omega), nI_clamp (by omega)] at h9
              exact hR _ _ (h9 hRC2 hkM)
            · refine V_aload_n hX dX8_cold_86 0 rfl ?_
              refine V_getr (j := 64) hX fX8_57 rfl rfl dX8_cold_87 ?_
              refine V_getlN (x := lgN (clU P L S k_ 0)) hX fX8_254 rfl z0 dX8_cold_90 ?_
              refine V_goto (tgt := 103) hX dX8_cold_93 (by decide) ?_
              refine V_aload_n hX dX8_cold_103 0 rfl ?_
              refine V_getr (j := 64) hX fX8_57 rfl rfl dX8_cold_104 ?_
              refine V_getlN (x := lgN (10 ^ L)) hX fX8_261 rfl z2 dX8_cold_107 ?_
              refine V_iload_n hX dX8_cold_110 3 rfl ?_
              refine V_callS (As := [.long (lgN (clU P L S k_ 0)), .long (lgN (10 ^ L)), .int (nI e_)]) (st := []) hX mX8_264 (k_lowest (by omega) (clU_lt (by omega) (by omega) 0) (low_lt (by omega)) low_pos ?_) rfl (Nat.le_of_ble_eq_true rfl) (Nat.le_of_ble_eq_true rfl) dX8_cold_111
              show V G 4 X 114 [(0, .ref 0), (1, .int (nI k_)), (2, .int (nI b_)), (3, .int (nI e_))] [.long (lgN (coldV (clU P L S k_ 0) (10 ^ L) e_))] μ2
              refine V_lret hX rfl dX8_cold_114 ?_
              obtain rfl : b_ = 0 := by omega
              have h9 := hQ μ2
              rw [show coldS P L S (nI k_) (nI 0) (nI e_) = _ from (if_pos ⟨in_of_not_out c7, in_of_not_out c16, in_of_not_out c25⟩).trans ((if_pos (Decidable.not_not.mp c39)).trans (if_neg (by omega)))] at h9
              rw [nI_clamp (by omega), nI_clamp (by omega), nI_clamp (by omega)] at h9
              exact hR _ _ (h9 hRC2 hkM)
          · refine V_ldc2 hX kX8_248 dX8_cold_58 ?_
            refine V_lret hX rfl dX8_cold_61 ?_
            have h9 := hQ μ
            rw [show coldS P L S (nI k_) (nI b_) (nI e_) = _ from (if_pos ⟨in_of_not_out c7, in_of_not_out c16, in_of_not_out c25⟩).trans ((if_pos (Decidable.not_not.mp c39)).trans (if_pos c55))] at h9
            exact hR _ _ (h9 hRC (keepM.rf μ))
        · refine V_ldc2 hX kX8_246 dX8_cold_42 ?_
          refine V_lret hX rfl dX8_cold_45 ?_
          have h9 := hQ μ
          rw [show coldS P L S (nI k_) (nI b_) (nI e_) = _ from (if_pos ⟨in_of_not_out c7, in_of_not_out c16, in_of_not_out c25⟩).trans (if_neg c39)] at h9
          exact hR _ _ (h9 hRC (keepM.rf μ))
      · refine V_ldc2 hX kX8_244 dX8_cold_28 ?_
        refine V_lret hX rfl dX8_cold_31 ?_
        have h9 := hQ μ
        rw [show coldS P L S t_ w_ q_ = _ from if_neg (fun z => not_in_of_out c25 z.2.2)] at h9
        exact hR _ _ (h9 hRC (keepM.rf μ))
def rsum (g : Nat → Nat) : Nat → Nat
  | 0 => 0
  | n + 1 => rsum g n + g n
def ownN (t r : Nat) : Nat → Nat
  | 0 => 1
  | k + 1 => ownN t r k * (if r.testBit k = true then t else 10 - t)
theorem rsum_congr {f g : Nat → Nat} : ∀ n, (∀ i, i < n → f i = g i) → rsum f n = rsum g n
  | 0, _ => rfl
  | n + 1, h => by
    unfold rsum
    rw [rsum_congr n (fun i hi => h i (by omega)), h n (by omega)]
theorem rsum_add {f g : Nat → Nat} : ∀ n, rsum (fun i => f i + g i) n = rsum f n + rsum g n
  | 0 => rfl
  | n + 1 => by
    unfold rsum
    rw [rsum_add n]
    omega
theorem rsum_two {g : Nat → Nat} : ∀ n, rsum g (2 * n) = rsum (fun i => g (2 * i + 1)) n + rsum (fun i => g (2 * i)) n
  | 0 => rfl
  | n + 1 => by
    rw [show 2 * (n + 1) = 2 * n + 1 + 1 by omega]
    show rsum g (2 * n) + g (2 * n) + g (2 * n + 1) = (rsum _ n + g (2 * n + 1)) + (rsum _ n + g (2 * n))
    rw [rsum_two n]
    omega
theorem tb_odd0 (r : Nat) : (2 * r + 1).testBit 0 = true := by rw [Nat.testBit_zero]; simp
theorem tb_even0 (r : Nat) : (2 * r).testBit 0 = false := by rw [Nat.testBit_zero]; simp
theorem tb_oddS (r i : Nat) : (2 * r + 1).testBit (i + 1) = r.testBit i := by rw [Nat.testBit_add_one]; congr 1; omega
theorem tb_evenS (r i : Nat) : (2 * r).testBit (i + 1) = r.testBit i := by rw [Nat.testBit_add_one]; congr 1; omega
theorem own_odd {t r : Nat} : ∀ k, ownN t (2 * r + 1) (k + 1) = t * ownN t r k
  | 0 => by show 1 * (if _ then t else _) = t * 1; rw [if_pos (tb_odd0 r)]; omega
  | k + 1 => by
    show ownN t (2 * r + 1) (k + 1) * _ = t * (ownN t r k * _)
    rw [own_odd k, tb_oddS, Nat.mul_assoc]
theorem own_even {t r : Nat} : ∀ k, ownN t (2 * r) (k + 1) = (10 - t) * ownN t r k
  | 0 => by show 1 * (if _ then t else _) = (10 - t) * 1; rw [if_neg (by rw [tb_even0]; decide)]; omega
  | k + 1 => by
    show ownN t (2 * r) (k + 1) * _ = (10 - t) * (ownN t r k * _)
    rw [own_even k, tb_evenS, Nat.mul_assoc]
theorem mwR_first (P : PC) (S : Nat → Nat) (co : Nat → Bool) (u : MW) (j : Nat) : mwR P S co u (j + 1) = mwR P (fun i => S (1 + i)) (fun i => co (i + 1)) (mwStep P (S 0) (co 0) u) j := by
  have h := mwR_add P S co u 1 j
  rw [show j + 1 = 1 + j by omega, h]
  have e : (fun i => co (1 + i)) = (fun i => co (i + 1)) := funext (fun i => by rw [Nat.add_comm])
  rw [e]
  rfl
theorem cw_sum {P : PC} {S : Nat → Nat} {t : Nat} {f : MW → Nat} : ∀ j m u w, cw P S t f j m u w = rsum (fun r => w * ownN t r j * f (mwR P (fun i => S (m + i)) r.testBit u j)) (2 ^ j)
  | 0, m, u, w => by
    show w * f u = 0 + w * 1 * f u
    rw [Nat.mul_one, Nat.zero_add]
  | j + 1, m, u, w => by
    unfold cw
    rw [cw_sum j, cw_sum j, Nat.pow_succ, Nat.mul_comm (2 ^ j) 2, rsum_two]
    have hS : (fun i => S (m + 1 + i)) = (fun i => S (m + (1 + i))) := funext (fun i => by rw [Nat.add_assoc])
    congr 1
    · refine rsum_congr _ (fun r _ => ?_)
      rw [own_odd, mwR_first, tb_odd0, hS, show (fun i => (2 * r + 1).testBit (i + 1)) = r.testBit from funext (fun i => tb_oddS r i), Nat.mul_assoc w t, Nat.add_zero]
    · refine rsum_congr _ (fun r _ => ?_)
      rw [own_even, mwR_first, tb_even0, hS, show (fun i => (2 * r).testBit (i + 1)) = r.testBit from funext (fun i => tb_evenS r i), Nat.mul_assoc w (10 - t), Nat.add_zero]
def rwG (P : PC) (L : Nat) (S : Nat → Nat) (t w r : Nat) : Nat := ownN t r L * clF w (mwR P S r.testBit (mw0 P) L)
theorem clU_sum {P : PC} {L : Nat} {S : Nat → Nat} {t w : Nat} : clU P L S t w = rsum (rwG P L S t w) (2 ^ L) := by
  unfold clU
  rw [cw_sum]
  refine rsum_congr _ (fun r _ => ?_)
  unfold rwG
  rw [Nat.one_mul, show (fun i => S (0 + i)) = S from funext (fun i => by rw [Nat.zero_add])]
theorem gcd_st (x y : Nat) : Nat.gcd x y = Nat.gcd y (x % y) := by rw [Nat.gcd_comm x y, Nat.gcd_rec y x, Nat.gcd_comm]
set_option maxRecDepth 100000 in
set_option maxHeartbeats 4000000 in
theorem lpM_gcd {G : VG} {d : Nat} {μ : VS} {X : VX} {t_ b_ e_ up_ lw_ g_ : Nat} (hX : Cx G d yX9_cold cX9_cold 14 (some .long) X) (hF : ∀ y_ : Nat, V G 14 X 238 [(0, .ref 69), (1, .int (nI t_)), (2, .int (nI b_)), (3, .int (nI e_)), (4, .long (lgN up_)), (6, .long (lgN lw_)), (8, .long (lgN g_)), (10, .long (lgN y_))] [] μ) : ∀ (j x_ y_ : Nat), y_ ≤ j → x_ < 2 ^ 63 → y_ < 2 ^ 63 → Nat.gcd x_ y_ = g_ → V G 14 X 213 [(0, .ref 69), (1, .int (nI t_)), (2, .int (nI b_)), (3, .int (nI e_)), (4, .long (lgN up_)), (6, .long (lgN lw_)), (8, .long (lgN x_)), (10, .long (lgN y_))] [] μ := by
  intro j
  induction j with
  | zero =>
    intro x_ y_ h1 hx hy hg
    obtain rfl : y_ = 0 := by omega
    rw [Nat.gcd_zero_right] at hg
    subst hg
    refine V_lload hX dX9_cold_213 7 rfl ?_
    refine V_lconst (v := lgN 0) hX dX9_cold_215 (by decide) ?_
    refine V_lcmp hX dX9_cold_216 ?_
    refine V_if_eq (tgt := 238) hX dX9_cold_217 (by decide) (fun c217 => ?_) (fun c217 => ?_)
    · exact hF 0
    · exact absurd ((cmp0N hy).mpr rfl) c217
  | succ j ih =>
    intro x_ y_ h1 hx hy hg
    refine V_lload hX dX9_cold_213 7 rfl ?_
    refine V_lconst (v := lgN 0) hX dX9_cold_215 (by decide) ?_
    refine V_lcmp hX dX9_cold_216 ?_
    refine V_if_eq (tgt := 238) hX dX9_cold_217 (by decide) (fun c217 => ?_) (fun c217 => ?_)
    · obtain rfl := (cmp0N hy).mp c217
      rw [Nat.gcd_zero_right] at hg
      subst hg
      exact hF 0
    · refine V_lload hX dX9_cold_220 6 rfl ?_
      refine V_lload hX dX9_cold_222 7 rfl ?_
      refine V_lremN hX dX9_cold_224 ⟨hx, hy, Nat.pos_of_ne_zero (fun z => c217 ((cmp0N hy).mpr z))⟩ ?_
      refine V_lstore (ls' := [(0, .ref 69), (1, .int (nI t_)), (2, .int (nI b_)), (3, .int (nI e_)), (4, .long (lgN up_)), (6, .long (lgN lw_)), (8, .long (lgN x_)), (10, .long (lgN y_)), (12, .long (lgN (x_ % y_)))]) hX dX9_cold_225 (by decide) rfl ?_
      refine V_lload hX dX9_cold_227 7 rfl ?_
      refine V_lstore (ls' := [(0, .ref 69), (1, .int (nI t_)), (2, .int (nI b_)), (3, .int (nI e_)), (4, .long (lgN up_)), (6, .long (lgN lw_)), (8, .long (lgN y_)), (10, .long (lgN y_)), (12, .long (lgN (x_ % y_)))]) hX dX9_cold_229 (by decide) rfl ?_
      refine V_lload hX dX9_cold_231 8 rfl ?_
      refine V_lstore (ls' := [(0, .ref 69), (1, .int (nI t_)), (2, .int (nI b_)), (3, .int (nI e_)), (4, .long (lgN up_)), (6, .long (lgN lw_)), (8, .long (lgN y_)), (10, .long (lgN (x_ % y_))), (12, .long (lgN (x_ % y_)))]) hX dX9_cold_233 (by decide) rfl ?_
      refine V_goto (tgt := 213) hX dX9_cold_235 (by decide) ?_
      have hy0 : 0 < y_ := Nat.pos_of_ne_zero (fun z => c217 ((cmp0N hy).mpr z))
      have hm := Nat.mod_lt x_ hy0
      exact V_sub [0, 1, 2, 3, 4, 5, 6, 7] rfl (ih y_ (x_ % y_) (by omega) hy (by omega) (by rw [← gcd_st]; exact hg))
set_option maxRecDepth 100000 in
set_option maxHeartbeats 4000000 in
theorem lpM_own {G : VG} {d : Nat} {μ : VS} {X : VX} {L t_ b_ e_ up_ lw_ r_ : Nat} (hX : Cx G (d + 1) yX9_cold cX9_cold 14 (some .long) X) (hL : μ.1 69 12 = nI L) (hL10 : L ≤ 10) (ht : t_ ≤ 10) (hr : r_ < 2048) (hF : V G 14 X 148 [(0, .ref 69), (1, .int (nI t_)), (2, .int (nI b_)), (3, .int (nI e_)), (4, .long (lgN up_)), (6, .long (lgN lw_)), (8, .int (nI r_)), (9, .long (lgN (ownN t_ r_ L))), (11, .int (nI L))] [] μ) : ∀ (j k_ : Nat), k_ ≤ L → L + 1 ≤ k_ + j → V G 14 X 108 [(0, .ref 69), (1, .int (nI t_)), (2, .int (nI b_)), (3, .int (nI e_)), (4, .long (lgN up_)), (6, .long (lgN lw_)), (8, .int (nI r_)), (9, .long (lgN (ownN t_ r_ k_))), (11, .int (nI k_))] [] μ := by
  intro j
  induction j with
  | zero =>
    intro k_ h1 h2
    exact absurd h2 (by omega)
  | succ j ih =>
    intro k_ h1 h2
    refine V_iload hX dX9_cold_108 8 rfl ?_
    refine V_aload_n hX dX9_cold_110 0 rfl ?_
    refine V_getN (x := nI L) hX fX9_103 rfl hL dX9_cold_111 ?_
    refine V_icmp_geN (tgt := 148) hX dX9_cold_114 (by decide) (by omega) (by omega) (fun c114 => ?_) (fun c114 => ?_)
    · obtain rfl : k_ = L := by omega
      exact hF
    · refine V_lload hX dX9_cold_117 7 rfl ?_
      refine V_iload hX dX9_cold_119 6 rfl ?_
      refine V_iload hX dX9_cold_121 8 rfl ?_
      refine V_callS (As := [.int (nI r_), .int (nI k_)]) (st := [.long (lgN (ownN t_ r_ k_))]) hX mX9_79 (k_has (by omega) (by omega) ?_) rfl (Nat.le_of_ble_eq_true rfl) (Nat.le_of_ble_eq_true rfl) dX9_cold_123
      show V G 14 X 126 [(0, .ref 69), (1, .int (nI t_)), (2, .int (nI b_)), (3, .int (nI e_)), (4, .long (lgN up_)), (6, .long (lgN lw_)), (8, .int (nI r_)), (9, .long (lgN (ownN t_ r_ k_))), (11, .int (nI k_))] [.int (bI (r_.testBit k_ = true)), .long (lgN (ownN t_ r_ k_))] μ
      refine V_if_eqB (tgt := 134) hX dX9_cold_126 (by decide) (fun c126 => ?_) (fun c126 => ?_)
      · refine V_bipush (v := nI 10) hX dX9_cold_134 (by decide) ?_
        refine V_iload_n hX dX9_cold_136 1 rfl ?_
        refine V_isubN hX dX9_cold_137 (by omega) ?_
        refine V_i2lN hX dX9_cold_138 (by omega) ?_
        refine V_lmulN hX dX9_cold_139 ?_
        refine V_lstore (ls' := [(0, .ref 69), (1, .int (nI t_)), (2, .int (nI b_)), (3, .int (nI e_)), (4, .long (lgN up_)), (6, .long (lgN lw_)), (8, .int (nI r_)), (9, .long (lgN ((ownN t_ r_ k_) * (10 - t_)))), (11, .int (nI k_))]) hX dX9_cold_140 (by decide) rfl ?_
        refine V_iincN (n := 1) (ls' := [(0, .ref 69), (1, .int (nI t_)), (2, .int (nI b_)), (3, .int (nI e_)), (4, .long (lgN up_)), (6, .long (lgN lw_)), (8, .int (nI r_)), (9, .long (lgN ((ownN t_ r_ k_) * (10 - t_)))), (11, .int (nI (k_ + 1)))]) hX dX9_cold_142 8 rfl (by decide) rfl ?_
        refine V_goto (tgt := 108) hX dX9_cold_145 (by decide) ?_
        have h9 := ih (k_ + 1) (by omega) (by omega)
        rw [show ownN t_ r_ (k_ + 1) = (ownN t_ r_ k_) * (10 - t_) from congrArg (ownN t_ r_ k_ * ·) (if_neg c126)] at h9
        exact h9
      · refine V_iload_n hX dX9_cold_129 1 rfl ?_
        refine V_i2lN hX dX9_cold_130 (by omega) ?_
        refine V_goto (tgt := 139) hX dX9_cold_131 (by decide) ?_
        refine V_lmulN hX dX9_cold_139 ?_
        refine V_lstore (ls' := [(0, .ref 69), (1, .int (nI t_)), (2, .int (nI b_)), (3, .int (nI e_)), (4, .long (lgN up_)), (6, .long (lgN lw_)), (8, .int (nI r_)), (9, .long (lgN ((ownN t_ r_ k_) * t_))), (11, .int (nI k_))]) hX dX9_cold_140 (by decide) rfl ?_
        refine V_iincN (n := 1) (ls' := [(0, .ref 69), (1, .int (nI t_)), (2, .int (nI b_)), (3, .int (nI e_)), (4, .long (lgN up_)), (6, .long (lgN lw_)), (8, .int (nI r_)), (9, .long (lgN ((ownN t_ r_ k_) * t_))), (11, .int (nI (k_ + 1)))]) hX dX9_cold_142 8 rfl (by decide) rfl ?_
        refine V_goto (tgt := 108) hX dX9_cold_145 (by decide) ?_
        have h9 := ih (k_ + 1) (by omega) (by omega)
        rw [show ownN t_ r_ (k_ + 1) = (ownN t_ r_ k_) * t_ from congrArg (ownN t_ r_ k_ * ·) (if_pos c126)] at h9
        exact h9
set_option maxRecDepth 100000 in
set_option maxHeartbeats 4000000 in
theorem lpM_tens {G : VG} {d : Nat} {μ : VS} {X : VX} {L t_ b_ e_ : Nat} (hX : Cx G d yX9_cold cX9_cold 14 (some .long) X) (hL : μ.1 69 12 = nI L) (hL10 : L ≤ 10) (hF : V G 14 X 88 [(0, .ref 69), (1, .int (nI t_)), (2, .int (nI b_)), (3, .int (nI e_)), (4, .long (lgN 0)), (6, .long (lgN (10 ^ L))), (8, .int (nI L))] [] μ) : ∀ (j k_ : Nat), k_ ≤ L → L + 1 ≤ k_ + j → V G 14 X 65 [(0, .ref 69), (1, .int (nI t_)), (2, .int (nI b_)), (3, .int (nI e_)), (4, .long (lgN 0)), (6, .long (lgN (10 ^ k_))), (8, .int (nI k_))] [] μ := by
  intro j
  induction j with
  | zero =>
    intro k_ h1 h2
    exact absurd h2 (by omega)
  | succ j ih =>
    intro k_ h1 h2
    refine V_iload hX dX9_cold_65 6 rfl ?_
    refine V_aload_n hX dX9_cold_67 0 rfl ?_
    refine V_getN (x := nI L) hX fX9_103 rfl hL dX9_cold_68 ?_
    refine V_icmp_geN (tgt := 88) hX dX9_cold_71 (by decide) (by omega) (by omega) (fun c71 => ?_) (fun c71 => ?_)
    · obtain rfl : k_ = L := by omega
      exact hF
    · refine V_lload hX dX9_cold_74 5 rfl ?_
      refine V_ldc2 hX kX9_206 dX9_cold_76 ?_
      show V G 14 X 79 [(0, .ref 69), (1, .int (nI t_)), (2, .int (nI b_)), (3, .int (nI e_)), (4, .long (lgN 0)), (6, .long (lgN (10 ^ k_))), (8, .int (nI k_))] [.long (lgN 10), .long (lgN (10 ^ k_))] μ
      refine V_lmulN hX dX9_cold_79 ?_
      refine V_lstore (ls' := [(0, .ref 69), (1, .int (nI t_)), (2, .int (nI b_)), (3, .int (nI e_)), (4, .long (lgN 0)), (6, .long (lgN ((10 ^ k_) * 10))), (8, .int (nI k_))]) hX dX9_cold_80 (by decide) rfl ?_
      refine V_iincN (n := 1) (ls' := [(0, .ref 69), (1, .int (nI t_)), (2, .int (nI b_)), (3, .int (nI e_)), (4, .long (lgN 0)), (6, .long (lgN ((10 ^ k_) * 10))), (8, .int (nI (k_ + 1)))]) hX dX9_cold_82 6 rfl (by decide) rfl ?_
      refine V_goto (tgt := 65) hX dX9_cold_85 (by decide) ?_
      have h9 := ih (k_ + 1) (by omega) (by omega)
      rw [Nat.pow_succ] at h9
      exact h9
set_option maxRecDepth 100000 in
set_option maxHeartbeats 4000000 in
theorem lpM_rows0 {G : VG} {d : Nat} {μ : VS} {X : VX} {P : PC} {L : Nat} {S κ : Nat → Nat} {I : Nat → PC} {t_ e_ : Nat} (hX : Cx G (d + 5) yX9_cold cX9_cold 14 (some .long) X) (hok : okP P) (hpd : okPad L S) (hL10 : L ≤ 10) (ht : t_ ≤ 10) (hF : ∀ μ1, RM μ1 P L S κ I → keepC μ μ1 → V G 14 X 205 [(0, .ref 69), (1, .int (nI t_)), (2, .int (nI 0)), (3, .int (nI e_)), (4, .long (lgN (rsum (rwG P L S t_ 0) (2 ^ L)))), (6, .long (lgN (10 ^ L))), (8, .int (nI (2 ^ L)))] [] μ1) : ∀ (j r_ : Nat) (μ0 : VS), r_ ≤ 2 ^ L → 2 ^ L + 1 ≤ r_ + j → RM μ0 P L S κ I → keepC μ μ0 → V G 14 X 91 [(0, .ref 69), (1, .int (nI t_)), (2, .int (nI 0)), (3, .int (nI e_)), (4, .long (lgN (rsum (rwG P L S t_ 0) r_))), (6, .long (lgN (10 ^ L))), (8, .int (nI r_))] [] μ0 := by
  have hL60 := hpd.1
  have hS := hpd.2
  have h2L : 2 ^ L ≤ 1024 := Nat.pow_le_pow_right (n := 2) (by decide) hL10
  intro j
  induction j with
  | zero =>
    intro r_ μ0 h1 h2
    exact absurd h2 (by omega)
  | succ j ih =>
    intro r_ μ0 h1 h2 hR0 hC0
    refine V_iload hX dX9_cold_91 6 rfl ?_
    refine V_iconst (v := nI 1) hX dX9_cold_93 (by decide) ?_
    refine V_aload_n hX dX9_cold_94 0 rfl ?_
    refine V_getN (x := nI L) hX fX9_103 rfl hR0.2.1.1 dX9_cold_95 ?_
    refine V_ishlN hX dX9_cold_98 (by first | omega | (rw [Nat.one_shiftLeft]; omega) | (rw [Nat.one_mul]; omega)) (by first | omega | (rw [Nat.one_shiftLeft]; omega) | (rw [Nat.one_mul]; omega)) ?_
    rw [show 1 <<< L = 2 ^ L from Nat.one_shiftLeft L]
    refine V_icmp_geN (tgt := 205) hX dX9_cold_99 (by decide) (by first | omega | (rw [Nat.one_shiftLeft]; omega) | (rw [Nat.one_mul]; omega)) (by first | omega | (rw [Nat.one_shiftLeft]; omega) | (rw [Nat.one_mul]; omega)) (fun c99 => ?_) (fun c99 => ?_)
    · obtain rfl : r_ = 2 ^ L := by omega
      exact hF μ0 hR0 hC0
    · refine V_lconst (v := lgN 1) hX dX9_cold_102 (by decide) ?_
      refine V_lstore (ls' := [(0, .ref 69), (1, .int (nI t_)), (2, .int (nI 0)), (3, .int (nI e_)), (4, .long (lgN (rsum (rwG P L S t_ 0) r_))), (6, .long (lgN (10 ^ L))), (8, .int (nI r_)), (9, .long (lgN 1))]) hX dX9_cold_103 (by decide) rfl ?_
      refine V_iconst (v := nI 0) hX dX9_cold_105 (by decide) ?_
      refine V_istore (ls' := [(0, .ref 69), (1, .int (nI t_)), (2, .int (nI 0)), (3, .int (nI e_)), (4, .long (lgN (rsum (rwG P L S t_ 0) r_))), (6, .long (lgN (10 ^ L))), (8, .int (nI r_)), (9, .long (lgN 1)), (11, .int (nI 0))]) hX dX9_cold_106 (by decide) rfl ?_
      refine lpM_own (μ := μ0) hX hR0.2.1.1 hL10 ht (by omega) ?_ (L + 1) 0 (by omega) (by omega)
      refine V_aload_n hX dX9_cold_148 0 rfl ?_
      refine V_callV (As := []) (st := []) hX mX9_160 rfl (kM_lay hR0.1 hR0.2.1 hL60 (fun μ1 hLy hK1 => ?_)) rfl (Nat.le_of_ble_eq_true rfl) (Nat.le_of_ble_eq_true rfl) dX9_cold_149
      show V G 14 X 152 [(0, .ref 69), (1, .int (nI t_)), (2, .int (nI 0)), (3, .int (nI e_)), (4, .long (lgN (rsum (rwG P L S t_ 0) r_))), (6, .long (lgN (10 ^ L))), (8, .int (nI r_)), (9, .long (lgN (ownN t_ r_ L))), (11, .int (nI L))] [] μ1
      have hR1 := hR0.keep hK1
      refine V_aload_n hX dX9_cold_152 0 rfl ?_
      refine V_iload hX dX9_cold_153 6 rfl ?_
      refine V_puti hX fX9_122 fw_8_19 rfl dX9_cold_155 ?_
      show V G 14 X 158 [(0, .ref 69), (1, .int (nI t_)), (2, .int (nI 0)), (3, .int (nI e_)), (4, .long (lgN (rsum (rwG P L S t_ 0) r_))), (6, .long (lgN (10 ^ L))), (8, .int (nI r_)), (9, .long (lgN (ownN t_ r_ L))), (11, .int (nI L))] [] (vup μ1.1 69 19 (nI r_), μ1.2)
      have hKa : mKeep μ1 (vup μ1.1 69 19 (nI r_), μ1.2) := mKeep.put (a := 69) (k := 19) (x := nI r_) (Or.inr (by decide))
      have hRa := hR1.keep hKa
      have hEa : isE (vup μ1.1 69 19 (nI r_), μ1.2) P := hLy.1
      refine V_aload_n hX dX9_cold_158 0 rfl ?_
      refine V_aload_n hX dX9_cold_159 0 rfl ?_
      refine V_getN (x := nI L) hX fX9_103 rfl hRa.2.1.1 dX9_cold_160 ?_
      refine V_callV (As := [.int (nI L)]) (st := []) hX mX9_163 rfl (kM_preach (E := P) (sg_ := S) (cb_ := r_.testBit) (cm_ := r_) hEa hok rfl (by omega) (fun i hi => hLy.2.2.1 i hi) (fun i hi => by have := hS i hi; omega) (fun i hi => Or.inl ⟨by omega, by omega, rfl⟩) (fun μ2 hp => ?_)) rfl (Nat.le_of_ble_eq_true rfl) (Nat.le_of_ble_eq_true rfl) dX9_cold_163
      show V G 14 X 166 [(0, .ref 69), (1, .int (nI t_)), (2, .int (nI 0)), (3, .int (nI e_)), (4, .long (lgN (rsum (rwG P L S t_ 0) r_))), (6, .long (lgN (10 ^ L))), (8, .int (nI r_)), (9, .long (lgN (ownN t_ r_ L))), (11, .int (nI L))] [] μ2
      have hR2 := hRa.keep hp.1.keep
      have hC2 : keepC μ μ2 := hC0.tr ((hK1.tr hKa).tr hp.1.keep).C
      have hb7 := (tot_bd (P := P) hok.2.2.1 (S := S) (co := r_.testBit) L).1
      refine V_lload hX dX9_cold_166 4 rfl ?_
      refine V_iload_n hX dX9_cold_168 2 rfl ?_
      refine V_if_neN (tgt := 188) hX dX9_cold_169 (by decide) (by omega) (fun c169 => ?_) (fun c169 => ?_)
      · exact absurd c169 (by decide)
      · refine V_aload_n hX dX9_cold_172 0 rfl ?_
        refine V_getN (x := nI ((mwR P S r_.testBit (mw0 P) L).2.2.2 7)) hX fX9_141 rfl hp.2.2.2.1.1 dX9_cold_173 ?_
        refine V_if_neN (tgt := 184) hX dX9_cold_176 (by decide) (by omega) (fun c176 => ?_) (fun c176 => ?_)
        · refine V_lconst (v := lgN 0) hX dX9_cold_184 (by decide) ?_
          refine V_goto (tgt := 196) hX dX9_cold_185 (by decide) ?_
          refine V_laddN hX dX9_cold_196 ?_
          refine V_lstore (ls' := [(0, .ref 69), (1, .int (nI t_)), (2, .int (nI 0)), (3, .int (nI e_)), (4, .long (lgN ((rsum (rwG P L S t_ 0) r_) + 0))), (6, .long (lgN (10 ^ L))), (8, .int (nI r_)), (9, .long (lgN (ownN t_ r_ L))), (11, .int (nI L))]) hX dX9_cold_197 (by decide) rfl ?_
          refine V_iincN (n := 1) (ls' := [(0, .ref 69), (1, .int (nI t_)), (2, .int (nI 0)), (3, .int (nI e_)), (4, .long (lgN ((rsum (rwG P L S t_ 0) r_) + 0))), (6, .long (lgN (10 ^ L))), (8, .int (nI (r_ + 1))), (9, .long (lgN (ownN t_ r_ L))), (11, .int (nI L))]) hX dX9_cold_199 6 rfl (by decide) rfl ?_
          refine V_goto (tgt := 91) hX dX9_cold_202 (by decide) ?_
          have h9 := ih (r_ + 1) μ2 (by omega) (by omega) hR2 hC2
          rw [show rsum (rwG P L S t_ 0) (r_ + 1) = (rsum (rwG P L S t_ 0) r_) + 0 from by show _ + ownN t_ r_ L * (if (mwR P S r_.testBit (mw0 P) L).2.2.2 7 = 0 then 1 else 0) = _; rw [if_neg c176, Nat.mul_zero]] at h9
          exact V_sub [0, 1, 2, 3, 4, 5, 6] rfl h9
        · refine V_lload hX dX9_cold_179 7 rfl ?_
          refine V_goto (tgt := 196) hX dX9_cold_181 (by decide) ?_
          refine V_laddN hX dX9_cold_196 ?_
          refine V_lstore (ls' := [(0, .ref 69), (1, .int (nI t_)), (2, .int (nI 0)), (3, .int (nI e_)), (4, .long (lgN ((rsum (rwG P L S t_ 0) r_) + (ownN t_ r_ L)))), (6, .long (lgN (10 ^ L))), (8, .int (nI r_)), (9, .long (lgN (ownN t_ r_ L))), (11, .int (nI L))]) hX dX9_cold_197 (by decide) rfl ?_
          refine V_iincN (n := 1) (ls' := [(0, .ref 69), (1, .int (nI t_)), (2, .int (nI 0)), (3, .int (nI e_)), (4, .long (lgN ((rsum (rwG P L S t_ 0) r_) + (ownN t_ r_ L)))), (6, .long (lgN (10 ^ L))), (8, .int (nI (r_ + 1))), (9, .long (lgN (ownN t_ r_ L))), (11, .int (nI L))]) hX dX9_cold_199 6 rfl (by decide) rfl ?_
          refine V_goto (tgt := 91) hX dX9_cold_202 (by decide) ?_
          have h9 := ih (r_ + 1) μ2 (by omega) (by omega) hR2 hC2
          rw [show rsum (rwG P L S t_ 0) (r_ + 1) = (rsum (rwG P L S t_ 0) r_) + (ownN t_ r_ L) from by show _ + ownN t_ r_ L * (if (mwR P S r_.testBit (mw0 P) L).2.2.2 7 = 0 then 1 else 0) = _; rw [if_pos c176, Nat.mul_one]] at h9
          exact V_sub [0, 1, 2, 3, 4, 5, 6] rfl h9
set_option maxRecDepth 100000 in
set_option maxHeartbeats 4000000 in
theorem lpM_rows1 {G : VG} {d : Nat} {μ : VS} {X : VX} {P : PC} {L : Nat} {S κ : Nat → Nat} {I : Nat → PC} {t_ e_ : Nat} (hX : Cx G (d + 5) yX9_cold cX9_cold 14 (some .long) X) (hok : okP P) (hpd : okPad L S) (hL10 : L ≤ 10) (ht : t_ ≤ 10) (hF : ∀ μ1, RM μ1 P L S κ I → keepC μ μ1 → V G 14 X 205 [(0, .ref 69), (1, .int (nI t_)), (2, .int (nI 1)), (3, .int (nI e_)), (4, .long (lgN (rsum (rwG P L S t_ 1) (2 ^ L)))), (6, .long (lgN (10 ^ L))), (8, .int (nI (2 ^ L)))] [] μ1) : ∀ (j r_ : Nat) (μ0 : VS), r_ ≤ 2 ^ L → 2 ^ L + 1 ≤ r_ + j → RM μ0 P L S κ I → keepC μ μ0 → V G 14 X 91 [(0, .ref 69), (1, .int (nI t_)), (2, .int (nI 1)), (3, .int (nI e_)), (4, .long (lgN (rsum (rwG P L S t_ 1) r_))), (6, .long (lgN (10 ^ L))), (8, .int (nI r_))] [] μ0 := by
  have hL60 := hpd.1
  have hS := hpd.2
  have h2L : 2 ^ L ≤ 1024 := Nat.pow_le_pow_right (n := 2) (by decide) hL10
  intro j
  induction j with
  | zero =>
    intro r_ μ0 h1 h2
    exact absurd h2 (by omega)
  | succ j ih =>
    intro r_ μ0 h1 h2 hR0 hC0
    refine V_iload hX dX9_cold_91 6 rfl ?_
    refine V_iconst (v := nI 1) hX dX9_cold_93 (by decide) ?_
    refine V_aload_n hX dX9_cold_94 0 rfl ?_
    refine V_getN (x := nI L) hX fX9_103 rfl hR0.2.1.1 dX9_cold_95 ?_
    refine V_ishlN hX dX9_cold_98 (by first | omega | (rw [Nat.one_shiftLeft]; omega) | (rw [Nat.one_mul]; omega)) (by first | omega | (rw [Nat.one_shiftLeft]; omega) | (rw [Nat.one_mul]; omega)) ?_
    rw [show 1 <<< L = 2 ^ L from Nat.one_shiftLeft L]
    refine V_icmp_geN (tgt := 205) hX dX9_cold_99 (by decide) (by first | omega | (rw [Nat.one_shiftLeft]; omega) | (rw [Nat.one_mul]; omega)) (by first | omega | (rw [Nat.one_shiftLeft]; omega) | (rw [Nat.one_mul]; omega)) (fun c99 => ?_) (fun c99 => ?_)
    · obtain rfl : r_ = 2 ^ L := by omega
      exact hF μ0 hR0 hC0
    · refine V_lconst (v := lgN 1) hX dX9_cold_102 (by decide) ?_
      refine V_lstore (ls' := [(0, .ref 69), (1, .int (nI t_)), (2, .int (nI 1)), (3, .int (nI e_)), (4, .long (lgN (rsum (rwG P L S t_ 1) r_))), (6, .long (lgN (10 ^ L))), (8, .int (nI r_)), (9, .long (lgN 1))]) hX dX9_cold_103 (by decide) rfl ?_
      refine V_iconst (v := nI 0) hX dX9_cold_105 (by decide) ?_
      refine V_istore (ls' := [(0, .ref 69), (1, .int (nI t_)), (2, .int (nI 1)), (3, .int (nI e_)), (4, .long (lgN (rsum (rwG P L S t_ 1) r_))), (6, .long (lgN (10 ^ L))), (8, .int (nI r_)), (9, .long (lgN 1)), (11, .int (nI 0))]) hX dX9_cold_106 (by decide) rfl ?_
      refine lpM_own (μ := μ0) hX hR0.2.1.1 hL10 ht (by omega) ?_ (L + 1) 0 (by omega) (by omega)
      refine V_aload_n hX dX9_cold_148 0 rfl ?_
      refine V_callV (As := []) (st := []) hX mX9_160 rfl (kM_lay hR0.1 hR0.2.1 hL60 (fun μ1 hLy hK1 => ?_)) rfl (Nat.le_of_ble_eq_true rfl) (Nat.le_of_ble_eq_true rfl) dX9_cold_149
      show V G 14 X 152 [(0, .ref 69), (1, .int (nI t_)), (2, .int (nI 1)), (3, .int (nI e_)), (4, .long (lgN (rsum (rwG P L S t_ 1) r_))), (6, .long (lgN (10 ^ L))), (8, .int (nI r_)), (9, .long (lgN (ownN t_ r_ L))), (11, .int (nI L))] [] μ1
      have hR1 := hR0.keep hK1
      refine V_aload_n hX dX9_cold_152 0 rfl ?_
      refine V_iload hX dX9_cold_153 6 rfl ?_
      refine V_puti hX fX9_122 fw_8_19 rfl dX9_cold_155 ?_
      show V G 14 X 158 [(0, .ref 69), (1, .int (nI t_)), (2, .int (nI 1)), (3, .int (nI e_)), (4, .long (lgN (rsum (rwG P L S t_ 1) r_))), (6, .long (lgN (10 ^ L))), (8, .int (nI r_)), (9, .long (lgN (ownN t_ r_ L))), (11, .int (nI L))] [] (vup μ1.1 69 19 (nI r_), μ1.2)
      have hKa : mKeep μ1 (vup μ1.1 69 19 (nI r_), μ1.2) := mKeep.put (a := 69) (k := 19) (x := nI r_) (Or.inr (by decide))
      have hRa := hR1.keep hKa
      have hEa : isE (vup μ1.1 69 19 (nI r_), μ1.2) P := hLy.1
      refine V_aload_n hX dX9_cold_158 0 rfl ?_
      refine V_aload_n hX dX9_cold_159 0 rfl ?_
      refine V_getN (x := nI L) hX fX9_103 rfl hRa.2.1.1 dX9_cold_160 ?_
      refine V_callV (As := [.int (nI L)]) (st := []) hX mX9_163 rfl (kM_preach (E := P) (sg_ := S) (cb_ := r_.testBit) (cm_ := r_) hEa hok rfl (by omega) (fun i hi => hLy.2.2.1 i hi) (fun i hi => by have := hS i hi; omega) (fun i hi => Or.inl ⟨by omega, by omega, rfl⟩) (fun μ2 hp => ?_)) rfl (Nat.le_of_ble_eq_true rfl) (Nat.le_of_ble_eq_true rfl) dX9_cold_163
      show V G 14 X 166 [(0, .ref 69), (1, .int (nI t_)), (2, .int (nI 1)), (3, .int (nI e_)), (4, .long (lgN (rsum (rwG P L S t_ 1) r_))), (6, .long (lgN (10 ^ L))), (8, .int (nI r_)), (9, .long (lgN (ownN t_ r_ L))), (11, .int (nI L))] [] μ2
      have hR2 := hRa.keep hp.1.keep
      have hC2 : keepC μ μ2 := hC0.tr ((hK1.tr hKa).tr hp.1.keep).C
      have hb7 := (tot_bd (P := P) hok.2.2.1 (S := S) (co := r_.testBit) L).1
      refine V_lload hX dX9_cold_166 4 rfl ?_
      refine V_iload_n hX dX9_cold_168 2 rfl ?_
      refine V_if_neN (tgt := 188) hX dX9_cold_169 (by decide) (by omega) (fun c169 => ?_) (fun c169 => ?_)
      · refine V_lload hX dX9_cold_188 7 rfl ?_
        refine V_aload_n hX dX9_cold_190 0 rfl ?_
        refine V_getN (x := nI ((mwR P S r_.testBit (mw0 P) L).2.2.2 7)) hX fX9_141 rfl hp.2.2.2.1.1 dX9_cold_191 ?_
        refine V_i2lN hX dX9_cold_194 (by omega) ?_
        refine V_lmulN hX dX9_cold_195 ?_
        refine V_laddN hX dX9_cold_196 ?_
        refine V_lstore (ls' := [(0, .ref 69), (1, .int (nI t_)), (2, .int (nI 1)), (3, .int (nI e_)), (4, .long (lgN ((rsum (rwG P L S t_ 1) r_) + ((ownN t_ r_ L) * ((mwR P S r_.testBit (mw0 P) L).2.2.2 7))))), (6, .long (lgN (10 ^ L))), (8, .int (nI r_)), (9, .long (lgN (ownN t_ r_ L))), (11, .int (nI L))]) hX dX9_cold_197 (by decide) rfl ?_
        refine V_iincN (n := 1) (ls' := [(0, .ref 69), (1, .int (nI t_)), (2, .int (nI 1)), (3, .int (nI e_)), (4, .long (lgN ((rsum (rwG P L S t_ 1) r_) + ((ownN t_ r_ L) * ((mwR P S r_.testBit (mw0 P) L).2.2.2 7))))), (6, .long (lgN (10 ^ L))), (8, .int (nI (r_ + 1))), (9, .long (lgN (ownN t_ r_ L))), (11, .int (nI L))]) hX dX9_cold_199 6 rfl (by decide) rfl ?_
        refine V_goto (tgt := 91) hX dX9_cold_202 (by decide) ?_
        have h9 := ih (r_ + 1) μ2 (by omega) (by omega) hR2 hC2
        rw [show rsum (rwG P L S t_ 1) (r_ + 1) = (rsum (rwG P L S t_ 1) r_) + ((ownN t_ r_ L) * ((mwR P S r_.testBit (mw0 P) L).2.2.2 7)) from rfl] at h9
        exact V_sub [0, 1, 2, 3, 4, 5, 6] rfl h9
      · exact absurd c169 (by decide)
set_option maxRecDepth 100000 in
set_option maxHeartbeats 4000000 in
theorem kM_cold {G : VG} {d : Nat} {μ : VS} {Q : Option Value → VS → Prop} {P : PC} {L : Nat} {S κ : Nat → Nat} {I : Nat → PC} {t_ w_ q_ : Int32} (hRM : RM μ P L S κ I) (hok : okP P) (hpd : okPad L S) (hQ : ∀ μ', RM μ' P L S κ I → keepC μ μ' → Q (some (.long (coldS P L S t_ w_ q_))) μ') : Call G (d + 5) yX9_cold cX9_cold 14 (some .long) [.ref 69, .int t_, .int w_, .int q_] μ Q := by
  intro X hX hR
  have hM := hRM.1
  have hL := hRM.2.1
  have hS := hpd.2
  have hL60 := hpd.1
  have hP4 := hok.2.2.2.2.1
  have h4 := hP4
  show V G 14 X 0 [(0, .ref 69), (1, .int t_), (2, .int w_), (3, .int q_)] [] μ
  refine V_iload_n hX dX9_cold_0 1 rfl ?_
  refine V_iconst (v := nI 0) hX dX9_cold_1 (by decide) ?_
  refine V_bipush (v := nI 10) hX dX9_cold_2 (by decide) ?_
  refine V_callS (As := [.int t_, .int (nI 0), .int (nI 10)]) (st := []) hX mX9_75 (k_in ?_) rfl (Nat.le_of_ble_eq_true rfl) (Nat.le_of_ble_eq_true rfl) dX9_cold_4
  show V G 14 X 7 [(0, .ref 69), (1, .int t_), (2, .int w_), (3, .int q_)] [.int (bI (nI 0 ≤ t_ ∧ t_ ≤ nI 10))] μ
  refine V_if_eqB (tgt := 28) hX dX9_cold_7 (by decide) (fun c7 => ?_) (fun c7 => ?_)
  · refine V_ldc2 hX kX9_200 dX9_cold_28 ?_
    refine V_lret hX rfl dX9_cold_31 ?_
    have h9 := hQ μ
    rw [show coldS P L S t_ w_ q_ = _ from if_neg (fun z => c7 z.1)] at h9
    exact hR _ _ (h9 hRM (keepC.rf μ))
  · refine V_iload_n hX dX9_cold_10 2 rfl ?_
    refine V_iconst (v := nI 0) hX dX9_cold_11 (by decide) ?_
    refine V_iconst (v := nI 1) hX dX9_cold_12 (by decide) ?_
    refine V_callS (As := [.int w_, .int (nI 0), .int (nI 1)]) (st := []) hX mX9_75 (k_in ?_) rfl (Nat.le_of_ble_eq_true rfl) (Nat.le_of_ble_eq_true rfl) dX9_cold_13
    show V G 14 X 16 [(0, .ref 69), (1, .int t_), (2, .int w_), (3, .int q_)] [.int (bI (nI 0 ≤ w_ ∧ w_ ≤ nI 1))] μ
    refine V_if_eqB (tgt := 28) hX dX9_cold_16 (by decide) (fun c16 => ?_) (fun c16 => ?_)
    · refine V_ldc2 hX kX9_200 dX9_cold_28 ?_
      refine V_lret hX rfl dX9_cold_31 ?_
      have h9 := hQ μ
      rw [show coldS P L S t_ w_ q_ = _ from if_neg (fun z => c16 z.2.1)] at h9
      exact hR _ _ (h9 hRM (keepC.rf μ))
    · refine V_iload_n hX dX9_cold_19 3 rfl ?_
      refine V_iconst (v := nI 0) hX dX9_cold_20 (by decide) ?_
      refine V_iconst (v := nI 1) hX dX9_cold_21 (by decide) ?_
      refine V_callS (As := [.int q_, .int (nI 0), .int (nI 1)]) (st := []) hX mX9_75 (k_in ?_) rfl (Nat.le_of_ble_eq_true rfl) (Nat.le_of_ble_eq_true rfl) dX9_cold_22
      show V G 14 X 25 [(0, .ref 69), (1, .int t_), (2, .int w_), (3, .int q_)] [.int (bI (nI 0 ≤ q_ ∧ q_ ≤ nI 1))] μ
      refine V_if_neB (tgt := 32) hX dX9_cold_25 (by decide) (fun c25 => ?_) (fun c25 => ?_)
      · obtain ⟨k_, hk0, hk1, rfl⟩ := nat_of_in (by decide) (by decide) c7
        obtain ⟨b_, hb0, hb1, rfl⟩ := nat_of_in (by decide) (by decide) c16
        obtain ⟨e_, he0, he1, rfl⟩ := nat_of_in (by decide) (by decide) c25
        refine V_aload_n hX dX9_cold_32 0 rfl ?_
        refine V_callV (As := []) (st := []) hX mX9_109 rfl (kM_faultOf hL hS hL60 ?_) rfl (Nat.le_of_ble_eq_true rfl) (Nat.le_of_ble_eq_true rfl) dX9_cold_33
        show V G 14 X 36 [(0, .ref 69), (1, .int (nI k_)), (2, .int (nI b_)), (3, .int (nI e_))] [.int (fltU S L)] μ
        refine V_if_lt (tgt := 43) hX dX9_cold_36 (by decide) (fun c36 => ?_) (fun c36 => ?_)
        · refine V_aload_n hX dX9_cold_43 0 rfl ?_
          refine V_getN (x := nI L) hX fX9_103 rfl hL.1 dX9_cold_44 ?_
          refine V_bipush (v := nI 10) hX dX9_cold_47 (by decide) ?_
          refine V_icmp_leN (tgt := 56) hX dX9_cold_49 (by decide) (by omega) (by omega) (fun c49 => ?_) (fun c49 => ?_)
          · refine V_lconst (v := lgN 0) hX dX9_cold_56 (by decide) ?_
            refine V_lstore (ls' := [(0, .ref 69), (1, .int (nI k_)), (2, .int (nI b_)), (3, .int (nI e_)), (4, .long (lgN 0))]) hX dX9_cold_57 (by decide) rfl ?_
            refine V_lconst (v := lgN 1) hX dX9_cold_59 (by decide) ?_
            refine V_lstore (ls' := [(0, .ref 69), (1, .int (nI k_)), (2, .int (nI b_)), (3, .int (nI e_)), (4, .long (lgN 0)), (6, .long (lgN 1))]) hX dX9_cold_60 (by decide) rfl ?_
            refine V_iconst (v := nI 0) hX dX9_cold_62 (by decide) ?_
            refine V_istore (ls' := [(0, .ref 69), (1, .int (nI k_)), (2, .int (nI b_)), (3, .int (nI e_)), (4, .long (lgN 0)), (6, .long (lgN 1)), (8, .int (nI 0))]) hX dX9_cold_63 (by decide) rfl ?_
            have hL10 : L ≤ 10 := by omega
            refine lpM_tens (μ := μ) hX hRM.2.1.1 hL10 ?_ (L + 1) 0 (by omega) (by omega)
            refine V_iconst (v := nI 0) hX dX9_cold_88 (by decide) ?_
            refine V_istore (ls' := [(0, .ref 69), (1, .int (nI k_)), (2, .int (nI b_)), (3, .int (nI e_)), (4, .long (lgN 0)), (6, .long (lgN (10 ^ L))), (8, .int (nI 0))]) hX dX9_cold_89 (by decide) rfl ?_
            rcases (by omega : b_ = 0 ∨ b_ = 1) with e | e <;> subst e
            · refine lpM_rows0 (μ := μ) (t_ := k_) (e_ := e_) hX hok hpd hL10 (by omega) (fun μ3 hR3 hC3 => ?_) (2 ^ L + 1) 0 μ (Nat.zero_le _) (by omega) hRM (keepC.rf μ)
              have hup : rsum (rwG P L S k_ 0) (2 ^ L) < 2 ^ 63 := by rw [← clU_sum]; exact clU_lt (by omega) hL10 0
              have hg0 : 0 < Nat.gcd (rsum (rwG P L S k_ 0) (2 ^ L)) (10 ^ L) := Nat.gcd_pos_of_pos_right _ low_pos
              have hg : Nat.gcd (rsum (rwG P L S k_ 0) (2 ^ L)) (10 ^ L) < 2 ^ 63 := Nat.lt_of_le_of_lt (Nat.le_of_dvd low_pos (Nat.gcd_dvd_right _ _)) (low_lt hL10)
              have h9 := hQ μ3 hR3 hC3
              rw [show coldS P L S (nI k_) (nI 0) (nI e_) = _ from (if_pos ⟨c7, c16, c25⟩).trans ((if_pos (flt_neg L (by omega) c36)).trans (if_neg (by omega))), nI_clamp (by omega), nI_clamp (by omega), nI_clamp (by omega), clU_sum] at h9
              refine V_lload hX dX9_cold_205 4 rfl ?_
              refine V_lstore (ls' := [(0, .ref 69), (1, .int (nI k_)), (2, .int (nI 0)), (3, .int (nI e_)), (4, .long (lgN (rsum (rwG P L S k_ 0) (2 ^ L)))), (6, .long (lgN (10 ^ L))), (8, .long (lgN (rsum (rwG P L S k_ 0) (2 ^ L))))]) hX dX9_cold_207 (by decide) rfl ?_
              refine V_lload hX dX9_cold_209 5 rfl ?_
              refine V_lstore (ls' := [(0, .ref 69), (1, .int (nI k_)), (2, .int (nI 0)), (3, .int (nI e_)), (4, .long (lgN (rsum (rwG P L S k_ 0) (2 ^ L)))), (6, .long (lgN (10 ^ L))), (8, .long (lgN (rsum (rwG P L S k_ 0) (2 ^ L)))), (10, .long (lgN (10 ^ L)))]) hX dX9_cold_211 (by decide) rfl ?_
              refine lpM_gcd (g_ := Nat.gcd (rsum (rwG P L S k_ 0) (2 ^ L)) (10 ^ L)) hX (fun y_ => ?_) (10 ^ L) _ _ (Nat.le_refl _) hup (low_lt hL10) rfl
              refine V_iload_n hX dX9_cold_238 3 rfl ?_
              refine V_if_neN (tgt := 250) hX dX9_cold_239 (by decide) (by omega) (fun c239 => ?_) (fun c239 => ?_)
              · refine V_lload hX dX9_cold_250 5 rfl ?_
                refine V_lload hX dX9_cold_252 6 rfl ?_
                refine V_ldivN hX dX9_cold_254 ⟨low_lt hL10, hg, hg0⟩ ?_
                refine V_lret hX rfl dX9_cold_255 ?_
                exact hR _ _ (by rw [show coldV (rsum (rwG P L S k_ 0) (2 ^ L)) (10 ^ L) e_ = (10 ^ L) / (Nat.gcd (rsum (rwG P L S k_ 0) (2 ^ L)) (10 ^ L)) from by unfold coldV; rw [if_neg c239]] at h9; exact h9)
              · refine V_lload hX dX9_cold_242 4 rfl ?_
                refine V_lload hX dX9_cold_244 6 rfl ?_
                refine V_ldivN hX dX9_cold_246 ⟨hup, hg, hg0⟩ ?_
                refine V_goto (tgt := 255) hX dX9_cold_247 (by decide) ?_
                refine V_lret hX rfl dX9_cold_255 ?_
                exact hR _ _ (by rw [show coldV (rsum (rwG P L S k_ 0) (2 ^ L)) (10 ^ L) e_ = (rsum (rwG P L S k_ 0) (2 ^ L)) / (Nat.gcd (rsum (rwG P L S k_ 0) (2 ^ L)) (10 ^ L)) from by unfold coldV; rw [if_pos c239]] at h9; exact h9)
            · refine lpM_rows1 (μ := μ) (t_ := k_) (e_ := e_) hX hok hpd hL10 (by omega) (fun μ3 hR3 hC3 => ?_) (2 ^ L + 1) 0 μ (Nat.zero_le _) (by omega) hRM (keepC.rf μ)
              have hup : rsum (rwG P L S k_ 1) (2 ^ L) < 2 ^ 63 := by rw [← clU_sum]; exact clU_lt (by omega) hL10 1
              have hg0 : 0 < Nat.gcd (rsum (rwG P L S k_ 1) (2 ^ L)) (10 ^ L) := Nat.gcd_pos_of_pos_right _ low_pos
              have hg : Nat.gcd (rsum (rwG P L S k_ 1) (2 ^ L)) (10 ^ L) < 2 ^ 63 := Nat.lt_of_le_of_lt (Nat.le_of_dvd low_pos (Nat.gcd_dvd_right _ _)) (low_lt hL10)
              have h9 := hQ μ3 hR3 hC3
              rw [show coldS P L S (nI k_) (nI 1) (nI e_) = _ from (if_pos ⟨c7, c16, c25⟩).trans ((if_pos (flt_neg L (by omega) c36)).trans (if_neg (by omega))), nI_clamp (by omega), nI_clamp (by omega), nI_clamp (by omega), clU_sum] at h9
              refine V_lload hX dX9_cold_205 4 rfl ?_
              refine V_lstore (ls' := [(0, .ref 69), (1, .int (nI k_)), (2, .int (nI 1)), (3, .int (nI e_)), (4, .long (lgN (rsum (rwG P L S k_ 1) (2 ^ L)))), (6, .long (lgN (10 ^ L))), (8, .long (lgN (rsum (rwG P L S k_ 1) (2 ^ L))))]) hX dX9_cold_207 (by decide) rfl ?_
              refine V_lload hX dX9_cold_209 5 rfl ?_
              refine V_lstore (ls' := [(0, .ref 69), (1, .int (nI k_)), (2, .int (nI 1)), (3, .int (nI e_)), (4, .long (lgN (rsum (rwG P L S k_ 1) (2 ^ L)))), (6, .long (lgN (10 ^ L))), (8, .long (lgN (rsum (rwG P L S k_ 1) (2 ^ L)))), (10, .long (lgN (10 ^ L)))]) hX dX9_cold_211 (by decide) rfl ?_
              refine lpM_gcd (g_ := Nat.gcd (rsum (rwG P L S k_ 1) (2 ^ L)) (10 ^ L)) hX (fun y_ => ?_) (10 ^ L) _ _ (Nat.le_refl _) hup (low_lt hL10) rfl
              refine V_iload_n hX dX9_cold_238 3 rfl ?_
              refine V_if_neN (tgt := 250) hX dX9_cold_239 (by decide) (by omega) (fun c239 => ?_) (fun c239 => ?_)
              · refine V_lload hX dX9_cold_250 5 rfl ?_
                refine V_lload hX dX9_cold_252 6 rfl ?_
                refine V_ldivN hX dX9_cold_254 ⟨low_lt hL10, hg, hg0⟩ ?_
                refine V_lret hX rfl dX9_cold_255 ?_
                exact hR _ _ (by rw [show coldV (rsum (rwG P L S k_ 1) (2 ^ L)) (10 ^ L) e_ = (10 ^ L) / (Nat.gcd (rsum (rwG P L S k_ 1) (2 ^ L)) (10 ^ L)) from by unfold coldV; rw [if_neg c239]] at h9; exact h9)
              · refine V_lload hX dX9_cold_242 4 rfl ?_
                refine V_lload hX dX9_cold_244 6 rfl ?_
                refine V_ldivN hX dX9_cold_246 ⟨hup, hg, hg0⟩ ?_
                refine V_goto (tgt := 255) hX dX9_cold_247 (by decide) ?_
                refine V_lret hX rfl dX9_cold_255 ?_
                exact hR _ _ (by rw [show coldV (rsum (rwG P L S k_ 1) (2 ^ L)) (10 ^ L) e_ = (rsum (rwG P L S k_ 1) (2 ^ L)) / (Nat.gcd (rsum (rwG P L S k_ 1) (2 ^ L)) (10 ^ L)) from by unfold coldV; rw [if_pos c239]] at h9; exact h9)
          · refine V_ldc2 hX kX9_204 dX9_cold_52 ?_
            refine V_lret hX rfl dX9_cold_55 ?_
            have h9 := hQ μ
            rw [show coldS P L S (nI k_) (nI b_) (nI e_) = _ from (if_pos ⟨c7, c16, c25⟩).trans ((if_pos (flt_neg L (by omega) c36)).trans (if_pos (by omega)))] at h9
            exact hR _ _ (h9 hRM (keepC.rf μ))
        · refine V_ldc2 hX kX9_202 dX9_cold_39 ?_
          refine V_lret hX rfl dX9_cold_42 ?_
          have h9 := hQ μ
          rw [show coldS P L S (nI k_) (nI b_) (nI e_) = _ from (if_pos ⟨c7, c16, c25⟩).trans (if_neg (flt_ge hL60 c36))] at h9
          exact hR _ _ (h9 hRM (keepC.rf μ))
      · refine V_ldc2 hX kX9_200 dX9_cold_28 ?_
        refine V_lret hX rfl dX9_cold_31 ?_
        have h9 := hQ μ
        rw [show coldS P L S t_ w_ q_ = _ from if_neg (fun z => c25 z.2.2)] at h9
        exact hR _ _ (h9 hRM (keepC.rf μ))
