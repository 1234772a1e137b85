theorem or_lt256 {a h : Nat} (ha : a < 256) (hh : h < 8) : a ||| 1 <<< h < 256 := by
  have : 1 <<< h < 2 ^ 8 := by
    rw [Nat.shiftLeft_eq, Nat.one_mul]
    exact Nat.pow_lt_pow_right (by decide) hh
  exact Nat.or_lt_two_pow (n := 8) ha this
theorem clr_lt256 {a : Nat} (h : Nat) (ha : a < 256) : clrN a h < 256 := Nat.lt_of_le_of_lt Nat.and_le_left ha
theorem shl8 {h : Nat} (hh : h < 8) : 1 * 2 ^ h < 2 ^ 32 := by
  have : 2 ^ h < 2 ^ 8 := Nat.pow_lt_pow_right (by decide) hh
  omega
theorem tbl_out {x : Int32} (n : Nat) (hn : n < 2 ^ 31) (h : ∀ k, k ≤ n → ¬ x = nI k) : x.toInt < (0 : Int) ∨ ((n : Nat) : Int) < x.toInt := by
  by_cases h1 : x < 0
  · exact Or.inl (Int32.lt_iff_toInt_lt.mp h1)
  · obtain ⟨j, hj, rfl⟩ := nI_of h1
    refine Or.inr ?_
    rw [nI_toInt hj]
    rcases Nat.lt_or_ge n j with q | q
    · omega
    · exact absurd rfl (h j q)
theorem isM.frame {μ μ' : VS} {P : PC} (h : isM μ P) (e : ∀ a, 69 ≤ a → a ≤ 74 → μ'.1 a = μ.1 a) : isM μ' P := by
  refine ⟨fun k hk => ?_, fun j hj q hq => ?_, fun i hi => ?_⟩
  · rw [e 69 (by omega) (by omega)]; exact h.1 k hk
  · rw [e (70 + j) (by omega) (by omega)]; exact h.2.1 j hj q hq
  · rw [e 74 (by omega) (by omega)]; exact h.2.2 i hi
theorem isM.len {μ : VS} {P : PC} (h : isM μ P) (x : Int32) : isM (vup μ.1 69 12 x, μ.2) P := by
  refine ⟨fun k hk => ?_, fun j hj q hq => ?_, h.2.2⟩
  · show vup μ.1 69 12 x 69 (mF k) = _
    have e : ¬ mF k = 12 := (by decide : ∀ k, k < 7 → ¬ mF k = 12) k hk
    rw [vup_get]
    simp only [e, and_false, if_false]
    exact h.1 k hk
  · show vup μ.1 69 12 x (70 + j) q = _
    rw [vup_row _ _ _ (by omega)]
    exact h.2.1 j hj q hq
theorem RM.wipe {μ : VS} {P : PC} {L : Nat} {S κ : Nat → Nat} {I : Nat → PC} (h : RM μ P L S κ I) : RM (vup μ.1 69 12 (nI 0), μ.2) P 0 S κ I := ⟨h.1.len _, ⟨rfl, fun i hi => absurd hi (by omega)⟩, h.2.2⟩
theorem RM.say {μ : VS} {P : PC} {L : Nat} {S κ : Nat → Nat} {I : Nat → PC} (h : RM μ P L S κ I) (v : Nat) : RM (vup (vup μ.1 75 L (nI v)) 69 12 (nI (L + 1)), μ.2) P (L + 1) (fun i => if i = L then v else S i) κ I := by
  refine ⟨isM.len (μ := (vup μ.1 75 L (nI v), μ.2)) (h.1.frame (fun a h1 h2 => vup_row _ _ _ (by omega))) _, ⟨rfl, fun i hi => ?_⟩, h.2.2⟩
  show vup μ.1 75 L (nI v) 75 i = nI (if i = L then v else S i)
  rw [vup_get]
  by_cases e : i = L
  · simp [e]
  · simp only [e, and_false, if_false]; exact h.2.1.2 i (by omega)
set_option maxRecDepth 100000 in
set_option maxHeartbeats 4000000 in
theorem kM_church {G : VG} {d : Nat} {μ : VS} {Q : Option Value → VS → Prop} {P : PC} {L : Nat} {S κ : Nat → Nat} {I : Nat → PC} {n_ : Int32} (hRM : RM μ P L S κ I) (hQ : ∀ μ', RM μ' (churchS P n_).2 L S κ I → keepC μ μ' → Q (some (.int (churchS P n_).1)) μ') : Call G (d + 2) yX9_church cX9_church 3 (some .int) [.ref 69, .int n_] μ Q := by
  intro X hX hR
  have hM := hRM.1
  have hL := hRM.2.1
  show V G 3 X 0 [(0, .ref 69), (1, .int n_)] [] μ
  refine V_iload_n hX dX9_church_0 1 rfl ?_
  refine V_iconst (v := nI 1) hX dX9_church_1 (by decide) ?_
  refine V_iconst (v := nI 3) hX dX9_church_2 (by decide) ?_
  refine V_callS (As := [.int n_, .int (nI 1), .int (nI 3)]) (st := []) hX mX9_75 (k_in ?_) rfl (Nat.le_of_ble_eq_true rfl) (Nat.le_of_ble_eq_true rfl) dX9_church_3
  show V G 3 X 6 [(0, .ref 69), (1, .int n_)] [.int (bI (nI 1 ≤ n_ ∧ n_ ≤ nI 3))] μ
  refine V_if_neB (tgt := 12) hX dX9_church_6 (by decide) (fun c6 => ?_) (fun c6 => ?_)
  · obtain ⟨j, hj0, hj7, rfl⟩ := nat_of_in (by decide) (by decide) c6
    refine V_aload_n hX dX9_church_12 0 rfl ?_
    refine V_getN (x := nI (P 0 0)) hX fX9_7 rfl (hM.1 0 (by decide)) dX9_church_13 ?_
    refine V_istore_n (ls' := [(0, .ref 69), (1, .int (nI j)), (2, .int (nI (P 0 0)))]) hX dX9_church_16 (by decide) rfl ?_
    refine V_aload_n hX dX9_church_17 0 rfl ?_
    refine V_iload_n hX dX9_church_18 1 rfl ?_
    refine V_puti hX fX9_7 fw_8_0 rfl dX9_church_19 ?_
    show V G 3 X 22 [(0, .ref 69), (1, .int (nI j)), (2, .int (nI (P 0 0)))] [] (vup μ.1 69 0 (nI j), μ.2)
    refine V_aload_n hX dX9_church_22 0 rfl ?_
    refine V_iconst (v := nI 0) hX dX9_church_23 (by decide) ?_
    refine V_puti hX fX9_72 fw_8_1 rfl dX9_church_24 ?_
    show V G 3 X 27 [(0, .ref 69), (1, .int (nI j)), (2, .int (nI (P 0 0)))] [] (vup (vup μ.1 69 0 (nI j)) 69 1 (nI 0), μ.2)
    refine V_aload_n hX dX9_church_27 0 rfl ?_
    refine V_iconst (v := nI 0) hX dX9_church_28 (by decide) ?_
    refine V_puti hX fX9_83 fw_8_6 rfl dX9_church_29 ?_
    show V G 3 X 32 [(0, .ref 69), (1, .int (nI j)), (2, .int (nI (P 0 0)))] [] (vup (vup (vup μ.1 69 0 (nI j)) 69 1 (nI 0)) 69 6 (nI 0), μ.2)
    refine V_aload_n hX dX9_church_32 0 rfl ?_
    refine V_iconst (v := nI 0) hX dX9_church_33 (by decide) ?_
    refine V_puti hX fX9_86 fw_8_10 rfl dX9_church_34 ?_
    show V G 3 X 37 [(0, .ref 69), (1, .int (nI j)), (2, .int (nI (P 0 0)))] [] (vup (vup (vup (vup μ.1 69 0 (nI j)) 69 1 (nI 0)) 69 6 (nI 0)) 69 10 (nI 0), μ.2)
    refine V_aload_n hX dX9_church_37 0 rfl ?_
    refine V_iconst (v := nI 0) hX dX9_church_38 (by decide) ?_
    refine V_puti hX fX9_89 fw_8_9 rfl dX9_church_39 ?_
    show V G 3 X 42 [(0, .ref 69), (1, .int (nI j)), (2, .int (nI (P 0 0)))] [] (vup (vup (vup (vup (vup μ.1 69 0 (nI j)) 69 1 (nI 0)) 69 6 (nI 0)) 69 10 (nI 0)) 69 9 (nI 0), μ.2)
    refine V_iload_n hX dX9_church_42 2 rfl ?_
    refine V_iret hX rfl dX9_church_43 ?_
    have h9 := hQ (vup (vup (vup (vup (vup μ.1 69 0 (nI j)) 69 1 (nI 0)) 69 6 (nI 0)) 69 10 (nI 0)) 69 9 (nI 0), μ.2)
    rw [show churchS P (nI j) = (nI (P 0 0), _) from if_pos c6] at h9
    rw [nI_clamp (by omega)] at h9
    exact hR _ _ (h9 (((((hRM.put 0 (by decide) j).put 4 (by decide) 0).put 5 (by decide) 0).put 6 (by decide) 0).put 3 (by decide) 0) (((((keepC.put (by decide)).tr (keepC.put (by decide))).tr (keepC.put (by decide))).tr (keepC.put (by decide))).tr (keepC.put (by decide))))
  · refine V_bipush (v := (-2)) hX dX9_church_9 (by decide) ?_
    refine V_iret hX rfl dX9_church_11 ?_
    have h9 := hQ μ
    rw [show churchS P n_ = (-2, P) from if_neg c6] at h9
    exact hR _ _ (h9 hRM (keepC.rf μ))
set_option maxRecDepth 100000 in
set_option maxHeartbeats 4000000 in
theorem kM_leave {G : VG} {d : Nat} {μ : VS} {Q : Option Value → VS → Prop} {P : PC} {L : Nat} {S κ : Nat → Nat} {I : Nat → PC} {h_ : Int32} (hRM : RM μ P L S κ I) (hP4 : P 0 4 < 256) (hQ : ∀ μ', RM μ' (leaveS P h_).2 L S κ I → keepC μ μ' → Q (some (.int (leaveS P h_).1)) μ') : Call G (d + 2) yX9_leave cX9_leave 2 (some .int) [.ref 69, .int h_] μ Q := by
  intro X hX hR
  have hM := hRM.1
  have hL := hRM.2.1
  show V G 2 X 0 [(0, .ref 69), (1, .int h_)] [] μ
  refine V_aload_n hX dX9_leave_0 0 rfl ?_
  refine V_iload_n hX dX9_leave_1 1 rfl ?_
  refine V_callV (As := [.int h_]) (st := []) hX mX9_99 rfl (kM_isThere hM (by omega) ?_) rfl (Nat.le_of_ble_eq_true rfl) (Nat.le_of_ble_eq_true rfl) dX9_leave_2
  show V G 2 X 5 [(0, .ref 69), (1, .int h_)] [.int (bI (thr P h_))] μ
  refine V_if_neB (tgt := 10) hX dX9_leave_5 (by decide) (fun c5 => ?_) (fun c5 => ?_)
  · obtain ⟨j, hj7, rfl, hpj⟩ := thr_nat c5
    refine V_aload_n hX dX9_leave_10 0 rfl ?_
    refine V_dup hX dX9_leave_11 rfl ?_
    refine V_getN (x := nI (P 0 4)) hX fX9_72 rfl (hM.1 4 (by decide)) dX9_leave_12 ?_
    refine V_iconst (v := nI 1) hX dX9_leave_15 (by decide) ?_
    refine V_iload_n hX dX9_leave_16 1 rfl ?_
    refine V_ishlN hX dX9_leave_17 (by first | omega | exact shl8 (by omega) | exact or_lt256 (by omega) (by omega) | exact clr_lt256 _ (by omega)) (by first | omega | exact shl8 (by omega) | exact or_lt256 (by omega) (by omega) | exact clr_lt256 _ (by omega)) ?_
    refine V_iconst (v := nI 4294967295) hX dX9_leave_18 (by decide) ?_
    refine V_ixorN hX dX9_leave_19 ?_
    refine V_iandN hX dX9_leave_20 ?_
    refine V_puti hX fX9_72 fw_8_1 rfl dX9_leave_21 ?_
    show V G 2 X 24 [(0, .ref 69), (1, .int (nI j))] [] (vup μ.1 69 1 (nI ((P 0 4) &&& ((1 <<< j) ^^^ 4294967295))), μ.2)
    refine V_aload_n hX dX9_leave_24 0 rfl ?_
    refine V_dup hX dX9_leave_25 rfl ?_
    refine V_getN (x := nI (P 0 5)) hX fX9_83 rfl (hM.1 5 (by decide)) dX9_leave_26 ?_
    refine V_iconst (v := nI 1) hX dX9_leave_29 (by decide) ?_
    refine V_iload_n hX dX9_leave_30 1 rfl ?_
    refine V_ishlN hX dX9_leave_31 (by first | omega | exact shl8 (by omega) | exact or_lt256 (by omega) (by omega) | exact clr_lt256 _ (by omega)) (by first | omega | exact shl8 (by omega) | exact or_lt256 (by omega) (by omega) | exact clr_lt256 _ (by omega)) ?_
    refine V_iconst (v := nI 4294967295) hX dX9_leave_32 (by decide) ?_
    refine V_ixorN hX dX9_leave_33 ?_
    refine V_iandN hX dX9_leave_34 ?_
    refine V_puti hX fX9_83 fw_8_6 rfl dX9_leave_35 ?_
    show V G 2 X 38 [(0, .ref 69), (1, .int (nI j))] [] (vup (vup μ.1 69 1 (nI ((P 0 4) &&& ((1 <<< j) ^^^ 4294967295)))) 69 6 (nI ((P 0 5) &&& ((1 <<< j) ^^^ 4294967295))), μ.2)
    refine V_aload_n hX dX9_leave_38 0 rfl ?_
    refine V_getN (x := nI ((P 0 4) &&& ((1 <<< j) ^^^ 4294967295))) hX fX9_72 rfl rfl dX9_leave_39 ?_
    refine V_callS (As := [.int (nI ((P 0 4) &&& ((1 <<< j) ^^^ 4294967295)))]) (st := []) hX mX9_96 (k_bits (by first | omega | exact shl8 (by omega) | exact or_lt256 (by omega) (by omega) | exact clr_lt256 _ (by omega)) ?_) rfl (Nat.le_of_ble_eq_true rfl) (Nat.le_of_ble_eq_true rfl) dX9_leave_42
    show V G 2 X 45 [(0, .ref 69), (1, .int (nI j))] [.int (nI (popN ((P 0 4) &&& ((1 <<< j) ^^^ 4294967295)) 8))] (vup (vup μ.1 69 1 (nI ((P 0 4) &&& ((1 <<< j) ^^^ 4294967295)))) 69 6 (nI ((P 0 5) &&& ((1 <<< j) ^^^ 4294967295))), μ.2)
    refine V_iret hX rfl dX9_leave_45 ?_
    have h9 := hQ (vup (vup μ.1 69 1 (nI ((P 0 4) &&& ((1 <<< j) ^^^ 4294967295)))) 69 6 (nI ((P 0 5) &&& ((1 <<< j) ^^^ 4294967295))), μ.2)
    rw [show leaveS P (nI j) = _ from if_pos c5] at h9
    rw [nI_clamp (by omega)] at h9
    exact hR _ _ (h9 ((hRM.put 4 (by decide) _).put 5 (by decide) _) ((keepC.put (by decide)).tr (keepC.put (by decide))))
  · refine V_iconst (v := (-1)) hX dX9_leave_8 (by decide) ?_
    refine V_iret hX rfl dX9_leave_9 ?_
    have h9 := hQ μ
    rw [show leaveS P h_ = (-1, P) from if_neg c5] at h9
    exact hR _ _ (h9 hRM (keepC.rf μ))
set_option maxRecDepth 100000 in
set_option maxHeartbeats 4000000 in
theorem kM_say {G : VG} {d : Nat} {μ : VS} {Q : Option Value → VS → Prop} {P : PC} {L : Nat} {S κ : Nat → Nat} {I : Nat → PC} {s_ : Int32} (hRM : RM μ P L S κ I) (hL60 : L ≤ 60) (hQ : ∀ μ', RM μ' P (sayS L S s_).2.1 (sayS L S s_).2.2 κ I → keepC μ μ' → Q (some (.int (sayS L S s_).1)) μ') : Call G (d + 2) yX9_say cX9_say 2 (some .int) [.ref 69, .int s_] μ Q := by
  intro X hX hR
  have hM := hRM.1
  have hL := hRM.2.1
  show V G 2 X 0 [(0, .ref 69), (1, .int s_)] [] μ
  refine V_iload_n hX dX9_say_0 1 rfl ?_
  refine V_bipush (v := nI 33) hX dX9_say_1 (by decide) ?_
  refine V_bipush (v := nI 126) hX dX9_say_3 (by decide) ?_
  refine V_callS (As := [.int s_, .int (nI 33), .int (nI 126)]) (st := []) hX mX9_75 (k_in ?_) rfl (Nat.le_of_ble_eq_true rfl) (Nat.le_of_ble_eq_true rfl) dX9_say_5
  show V G 2 X 8 [(0, .ref 69), (1, .int s_)] [.int (bI (nI 33 ≤ s_ ∧ s_ ≤ nI 126))] μ
  refine V_if_neB (tgt := 14) hX dX9_say_8 (by decide) (fun c8 => ?_) (fun c8 => ?_)
  · obtain ⟨j, hj0, hj7, rfl⟩ := nat_of_in (by decide) (by decide) c8
    refine V_aload_n hX dX9_say_14 0 rfl ?_
    refine V_getN (x := nI L) hX fX9_103 rfl hL.1 dX9_say_15 ?_
    refine V_bipush (v := nI 60) hX dX9_say_18 (by decide) ?_
    refine V_icmp_neN (tgt := 26) hX dX9_say_20 (by decide) (by first | omega | exact shl8 (by omega) | exact or_lt256 (by omega) (by omega) | exact clr_lt256 _ (by omega)) (by first | omega | exact shl8 (by omega) | exact or_lt256 (by omega) (by omega) | exact clr_lt256 _ (by omega)) (fun c20 => ?_) (fun c20 => ?_)
    · refine V_aload_n hX dX9_say_26 0 rfl ?_
      refine V_getr (j := 75) hX fX9_35 rfl rfl dX9_say_27 ?_
      refine V_aload_n hX dX9_say_30 0 rfl ?_
      refine V_getN (x := nI L) hX fX9_103 rfl hL.1 dX9_say_31 ?_
      refine V_iload_n hX dX9_say_34 1 rfl ?_
      refine V_iastN hX rfl (by first | omega | exact shl8 (by omega) | exact or_lt256 (by omega) (by omega) | exact clr_lt256 _ (by omega)) (by decide) dX9_say_35 ?_
      show V G 2 X 36 [(0, .ref 69), (1, .int (nI j))] [] (vup μ.1 75 L (nI j), μ.2)
      refine V_aload_n hX dX9_say_36 0 rfl ?_
      refine V_dup hX dX9_say_37 rfl ?_
      refine V_getN (x := nI L) hX fX9_103 rfl hL.1 dX9_say_38 ?_
      refine V_iconst (v := nI 1) hX dX9_say_41 (by decide) ?_
      refine V_iaddN hX dX9_say_42 ?_
      refine V_puti hX fX9_103 fw_8_12 rfl dX9_say_43 ?_
      show V G 2 X 46 [(0, .ref 69), (1, .int (nI j))] [] (vup (vup μ.1 75 L (nI j)) 69 12 (nI (L + 1)), μ.2)
      refine V_aload_n hX dX9_say_46 0 rfl ?_
      refine V_getN (x := nI (L + 1)) hX fX9_103 rfl rfl dX9_say_47 ?_
      refine V_iret hX rfl dX9_say_50 ?_
      have h9 := hQ (vup (vup μ.1 75 L (nI j)) 69 12 (nI (L + 1)), μ.2)
      rw [show sayS L S (nI j) = _ from (if_pos c8).trans (if_neg c20)] at h9
      rw [nI_clamp (by omega)] at h9
      exact hR _ _ (h9 (hRM.say j) ((keepC.put (by decide)).tr (keepC.put (by decide))))
    · refine V_bipush (v := (-4)) hX dX9_say_23 (by decide) ?_
      refine V_iret hX rfl dX9_say_25 ?_
      have h9 := hQ μ
      rw [show sayS L S (nI j) = (-4, L, S) from (if_pos c8).trans (if_pos c20)] at h9
      exact hR _ _ (h9 hRM (keepC.rf μ))
  · refine V_bipush (v := (-2)) hX dX9_say_11 (by decide) ?_
    refine V_iret hX rfl dX9_say_13 ?_
    have h9 := hQ μ
    rw [show sayS L S s_ = (-2, L, S) from if_neg c8] at h9
    exact hR _ _ (h9 hRM (keepC.rf μ))
set_option maxRecDepth 100000 in
set_option maxHeartbeats 4000000 in
theorem kM_wipe {G : VG} {d : Nat} {μ : VS} {Q : Option Value → VS → Prop} {P : PC} {L : Nat} {S κ : Nat → Nat} {I : Nat → PC} (hRM : RM μ P L S κ I) (hQ : ∀ μ', RM μ' P 0 S κ I → keepC μ μ' → Q (some (.int (nI L))) μ') : Call G d yX9_wipe cX9_wipe 2 (some .int) [.ref 69] μ Q := by
  intro X hX hR
  have hM := hRM.1
  have hL := hRM.2.1
  show V G 2 X 0 [(0, .ref 69)] [] μ
  refine V_aload_n hX dX9_wipe_0 0 rfl ?_
  refine V_getN (x := nI L) hX fX9_103 rfl hL.1 dX9_wipe_1 ?_
  refine V_istore_n (ls' := [(0, .ref 69), (1, .int (nI L))]) hX dX9_wipe_4 (by decide) rfl ?_
  refine V_aload_n hX dX9_wipe_5 0 rfl ?_
  refine V_iconst (v := nI 0) hX dX9_wipe_6 (by decide) ?_
  refine V_puti hX fX9_103 fw_8_12 rfl dX9_wipe_7 ?_
  show V G 2 X 10 [(0, .ref 69), (1, .int (nI L))] [] (vup μ.1 69 12 (nI 0), μ.2)
  refine V_iload_n hX dX9_wipe_10 1 rfl ?_
  refine V_iret hX rfl dX9_wipe_11 ?_
  exact hR _ _ (hQ _ hRM.wipe (keepC.put (by decide)))
set_option maxRecDepth 100000 in
set_option maxHeartbeats 4000000 in
theorem kM_forget {G : VG} {d : Nat} {μ : VS} {Q : Option Value → VS → Prop} {P : PC} {L : Nat} {S κ : Nat → Nat} {I : Nat → PC} (hRM : RM μ P L S κ I) (hQ : ∀ μ', RM μ' (vup P 0 6 0) L S κ I → keepC μ μ' → Q (some (.int (nI (P 0 6)))) μ') : Call G d yX9_forget cX9_forget 2 (some .int) [.ref 69] μ Q := by
  intro X hX hR
  have hM := hRM.1
  have hL := hRM.2.1
  show V G 2 X 0 [(0, .ref 69)] [] μ
  refine V_aload_n hX dX9_forget_0 0 rfl ?_
  refine V_getN (x := nI (P 0 6)) hX fX9_86 rfl (hM.1 6 (by decide)) dX9_forget_1 ?_
  refine V_istore_n (ls' := [(0, .ref 69), (1, .int (nI (P 0 6)))]) hX dX9_forget_4 (by decide) rfl ?_
  refine V_aload_n hX dX9_forget_5 0 rfl ?_
  refine V_iconst (v := nI 0) hX dX9_forget_6 (by decide) ?_
  refine V_puti hX fX9_86 fw_8_10 rfl dX9_forget_7 ?_
  show V G 2 X 10 [(0, .ref 69), (1, .int (nI (P 0 6)))] [] (vup μ.1 69 10 (nI 0), μ.2)
  refine V_iload_n hX dX9_forget_10 1 rfl ?_
  refine V_iret hX rfl dX9_forget_11 ?_
  exact hR _ _ (hQ _ (hRM.put 6 (by decide) 0) (keepC.put (by decide)))
set_option maxRecDepth 100000 in
set_option maxHeartbeats 4000000 in
theorem kM_seen {G : VG} {d : Nat} {μ : VS} {Q : Option Value → VS → Prop} {P : PC} {L : Nat} {S κ : Nat → Nat} {I : Nat → PC} {m_ k_ : Int32} (hRM : RM μ P L S κ I) (hP6 : P 0 6 ≤ 8) (hQ : ∀ μ', RM μ' (seenS P m_ k_).2 L S κ I → keepC μ μ' → Q (some (.int (seenS P m_ k_).1)) μ') : Call G (d + 2) yX9_seen cX9_seen 3 (some .int) [.ref 69, .int m_, .int k_] μ Q := by
  intro X hX hR
  have hM := hRM.1
  have hL := hRM.2.1
  show V G 3 X 0 [(0, .ref 69), (1, .int m_), (2, .int k_)] [] μ
  refine V_iload_n hX dX9_seen_0 1 rfl ?_
  refine V_iconst (v := nI 0) hX dX9_seen_1 (by decide) ?_
  refine V_bipush (v := nI 59) hX dX9_seen_2 (by decide) ?_
  refine V_callS (As := [.int m_, .int (nI 0), .int (nI 59)]) (st := []) hX mX9_75 (k_in ?_) rfl (Nat.le_of_ble_eq_true rfl) (Nat.le_of_ble_eq_true rfl) dX9_seen_4
  show V G 3 X 7 [(0, .ref 69), (1, .int m_), (2, .int k_)] [.int (bI (nI 0 ≤ m_ ∧ m_ ≤ nI 59))] μ
  refine V_if_eqB (tgt := 20) hX dX9_seen_7 (by decide) (fun c7 => ?_) (fun c7 => ?_)
  · refine V_bipush (v := (-2)) hX dX9_seen_20 (by decide) ?_
    refine V_iret hX rfl dX9_seen_22 ?_
    have h9 := hQ μ
    rw [show seenS P m_ k_ = (-2, P) from if_neg (fun z => c7 z.1)] at h9
    exact hR _ _ (h9 hRM (keepC.rf μ))
  · refine V_iload_n hX dX9_seen_10 2 rfl ?_
    refine V_iconst (v := nI 0) hX dX9_seen_11 (by decide) ?_
    refine V_bipush (v := nI 8) hX dX9_seen_12 (by decide) ?_
    refine V_callS (As := [.int k_, .int (nI 0), .int (nI 8)]) (st := []) hX mX9_75 (k_in ?_) rfl (Nat.le_of_ble_eq_true rfl) (Nat.le_of_ble_eq_true rfl) dX9_seen_14
    show V G 3 X 17 [(0, .ref 69), (1, .int m_), (2, .int k_)] [.int (bI (nI 0 ≤ k_ ∧ k_ ≤ nI 8))] μ
    refine V_if_neB (tgt := 23) hX dX9_seen_17 (by decide) (fun c17 => ?_) (fun c17 => ?_)
    · obtain ⟨a, ha0, ha7, rfl⟩ := nat_of_in (by decide) (by decide) c7
      obtain ⟨b, hb0, hb7, rfl⟩ := nat_of_in (by decide) (by decide) c17
      refine V_aload_n hX dX9_seen_23 0 rfl ?_
      refine V_getN (x := nI (P 0 6)) hX fX9_86 rfl (hM.1 6 (by decide)) dX9_seen_24 ?_
      refine V_bipush (v := nI 8) hX dX9_seen_27 (by decide) ?_
      refine V_icmp_neN (tgt := 35) hX dX9_seen_29 (by decide) (by first | omega | exact shl8 (by omega) | exact or_lt256 (by omega) (by omega) | exact clr_lt256 _ (by omega)) (by first | omega | exact shl8 (by omega) | exact or_lt256 (by omega) (by omega) | exact clr_lt256 _ (by omega)) (fun c29 => ?_) (fun c29 => ?_)
      · refine V_aload_n hX dX9_seen_35 0 rfl ?_
        refine V_getr (j := 74) hX fX9_32 rfl rfl dX9_seen_36 ?_
        refine V_iconst (v := nI 2) hX dX9_seen_39 (by decide) ?_
        refine V_aload_n hX dX9_seen_40 0 rfl ?_
        refine V_getN (x := nI (P 0 6)) hX fX9_86 rfl (hM.1 6 (by decide)) dX9_seen_41 ?_
        refine V_imulN hX dX9_seen_44 ?_
        refine V_iload_n hX dX9_seen_45 1 rfl ?_
        refine V_iastN hX rfl (by first | omega | exact shl8 (by omega) | exact or_lt256 (by omega) (by omega) | exact clr_lt256 _ (by omega)) (by decide) dX9_seen_46 ?_
        show V G 3 X 47 [(0, .ref 69), (1, .int (nI a)), (2, .int (nI b))] [] (vup μ.1 74 (2 * (P 0 6)) (nI a), μ.2)
        refine V_aload_n hX dX9_seen_47 0 rfl ?_
        refine V_getr (j := 74) hX fX9_32 rfl rfl dX9_seen_48 ?_
        refine V_iconst (v := nI 2) hX dX9_seen_51 (by decide) ?_
        refine V_aload_n hX dX9_seen_52 0 rfl ?_
        refine V_getN (x := nI (P 0 6)) hX fX9_86 rfl (hM.1 6 (by decide)) dX9_seen_53 ?_
        refine V_imulN hX dX9_seen_56 ?_
        refine V_iconst (v := nI 1) hX dX9_seen_57 (by decide) ?_
        refine V_iaddN hX dX9_seen_58 ?_
        refine V_iload_n hX dX9_seen_59 2 rfl ?_
        refine V_iastN hX rfl (by first | omega | exact shl8 (by omega) | exact or_lt256 (by omega) (by omega) | exact clr_lt256 _ (by omega)) (by decide) dX9_seen_60 ?_
        show V G 3 X 61 [(0, .ref 69), (1, .int (nI a)), (2, .int (nI b))] [] (vup (vup μ.1 74 (2 * (P 0 6)) (nI a)) 74 ((2 * (P 0 6)) + 1) (nI b), μ.2)
        refine V_aload_n hX dX9_seen_61 0 rfl ?_
        refine V_dup hX dX9_seen_62 rfl ?_
        refine V_getN (x := nI (P 0 6)) hX fX9_86 rfl (hM.1 6 (by decide)) dX9_seen_63 ?_
        refine V_iconst (v := nI 1) hX dX9_seen_66 (by decide) ?_
        refine V_iaddN hX dX9_seen_67 ?_
        refine V_puti hX fX9_86 fw_8_10 rfl dX9_seen_68 ?_
        show V G 3 X 71 [(0, .ref 69), (1, .int (nI a)), (2, .int (nI b))] [] (vup (vup (vup μ.1 74 (2 * (P 0 6)) (nI a)) 74 ((2 * (P 0 6)) + 1) (nI b)) 69 10 (nI ((P 0 6) + 1)), μ.2)
        refine V_aload_n hX dX9_seen_71 0 rfl ?_
        refine V_getN (x := nI ((P 0 6) + 1)) hX fX9_86 rfl rfl dX9_seen_72 ?_
        refine V_iret hX rfl dX9_seen_75 ?_
        have h9 := hQ (vup (vup (vup μ.1 74 (2 * (P 0 6)) (nI a)) 74 ((2 * (P 0 6)) + 1) (nI b)) 69 10 (nI ((P 0 6) + 1)), μ.2)
        rw [show seenS P (nI a) (nI b) = _ from (if_pos ⟨c7, c17⟩).trans (if_neg c29)] at h9
        rw [nI_clamp (by omega), nI_clamp (by omega)] at h9
        exact hR _ _ (h9 ((hRM.sights (P 0 6) a b).put 6 (by decide) (P 0 6 + 1)) (((keepC.put (by decide)).tr (keepC.put (by decide))).tr (keepC.put (by decide))))
      · refine V_bipush (v := (-4)) hX dX9_seen_32 (by decide) ?_
        refine V_iret hX rfl dX9_seen_34 ?_
        have h9 := hQ μ
        rw [show seenS P (nI a) (nI b) = (-4, P) from (if_pos ⟨c7, c17⟩).trans (if_pos c29)] at h9
        exact hR _ _ (h9 hRM (keepC.rf μ))
    · refine V_bipush (v := (-2)) hX dX9_seen_20 (by decide) ?_
      refine V_iret hX rfl dX9_seen_22 ?_
      have h9 := hQ μ
      rw [show seenS P m_ k_ = (-2, P) from if_neg (fun z => c17 z.2)] at h9
      exact hR _ _ (h9 hRM (keepC.rf μ))
set_option maxRecDepth 100000 in
set_option maxHeartbeats 4000000 in
theorem kM_set0 {G : VG} {d : Nat} {μ : VS} {Q : Option Value → VS → Prop} {P : PC} {L : Nat} {S κ : Nat → Nat} {I : Nat → PC} {v_ : Int32} (hRM : RM μ P L S κ I) (hQ : ∀ μ', RM μ' (setS P (nI 0) v_).2 L S κ I → keepC μ μ' → Q (some (.int (setS P (nI 0) v_).1)) μ') : Call G (d + 2) yX9_set cX9_set 5 (some .int) [.ref 69, .int (nI 0), .int v_] μ Q := by
  intro X hX hR
  have hM := hRM.1
  have hL := hRM.2.1
  show V G 5 X 0 [(0, .ref 69), (1, .int (nI 0)), (2, .int v_)] [] μ
  refine V_iload_n hX dX9_set_0 1 rfl ?_
  refine V_if_neN (tgt := 14) hX dX9_set_1 (by decide) (by omega) (fun c1 => ?_) (fun c1 => ?_)
  · exact absurd c1 (by decide)
  · refine V_iload_n hX dX9_set_4 2 rfl ?_
    refine V_iconst (v := nI 1) hX dX9_set_5 (by decide) ?_
    refine V_bipush (v := nI 9) hX dX9_set_6 (by decide) ?_
    refine V_callS (As := [.int v_, .int (nI 1), .int (nI 9)]) (st := []) hX mX9_75 (k_in ?_) rfl (Nat.le_of_ble_eq_true rfl) (Nat.le_of_ble_eq_true rfl) dX9_set_8
    show V G 5 X 11 [(0, .ref 69), (1, .int (nI 0)), (2, .int v_)] [.int (bI (nI 1 ≤ v_ ∧ v_ ≤ nI 9))] μ
    refine V_goto (tgt := 48) hX dX9_set_11 (by decide) ?_
    refine V_istore_n (ls' := [(0, .ref 69), (1, .int (nI 0)), (2, .int v_), (3, .int (bI (nI 1 ≤ v_ ∧ v_ ≤ nI 9)))]) hX dX9_set_48 (by decide) rfl ?_
    refine V_iload_n hX dX9_set_49 3 rfl ?_
    refine V_if_neB (tgt := 56) hX dX9_set_50 (by decide) (fun c50 => ?_) (fun c50 => ?_)
    · obtain ⟨j, hj0, hj7, rfl⟩ := nat_of_in (by decide) (by decide) c50
      refine V_iload_n hX dX9_set_56 1 rfl ?_
      refine V_if_neN (tgt := 67) hX dX9_set_57 (by decide) (by omega) (fun c57 => ?_) (fun c57 => ?_)
      · exact absurd c57 (by decide)
      · refine V_aload_n hX dX9_set_60 0 rfl ?_
        refine V_getN (x := nI (P 0 1)) hX fX9_26 rfl (hM.1 1 (by decide)) dX9_set_61 ?_
        refine V_goto (tgt := 83) hX dX9_set_64 (by decide) ?_
        refine V_istore (ls' := [(0, .ref 69), (1, .int (nI 0)), (2, .int (nI j)), (3, .int (bI (nI 1 ≤ (nI j) ∧ (nI j) ≤ nI 9))), (4, .int (nI (P 0 1)))]) hX dX9_set_83 (by decide) rfl ?_
        refine V_aload_n hX dX9_set_85 0 rfl ?_
        refine V_iload_n hX dX9_set_86 1 rfl ?_
        refine V_if_neN (tgt := 94) hX dX9_set_87 (by decide) (by omega) (fun c87 => ?_) (fun c87 => ?_)
        · exact absurd c87 (by decide)
        · refine V_iload_n hX dX9_set_90 2 rfl ?_
          refine V_goto (tgt := 98) hX dX9_set_91 (by decide) ?_
          refine V_puti hX fX9_26 fw_8_7 rfl dX9_set_98 ?_
          show V G 5 X 101 [(0, .ref 69), (1, .int (nI 0)), (2, .int (nI j)), (3, .int (bI (nI 1 ≤ (nI j) ∧ (nI j) ≤ nI 9))), (4, .int (nI (P 0 1)))] [] (vup μ.1 69 7 (nI j), μ.2)
          refine V_aload_n hX dX9_set_101 0 rfl ?_
          refine V_iload_n hX dX9_set_102 1 rfl ?_
          refine V_iconst (v := nI 1) hX dX9_set_103 (by decide) ?_
          refine V_icmp_neN (tgt := 111) hX dX9_set_104 (by decide) (by omega) (by omega) (fun c104 => ?_) (fun c104 => ?_)
          · refine V_aload_n hX dX9_set_111 0 rfl ?_
            refine V_getN (x := nI (P 0 2)) hX fX9_29 rfl (hM.1 2 (by decide)) dX9_set_112 ?_
            refine V_puti hX fX9_29 fw_8_8 rfl dX9_set_115 ?_
            show V G 5 X 118 [(0, .ref 69), (1, .int (nI 0)), (2, .int (nI j)), (3, .int (bI (nI 1 ≤ (nI j) ∧ (nI j) ≤ nI 9))), (4, .int (nI (P 0 1)))] [] (vup (vup μ.1 69 7 (nI j)) 69 8 (nI (P 0 2)), μ.2)
            refine V_aload_n hX dX9_set_118 0 rfl ?_
            refine V_iload_n hX dX9_set_119 1 rfl ?_
            refine V_iconst (v := nI 2) hX dX9_set_120 (by decide) ?_
            refine V_icmp_neN (tgt := 128) hX dX9_set_121 (by decide) (by omega) (by omega) (fun c121 => ?_) (fun c121 => ?_)
            · refine V_aload_n hX dX9_set_128 0 rfl ?_
              refine V_getN (x := nI (P 0 3)) hX fX9_89 rfl (hM.1 3 (by decide)) dX9_set_129 ?_
              refine V_puti hX fX9_89 fw_8_9 rfl dX9_set_132 ?_
              show V G 5 X 135 [(0, .ref 69), (1, .int (nI 0)), (2, .int (nI j)), (3, .int (bI (nI 1 ≤ (nI j) ∧ (nI j) ≤ nI 9))), (4, .int (nI (P 0 1)))] [] (vup (vup (vup μ.1 69 7 (nI j)) 69 8 (nI (P 0 2))) 69 9 (nI (P 0 3)), μ.2)
              refine V_iload hX dX9_set_135 4 rfl ?_
              refine V_iret hX rfl dX9_set_137 ?_
              have h9 := hQ (vup (vup (vup μ.1 69 7 (nI j)) 69 8 (nI (P 0 2))) 69 9 (nI (P 0 3)), μ.2)
              rw [show setS P (nI 0) (nI j) = _ from (if_pos rfl).trans (if_pos c50)] at h9
              rw [nI_clamp (by omega)] at h9
              exact hR _ _ (h9 ((((hRM.put 1 (by decide) j).put 2 (by decide) (P 0 2)).put 3 (by decide) (P 0 3)).congr (by intro a b; simp only [vup_get]; repeat' split <;> (try rfl) <;> simp_all)) (((keepC.put (by decide)).tr (keepC.put (by decide))).tr (keepC.put (by decide))))
            · exact absurd c121 (by decide)
          · exact absurd c104 (by decide)
    · refine V_bipush (v := (-2)) hX dX9_set_53 (by decide) ?_
      refine V_iret hX rfl dX9_set_55 ?_
      have h9 := hQ μ
      rw [show setS P (nI 0) v_ = (-2, P) from (if_pos rfl).trans (if_neg c50)] at h9
      exact hR _ _ (h9 hRM (keepC.rf μ))
set_option maxRecDepth 100000 in
set_option maxHeartbeats 4000000 in
theorem kM_set1 {G : VG} {d : Nat} {μ : VS} {Q : Option Value → VS → Prop} {P : PC} {L : Nat} {S κ : Nat → Nat} {I : Nat → PC} {v_ : Int32} (hRM : RM μ P L S κ I) (hQ : ∀ μ', RM μ' (setS P (nI 1) v_).2 L S κ I → keepC μ μ' → Q (some (.int (setS P (nI 1) v_).1)) μ') : Call G (d + 2) yX9_set cX9_set 5 (some .int) [.ref 69, .int (nI 1), .int v_] μ Q := by
  intro X hX hR
  have hM := hRM.1
  have hL := hRM.2.1
  show V G 5 X 0 [(0, .ref 69), (1, .int (nI 1)), (2, .int v_)] [] μ
  refine V_iload_n hX dX9_set_0 1 rfl ?_
  refine V_if_neN (tgt := 14) hX dX9_set_1 (by decide) (by omega) (fun c1 => ?_) (fun c1 => ?_)
  · refine V_iload_n hX dX9_set_14 1 rfl ?_
    refine V_iconst (v := nI 1) hX dX9_set_15 (by decide) ?_
    refine V_icmp_neN (tgt := 29) hX dX9_set_16 (by decide) (by omega) (by omega) (fun c16 => ?_) (fun c16 => ?_)
    · exact absurd c16 (by decide)
    · refine V_iload_n hX dX9_set_19 2 rfl ?_
      refine V_iconst (v := nI 0) hX dX9_set_20 (by decide) ?_
      refine V_bipush (v := nI 9) hX dX9_set_21 (by decide) ?_
      refine V_callS (As := [.int v_, .int (nI 0), .int (nI 9)]) (st := []) hX mX9_75 (k_in ?_) rfl (Nat.le_of_ble_eq_true rfl) (Nat.le_of_ble_eq_true rfl) dX9_set_23
      show V G 5 X 26 [(0, .ref 69), (1, .int (nI 1)), (2, .int v_)] [.int (bI (nI 0 ≤ v_ ∧ v_ ≤ nI 9))] μ
      refine V_goto (tgt := 48) hX dX9_set_26 (by decide) ?_
      refine V_istore_n (ls' := [(0, .ref 69), (1, .int (nI 1)), (2, .int v_), (3, .int (bI (nI 0 ≤ v_ ∧ v_ ≤ nI 9)))]) hX dX9_set_48 (by decide) rfl ?_
      refine V_iload_n hX dX9_set_49 3 rfl ?_
      refine V_if_neB (tgt := 56) hX dX9_set_50 (by decide) (fun c50 => ?_) (fun c50 => ?_)
      · obtain ⟨j, hj0, hj7, rfl⟩ := nat_of_in (by decide) (by decide) c50
        refine V_iload_n hX dX9_set_56 1 rfl ?_
        refine V_if_neN (tgt := 67) hX dX9_set_57 (by decide) (by omega) (fun c57 => ?_) (fun c57 => ?_)
        · refine V_iload_n hX dX9_set_67 1 rfl ?_
          refine V_iconst (v := nI 1) hX dX9_set_68 (by decide) ?_
          refine V_icmp_neN (tgt := 79) hX dX9_set_69 (by decide) (by omega) (by omega) (fun c69 => ?_) (fun c69 => ?_)
          · exact absurd c69 (by decide)
          · refine V_aload_n hX dX9_set_72 0 rfl ?_
            refine V_getN (x := nI (P 0 2)) hX fX9_29 rfl (hM.1 2 (by decide)) dX9_set_73 ?_
            refine V_goto (tgt := 83) hX dX9_set_76 (by decide) ?_
            refine V_istore (ls' := [(0, .ref 69), (1, .int (nI 1)), (2, .int (nI j)), (3, .int (bI (nI 0 ≤ (nI j) ∧ (nI j) ≤ nI 9))), (4, .int (nI (P 0 2)))]) hX dX9_set_83 (by decide) rfl ?_
            refine V_aload_n hX dX9_set_85 0 rfl ?_
            refine V_iload_n hX dX9_set_86 1 rfl ?_
            refine V_if_neN (tgt := 94) hX dX9_set_87 (by decide) (by omega) (fun c87 => ?_) (fun c87 => ?_)
            · refine V_aload_n hX dX9_set_94 0 rfl ?_
              refine V_getN (x := nI (P 0 1)) hX fX9_26 rfl (hM.1 1 (by decide)) dX9_set_95 ?_
              refine V_puti hX fX9_26 fw_8_7 rfl dX9_set_98 ?_
              show V G 5 X 101 [(0, .ref 69), (1, .int (nI 1)), (2, .int (nI j)), (3, .int (bI (nI 0 ≤ (nI j) ∧ (nI j) ≤ nI 9))), (4, .int (nI (P 0 2)))] [] (vup μ.1 69 7 (nI (P 0 1)), μ.2)
              refine V_aload_n hX dX9_set_101 0 rfl ?_
              refine V_iload_n hX dX9_set_102 1 rfl ?_
              refine V_iconst (v := nI 1) hX dX9_set_103 (by decide) ?_
              refine V_icmp_neN (tgt := 111) hX dX9_set_104 (by decide) (by omega) (by omega) (fun c104 => ?_) (fun c104 => ?_)
              · exact absurd c104 (by decide)
              · refine V_iload_n hX dX9_set_107 2 rfl ?_
                refine V_goto (tgt := 115) hX dX9_set_108 (by decide) ?_
                refine V_puti hX fX9_29 fw_8_8 rfl dX9_set_115 ?_
                show V G 5 X 118 [(0, .ref 69), (1, .int (nI 1)), (2, .int (nI j)), (3, .int (bI (nI 0 ≤ (nI j) ∧ (nI j) ≤ nI 9))), (4, .int (nI (P 0 2)))] [] (vup (vup μ.1 69 7 (nI (P 0 1))) 69 8 (nI j), μ.2)
                refine V_aload_n hX dX9_set_118 0 rfl ?_
                refine V_iload_n hX dX9_set_119 1 rfl ?_
                refine V_iconst (v := nI 2) hX dX9_set_120 (by decide) ?_
                refine V_icmp_neN (tgt := 128) hX dX9_set_121 (by decide) (by omega) (by omega) (fun c121 => ?_) (fun c121 => ?_)
                · refine V_aload_n hX dX9_set_128 0 rfl ?_
                  refine V_getN (x := nI (P 0 3)) hX fX9_89 rfl (hM.1 3 (by decide)) dX9_set_129 ?_
                  refine V_puti hX fX9_89 fw_8_9 rfl dX9_set_132 ?_
                  show V G 5 X 135 [(0, .ref 69), (1, .int (nI 1)), (2, .int (nI j)), (3, .int (bI (nI 0 ≤ (nI j) ∧ (nI j) ≤ nI 9))), (4, .int (nI (P 0 2)))] [] (vup (vup (vup μ.1 69 7 (nI (P 0 1))) 69 8 (nI j)) 69 9 (nI (P 0 3)), μ.2)
                  refine V_iload hX dX9_set_135 4 rfl ?_
                  refine V_iret hX rfl dX9_set_137 ?_
                  have h9 := hQ (vup (vup (vup μ.1 69 7 (nI (P 0 1))) 69 8 (nI j)) 69 9 (nI (P 0 3)), μ.2)
                  rw [show setS P (nI 1) (nI j) = _ from ((if_neg (by decide)).trans (if_pos rfl)).trans (if_pos c50)] at h9
                  rw [nI_clamp (by omega)] at h9
                  exact hR _ _ (h9 ((((hRM.put 1 (by decide) (P 0 1)).put 2 (by decide) j).put 3 (by decide) (P 0 3)).congr (by intro a b; simp only [vup_get]; repeat' split <;> (try rfl) <;> simp_all)) (((keepC.put (by decide)).tr (keepC.put (by decide))).tr (keepC.put (by decide))))
                · exact absurd c121 (by decide)
            · exact absurd c87 (by decide)
        · exact absurd c57 (by decide)
      · refine V_bipush (v := (-2)) hX dX9_set_53 (by decide) ?_
        refine V_iret hX rfl dX9_set_55 ?_
        have h9 := hQ μ
        rw [show setS P (nI 1) v_ = (-2, P) from ((if_neg (by decide)).trans (if_pos rfl)).trans (if_neg c50)] at h9
        exact hR _ _ (h9 hRM (keepC.rf μ))
  · exact absurd c1 (by decide)
set_option maxRecDepth 100000 in
set_option maxHeartbeats 4000000 in
theorem kM_set2 {G : VG} {d : Nat} {μ : VS} {Q : Option Value → VS → Prop} {P : PC} {L : Nat} {S κ : Nat → Nat} {I : Nat → PC} {v_ : Int32} (hRM : RM μ P L S κ I) (hQ : ∀ μ', RM μ' (setS P (nI 2) v_).2 L S κ I → keepC μ μ' → Q (some (.int (setS P (nI 2) v_).1)) μ') : Call G (d + 2) yX9_set cX9_set 5 (some .int) [.ref 69, .int (nI 2), .int v_] μ Q := by
  intro X hX hR
  have hM := hRM.1
  have hL := hRM.2.1
  show V G 5 X 0 [(0, .ref 69), (1, .int (nI 2)), (2, .int v_)] [] μ
  refine V_iload_n hX dX9_set_0 1 rfl ?_
  refine V_if_neN (tgt := 14) hX dX9_set_1 (by decide) (by omega) (fun c1 => ?_) (fun c1 => ?_)
  · refine V_iload_n hX dX9_set_14 1 rfl ?_
    refine V_iconst (v := nI 1) hX dX9_set_15 (by decide) ?_
    refine V_icmp_neN (tgt := 29) hX dX9_set_16 (by decide) (by omega) (by omega) (fun c16 => ?_) (fun c16 => ?_)
    · refine V_iload_n hX dX9_set_29 1 rfl ?_
      refine V_iconst (v := nI 2) hX dX9_set_30 (by decide) ?_
      refine V_icmp_neN (tgt := 47) hX dX9_set_31 (by decide) (by omega) (by omega) (fun c31 => ?_) (fun c31 => ?_)
      · exact absurd c31 (by decide)
      · refine V_iload_n hX dX9_set_34 2 rfl ?_
        refine V_iconst (v := nI 0) hX dX9_set_35 (by decide) ?_
        refine V_iconst (v := nI 2) hX dX9_set_36 (by decide) ?_
        refine V_callS (As := [.int v_, .int (nI 0), .int (nI 2)]) (st := []) hX mX9_75 (k_in ?_) rfl (Nat.le_of_ble_eq_true rfl) (Nat.le_of_ble_eq_true rfl) dX9_set_37
        show V G 5 X 40 [(0, .ref 69), (1, .int (nI 2)), (2, .int v_)] [.int (bI (nI 0 ≤ v_ ∧ v_ ≤ nI 2))] μ
        refine V_if_eqB (tgt := 47) hX dX9_set_40 (by decide) (fun c40 => ?_) (fun c40 => ?_)
        · refine V_iconst (v := nI 0) hX dX9_set_47 (by decide) ?_
          refine V_istore_n (ls' := [(0, .ref 69), (1, .int (nI 2)), (2, .int v_), (3, .int (nI 0))]) hX dX9_set_48 (by decide) rfl ?_
          refine V_iload_n hX dX9_set_49 3 rfl ?_
          refine V_if_neN (tgt := 56) hX dX9_set_50 (by decide) (by omega) (fun c50 => ?_) (fun c50 => ?_)
          · exact absurd c50 (by decide)
          · refine V_bipush (v := (-2)) hX dX9_set_53 (by decide) ?_
            refine V_iret hX rfl dX9_set_55 ?_
            have h9 := hQ μ
            rw [show setS P (nI 2) v_ = (-2, P) from ((if_neg (by decide)).trans ((if_neg (by decide)).trans (if_pos rfl))).trans (if_neg c40)] at h9
            exact hR _ _ (h9 hRM (keepC.rf μ))
        · refine V_iconst (v := nI 1) hX dX9_set_43 (by decide) ?_
          refine V_goto (tgt := 48) hX dX9_set_44 (by decide) ?_
          refine V_istore_n (ls' := [(0, .ref 69), (1, .int (nI 2)), (2, .int v_), (3, .int (nI 1))]) hX dX9_set_48 (by decide) rfl ?_
          refine V_iload_n hX dX9_set_49 3 rfl ?_
          refine V_if_neN (tgt := 56) hX dX9_set_50 (by decide) (by omega) (fun c50 => ?_) (fun c50 => ?_)
          · obtain ⟨j, hj0, hj7, rfl⟩ := nat_of_in (by decide) (by decide) c40
            refine V_iload_n hX dX9_set_56 1 rfl ?_
            refine V_if_neN (tgt := 67) hX dX9_set_57 (by decide) (by omega) (fun c57 => ?_) (fun c57 => ?_)
            · refine V_iload_n hX dX9_set_67 1 rfl ?_
              refine V_iconst (v := nI 1) hX dX9_set_68 (by decide) ?_
              refine V_icmp_neN (tgt := 79) hX dX9_set_69 (by decide) (by omega) (by omega) (fun c69 => ?_) (fun c69 => ?_)
              · refine V_aload_n hX dX9_set_79 0 rfl ?_
                refine V_getN (x := nI (P 0 3)) hX fX9_89 rfl (hM.1 3 (by decide)) dX9_set_80 ?_
                refine V_istore (ls' := [(0, .ref 69), (1, .int (nI 2)), (2, .int (nI j)), (3, .int (nI 1)), (4, .int (nI (P 0 3)))]) hX dX9_set_83 (by decide) rfl ?_
                refine V_aload_n hX dX9_set_85 0 rfl ?_
                refine V_iload_n hX dX9_set_86 1 rfl ?_
                refine V_if_neN (tgt := 94) hX dX9_set_87 (by decide) (by omega) (fun c87 => ?_) (fun c87 => ?_)
                · refine V_aload_n hX dX9_set_94 0 rfl ?_
                  refine V_getN (x := nI (P 0 1)) hX fX9_26 rfl (hM.1 1 (by decide)) dX9_set_95 ?_
                  refine V_puti hX fX9_26 fw_8_7 rfl dX9_set_98 ?_
                  show V G 5 X 101 [(0, .ref 69), (1, .int (nI 2)), (2, .int (nI j)), (3, .int (nI 1)), (4, .int (nI (P 0 3)))] [] (vup μ.1 69 7 (nI (P 0 1)), μ.2)
                  refine V_aload_n hX dX9_set_101 0 rfl ?_
                  refine V_iload_n hX dX9_set_102 1 rfl ?_
                  refine V_iconst (v := nI 1) hX dX9_set_103 (by decide) ?_
                  refine V_icmp_neN (tgt := 111) hX dX9_set_104 (by decide) (by omega) (by omega) (fun c104 => ?_) (fun c104 => ?_)
                  · refine V_aload_n hX dX9_set_111 0 rfl ?_
                    refine V_getN (x := nI (P 0 2)) hX fX9_29 rfl (hM.1 2 (by decide)) dX9_set_112 ?_
                    refine V_puti hX fX9_29 fw_8_8 rfl dX9_set_115 ?_
                    show V G 5 X 118 [(0, .ref 69), (1, .int (nI 2)), (2, .int (nI j)), (3, .int (nI 1)), (4, .int (nI (P 0 3)))] [] (vup (vup μ.1 69 7 (nI (P 0 1))) 69 8 (nI (P 0 2)), μ.2)
                    refine V_aload_n hX dX9_set_118 0 rfl ?_
                    refine V_iload_n hX dX9_set_119 1 rfl ?_
                    refine V_iconst (v := nI 2) hX dX9_set_120 (by decide) ?_
                    refine V_icmp_neN (tgt := 128) hX dX9_set_121 (by decide) (by omega) (by omega) (fun c121 => ?_) (fun c121 => ?_)
                    · exact absurd c121 (by decide)
                    · refine V_iload_n hX dX9_set_124 2 rfl ?_
                      refine V_goto (tgt := 132) hX dX9_set_125 (by decide) ?_
                      refine V_puti hX fX9_89 fw_8_9 rfl dX9_set_132 ?_
                      show V G 5 X 135 [(0, .ref 69), (1, .int (nI 2)), (2, .int (nI j)), (3, .int (nI 1)), (4, .int (nI (P 0 3)))] [] (vup (vup (vup μ.1 69 7 (nI (P 0 1))) 69 8 (nI (P 0 2))) 69 9 (nI j), μ.2)
                      refine V_iload hX dX9_set_135 4 rfl ?_
                      refine V_iret hX rfl dX9_set_137 ?_
                      have h9 := hQ (vup (vup (vup μ.1 69 7 (nI (P 0 1))) 69 8 (nI (P 0 2))) 69 9 (nI j), μ.2)
                      rw [show setS P (nI 2) (nI j) = _ from ((if_neg (by decide)).trans ((if_neg (by decide)).trans (if_pos rfl))).trans (if_pos c40)] at h9
                      rw [nI_clamp (by omega)] at h9
                      exact hR _ _ (h9 ((((hRM.put 1 (by decide) (P 0 1)).put 2 (by decide) (P 0 2)).put 3 (by decide) j).congr (by intro a b; simp only [vup_get]; repeat' split <;> (try rfl) <;> simp_all)) (((keepC.put (by decide)).tr (keepC.put (by decide))).tr (keepC.put (by decide))))
                  · exact absurd c104 (by decide)
                · exact absurd c87 (by decide)
              · exact absurd c69 (by decide)
            · exact absurd c57 (by decide)
          · exact absurd c50 (by decide)
    · exact absurd c16 (by decide)
  · exact absurd c1 (by decide)
set_option maxRecDepth 100000 in
set_option maxHeartbeats 4000000 in
theorem kM_set3 {G : VG} {d : Nat} {μ : VS} {Q : Option Value → VS → Prop} {P : PC} {L : Nat} {S κ : Nat → Nat} {I : Nat → PC} {w_ v_ : Int32} (e0 : ¬ w_ = 0) (e1 : ¬ w_ = 1) (e2 : ¬ w_ = 2) (hRM : RM μ P L S κ I) (hQ : ∀ μ', RM μ' (setS P w_ v_).2 L S κ I → keepC μ μ' → Q (some (.int (setS P w_ v_).1)) μ') : Call G (d + 2) yX9_set cX9_set 5 (some .int) [.ref 69, .int w_, .int v_] μ Q := by
  intro X hX hR
  have hM := hRM.1
  have hL := hRM.2.1
  show V G 5 X 0 [(0, .ref 69), (1, .int w_), (2, .int v_)] [] μ
  refine V_iload_n hX dX9_set_0 1 rfl ?_
  refine V_if_ne (tgt := 14) hX dX9_set_1 (by decide) (fun c1 => ?_) (fun c1 => ?_)
  · refine V_iload_n hX dX9_set_14 1 rfl ?_
    refine V_iconst (v := nI 1) hX dX9_set_15 (by decide) ?_
    refine V_icmp_ne (tgt := 29) hX dX9_set_16 (by decide) (fun c16 => ?_) (fun c16 => ?_)
    · refine V_iload_n hX dX9_set_29 1 rfl ?_
      refine V_iconst (v := nI 2) hX dX9_set_30 (by decide) ?_
      refine V_icmp_ne (tgt := 47) hX dX9_set_31 (by decide) (fun c31 => ?_) (fun c31 => ?_)
      · refine V_iconst (v := nI 0) hX dX9_set_47 (by decide) ?_
        refine V_istore_n (ls' := [(0, .ref 69), (1, .int w_), (2, .int v_), (3, .int (nI 0))]) hX dX9_set_48 (by decide) rfl ?_
        refine V_iload_n hX dX9_set_49 3 rfl ?_
        refine V_if_neN (tgt := 56) hX dX9_set_50 (by decide) (by omega) (fun c50 => ?_) (fun c50 => ?_)
        · exact absurd c50 (by decide)
        · refine V_bipush (v := (-2)) hX dX9_set_53 (by decide) ?_
          refine V_iret hX rfl dX9_set_55 ?_
          have h9 := hQ μ
          rw [show setS P w_ v_ = (-2, P) from (if_neg e0).trans ((if_neg e1).trans (if_neg e2))] at h9
          exact hR _ _ (h9 hRM (keepC.rf μ))
      · exact absurd c31 e2
    · exact absurd c16 e1
  · exact absurd c1 e0
theorem kM_set {G : VG} {d : Nat} {μ : VS} {Q : Option Value → VS → Prop} {P : PC} {L : Nat} {S κ : Nat → Nat} {I : Nat → PC} {w_ v_ : Int32} (hRM : RM μ P L S κ I) (hQ : ∀ μ', RM μ' (setS P w_ v_).2 L S κ I → keepC μ μ' → Q (some (.int (setS P w_ v_).1)) μ') : Call G (d + 2) yX9_set cX9_set 5 (some .int) [.ref 69, .int w_, .int v_] μ Q := by
  by_cases e0 : w_ = 0
  · subst e0; exact kM_set0 hRM hQ
  · by_cases e1 : w_ = 1
    · subst e1; exact kM_set1 hRM hQ
    · by_cases e2 : w_ = 2
      · subst e2; exact kM_set2 hRM hQ
      · exact kM_set3 e0 e1 e2 hRM hQ
theorem sitK_cases (P : PC) (s k : Nat) : sitK P s k = -6 ∨ ∃ h, h < k ∧ pPres P h = true ∧ P 1 h = s ∧ sitK P s k = nI h := by
  induction k with
  | zero => exact Or.inl rfl
  | succ k ih =>
    unfold sitK
    by_cases c : pPres P k = true ∧ P 1 k = s
    · rw [if_pos c]
      exact Or.inr ⟨k, by omega, c.1, c.2, rfl⟩
    · rw [if_neg c]
      rcases ih with h | ⟨h, h1, h2⟩
      · exact Or.inl h
      · exact Or.inr ⟨h, by omega, h2⟩
theorem sitK_neg {P : PC} {s k : Nat} (hk : k < 1000) (h : sitK P s k < 0) : sitK P s k = -6 := by
  rcases sitK_cases P s k with e | ⟨g, h1, -, -, e⟩
  · exact e
  · rw [e] at h
    exact absurd h (nI_pos (by omega))
set_option maxRecDepth 100000 in
set_option maxHeartbeats 4000000 in
theorem kM_hearer {G : VG} {d : Nat} {μ : VS} {Q : Option Value → VS → Prop} {P : PC} {L : Nat} {S κ : Nat → Nat} {I : Nat → PC} {h_ s_ a_ e_ c_ u_ : Int32} (hRM : RM μ P L S κ I) (hok : okP P) (hQ : ∀ μ', RM μ' (hearerS P h_ s_ a_ e_ c_ u_).2 L S κ I → keepC μ μ' → Q (some (.int (hearerS P h_ s_ a_ e_ c_ u_).1)) μ') : Call G (d + 2) yX9_hearer cX9_hearer 7 (some .int) [.ref 69, .int h_, .int s_, .int a_, .int e_, .int c_, .int u_] μ Q := by
  intro X hX hR
  have hM := hRM.1
  have hL := hRM.2.1
  have hr1 := hok.1.1
  have hr3 := hok.1.2
  have hP4 := hok.2.2.2.2.1
  have hP5 := hok.2.2.2.2.2.1
  have h12 : ∀ h, h < 8 → P 1 h < 12 := fun h hh => (hok.2.2.2.2.2.2.2.1 h hh).1
  show V G 7 X 0 [(0, .ref 69), (1, .int h_), (2, .int s_), (3, .int a_), (4, .int e_), (5, .int c_), (6, .int u_)] [] μ
  refine V_iload_n hX dX9_hearer_0 1 rfl ?_
  refine V_iconst (v := nI 0) hX dX9_hearer_1 (by decide) ?_
  refine V_bipush (v := nI 7) hX dX9_hearer_2 (by decide) ?_
  refine V_callS (As := [.int h_, .int (nI 0), .int (nI 7)]) (st := []) hX mX9_75 (k_in ?_) rfl (Nat.le_of_ble_eq_true rfl) (Nat.le_of_ble_eq_true rfl) dX9_hearer_4
  show V G 7 X 7 [(0, .ref 69), (1, .int h_), (2, .int s_), (3, .int a_), (4, .int e_), (5, .int c_), (6, .int u_)] [.int (bI (nI 0 ≤ h_ ∧ h_ ≤ nI 7))] μ
  refine V_if_eqB (tgt := 26) hX dX9_hearer_7 (by decide) (fun c7 => ?_) (fun c7 => ?_)
  · refine V_iconst (v := (-1)) hX dX9_hearer_26 (by decide) ?_
    refine V_iret hX rfl dX9_hearer_27 ?_
    have h9 := hQ μ
    rw [show hearerS P h_ s_ a_ e_ c_ u_ = (-1, P) from if_neg (fun z => c7 z.1)] at h9
    exact hR _ _ (h9 hRM (keepC.rf μ))
  · refine V_iload_n hX dX9_hearer_10 2 rfl ?_
    refine V_iconst (v := nI 0) hX dX9_hearer_11 (by decide) ?_
    refine V_iconst (v := nI 4) hX dX9_hearer_12 (by decide) ?_
    refine V_aload_n hX dX9_hearer_13 0 rfl ?_
    refine V_getN (x := nI (P 0 0)) hX fX9_7 rfl (hM.1 0 (by decide)) dX9_hearer_14 ?_
    refine V_imulN hX dX9_hearer_17 ?_
    refine V_iconst (v := nI 1) hX dX9_hearer_18 (by decide) ?_
    refine V_isubN hX dX9_hearer_19 (by omega) ?_
    refine V_callS (As := [.int s_, .int (nI 0), .int (nI ((4 * (P 0 0)) - 1))]) (st := []) hX mX9_75 (k_in ?_) rfl (Nat.le_of_ble_eq_true rfl) (Nat.le_of_ble_eq_true rfl) dX9_hearer_20
    show V G 7 X 23 [(0, .ref 69), (1, .int h_), (2, .int s_), (3, .int a_), (4, .int e_), (5, .int c_), (6, .int u_)] [.int (bI (nI 0 ≤ s_ ∧ s_ ≤ nI ((4 * (P 0 0)) - 1)))] μ
    refine V_if_neB (tgt := 28) hX dX9_hearer_23 (by decide) (fun c23 => ?_) (fun c23 => ?_)
    · obtain ⟨h1, hh0, hh7, eh⟩ := nat_of_in (by decide) (by decide) c7
      obtain ⟨s1, hs0, hs7, es⟩ := nat_of_in (by decide) (by omega) c23
      subst eh
      subst es
      refine V_iload_n hX dX9_hearer_28 3 rfl ?_
      refine V_iconst (v := nI 0) hX dX9_hearer_29 (by decide) ?_
      refine V_bipush (v := nI 20) hX dX9_hearer_30 (by decide) ?_
      refine V_callS (As := [.int a_, .int (nI 0), .int (nI 20)]) (st := []) hX mX9_75 (k_in ?_) rfl (Nat.le_of_ble_eq_true rfl) (Nat.le_of_ble_eq_true rfl) dX9_hearer_32
      show V G 7 X 35 [(0, .ref 69), (1, .int (nI h1)), (2, .int (nI s1)), (3, .int a_), (4, .int e_), (5, .int c_), (6, .int u_)] [.int (bI (nI 0 ≤ a_ ∧ a_ ≤ nI 20))] μ
      refine V_if_eqB (tgt := 58) hX dX9_hearer_35 (by decide) (fun c35 => ?_) (fun c35 => ?_)
      · refine V_bipush (v := (-2)) hX dX9_hearer_58 (by decide) ?_
        refine V_iret hX rfl dX9_hearer_60 ?_
        have h9 := hQ μ
        rw [show hearerS P (nI h1) (nI s1) a_ e_ c_ u_ = (-2, P) from (if_pos ⟨c7, c23⟩).trans (if_neg (fun z => c35 z.1))] at h9
        exact hR _ _ (h9 hRM (keepC.rf μ))
      · refine V_iload hX dX9_hearer_38 4 rfl ?_
        refine V_iconst (v := nI 0) hX dX9_hearer_40 (by decide) ?_
        refine V_iconst (v := nI 5) hX dX9_hearer_41 (by decide) ?_
        refine V_callS (As := [.int e_, .int (nI 0), .int (nI 5)]) (st := []) hX mX9_75 (k_in ?_) rfl (Nat.le_of_ble_eq_true rfl) (Nat.le_of_ble_eq_true rfl) dX9_hearer_42
        show V G 7 X 45 [(0, .ref 69), (1, .int (nI h1)), (2, .int (nI s1)), (3, .int a_), (4, .int e_), (5, .int c_), (6, .int u_)] [.int (bI (nI 0 ≤ e_ ∧ e_ ≤ nI 5))] μ
        refine V_if_eqB (tgt := 58) hX dX9_hearer_45 (by decide) (fun c45 => ?_) (fun c45 => ?_)
        · refine V_bipush (v := (-2)) hX dX9_hearer_58 (by decide) ?_
          refine V_iret hX rfl dX9_hearer_60 ?_
          have h9 := hQ μ
          rw [show hearerS P (nI h1) (nI s1) a_ e_ c_ u_ = (-2, P) from (if_pos ⟨c7, c23⟩).trans (if_neg (fun z => c45 z.2.1))] at h9
          exact hR _ _ (h9 hRM (keepC.rf μ))
        · refine V_iload hX dX9_hearer_48 5 rfl ?_
          refine V_iconst (v := nI 0) hX dX9_hearer_50 (by decide) ?_
          refine V_iconst (v := nI 1) hX dX9_hearer_51 (by decide) ?_
          refine V_callS (As := [.int c_, .int (nI 0), .int (nI 1)]) (st := []) hX mX9_75 (k_in ?_) rfl (Nat.le_of_ble_eq_true rfl) (Nat.le_of_ble_eq_true rfl) dX9_hearer_52
          show V G 7 X 55 [(0, .ref 69), (1, .int (nI h1)), (2, .int (nI s1)), (3, .int a_), (4, .int e_), (5, .int c_), (6, .int u_)] [.int (bI (nI 0 ≤ c_ ∧ c_ ≤ nI 1))] μ
          refine V_if_neB (tgt := 61) hX dX9_hearer_55 (by decide) (fun c55 => ?_) (fun c55 => ?_)
          · obtain ⟨a1, ha0, ha7, ea⟩ := nat_of_in (by decide) (by decide) c35
            obtain ⟨d1, hd0, hd7, ed⟩ := nat_of_in (by decide) (by decide) c45
            obtain ⟨e1, he0, he7, ee⟩ := nat_of_in (by decide) (by decide) c55
            subst ea
            subst ed
            subst ee
            refine V_aload_n hX dX9_hearer_61 0 rfl ?_
            refine V_iload_n hX dX9_hearer_62 2 rfl ?_
            refine V_callV (As := [.int (nI s1)]) (st := []) hX mX9_92 rfl (kM_whoSits hM (by omega) h12 (by omega) ?_) rfl (Nat.le_of_ble_eq_true rfl) (Nat.le_of_ble_eq_true rfl) dX9_hearer_63
            show V G 7 X 66 [(0, .ref 69), (1, .int (nI h1)), (2, .int (nI s1)), (3, .int (nI a1)), (4, .int (nI d1)), (5, .int (nI e1)), (6, .int u_)] [.int (sitK P s1 8)] μ
            refine V_if_lt (tgt := 81) hX dX9_hearer_66 (by decide) (fun c66 => ?_) (fun c66 => ?_)
            · refine V_aload_n hX dX9_hearer_81 0 rfl ?_
              refine V_dup hX dX9_hearer_82 rfl ?_
              refine V_getN (x := nI (P 0 4)) hX fX9_72 rfl (hM.1 4 (by decide)) dX9_hearer_83 ?_
              refine V_iconst (v := nI 1) hX dX9_hearer_86 (by decide) ?_
              refine V_iload_n hX dX9_hearer_87 1 rfl ?_
              refine V_ishlN hX dX9_hearer_88 (by first | omega | exact shl8 (by omega) | exact or_lt256 (by omega) (by omega) | exact clr_lt256 _ (by omega)) (by first | omega | exact shl8 (by omega) | exact or_lt256 (by omega) (by omega) | exact clr_lt256 _ (by omega)) ?_
              refine V_iorN hX dX9_hearer_89 ?_
              refine V_puti hX fX9_72 fw_8_1 rfl dX9_hearer_90 ?_
              show V G 7 X 93 [(0, .ref 69), (1, .int (nI h1)), (2, .int (nI s1)), (3, .int (nI a1)), (4, .int (nI d1)), (5, .int (nI e1)), (6, .int u_)] [] (vup μ.1 69 1 (nI ((P 0 4) ||| (1 <<< h1))), μ.2)
              refine V_aload_n hX dX9_hearer_93 0 rfl ?_
              refine V_getr (j := 70) hX fX9_13 rfl rfl dX9_hearer_94 ?_
              refine V_iload_n hX dX9_hearer_97 1 rfl ?_
              refine V_iload_n hX dX9_hearer_98 2 rfl ?_
              refine V_iastN hX rfl (by first | omega | exact shl8 (by omega) | exact or_lt256 (by omega) (by omega) | exact clr_lt256 _ (by omega)) (by decide) dX9_hearer_99 ?_
              show V G 7 X 100 [(0, .ref 69), (1, .int (nI h1)), (2, .int (nI s1)), (3, .int (nI a1)), (4, .int (nI d1)), (5, .int (nI e1)), (6, .int u_)] [] (vup (vup μ.1 69 1 (nI ((P 0 4) ||| (1 <<< h1)))) 70 h1 (nI s1), μ.2)
              refine V_aload_n hX dX9_hearer_100 0 rfl ?_
              refine V_getr (j := 71) hX fX9_17 rfl rfl dX9_hearer_101 ?_
              refine V_iload_n hX dX9_hearer_104 1 rfl ?_
              refine V_iload_n hX dX9_hearer_105 3 rfl ?_
              refine V_iastN hX rfl (by first | omega | exact shl8 (by omega) | exact or_lt256 (by omega) (by omega) | exact clr_lt256 _ (by omega)) (by decide) dX9_hearer_106 ?_
              show V G 7 X 107 [(0, .ref 69), (1, .int (nI h1)), (2, .int (nI s1)), (3, .int (nI a1)), (4, .int (nI d1)), (5, .int (nI e1)), (6, .int u_)] [] (vup (vup (vup μ.1 69 1 (nI ((P 0 4) ||| (1 <<< h1)))) 70 h1 (nI s1)) 71 h1 (nI a1), μ.2)
              refine V_aload_n hX dX9_hearer_107 0 rfl ?_
              refine V_getr (j := 72) hX fX9_20 rfl rfl dX9_hearer_108 ?_
              refine V_iload_n hX dX9_hearer_111 1 rfl ?_
              refine V_iload hX dX9_hearer_112 4 rfl ?_
              refine V_iastN hX rfl (by first | omega | exact shl8 (by omega) | exact or_lt256 (by omega) (by omega) | exact clr_lt256 _ (by omega)) (by decide) dX9_hearer_114 ?_
              show V G 7 X 115 [(0, .ref 69), (1, .int (nI h1)), (2, .int (nI s1)), (3, .int (nI a1)), (4, .int (nI d1)), (5, .int (nI e1)), (6, .int u_)] [] (vup (vup (vup (vup μ.1 69 1 (nI ((P 0 4) ||| (1 <<< h1)))) 70 h1 (nI s1)) 71 h1 (nI a1)) 72 h1 (nI d1), μ.2)
              refine V_aload_n hX dX9_hearer_115 0 rfl ?_
              refine V_getr (j := 73) hX fX9_23 rfl rfl dX9_hearer_116 ?_
              refine V_iload_n hX dX9_hearer_119 1 rfl ?_
              refine V_iload hX dX9_hearer_120 5 rfl ?_
              refine V_iastN hX rfl (by first | omega | exact shl8 (by omega) | exact or_lt256 (by omega) (by omega) | exact clr_lt256 _ (by omega)) (by decide) dX9_hearer_122 ?_
              show V G 7 X 123 [(0, .ref 69), (1, .int (nI h1)), (2, .int (nI s1)), (3, .int (nI a1)), (4, .int (nI d1)), (5, .int (nI e1)), (6, .int u_)] [] (vup (vup (vup (vup (vup μ.1 69 1 (nI ((P 0 4) ||| (1 <<< h1)))) 70 h1 (nI s1)) 71 h1 (nI a1)) 72 h1 (nI d1)) 73 h1 (nI e1), μ.2)
              refine V_aload_n hX dX9_hearer_123 0 rfl ?_
              refine V_iload hX dX9_hearer_124 6 rfl ?_
              refine V_if_eq (tgt := 140) hX dX9_hearer_126 (by decide) (fun c126 => ?_) (fun c126 => ?_)
              · refine V_aload_n hX dX9_hearer_140 0 rfl ?_
                refine V_getN (x := nI (P 0 5)) hX fX9_83 rfl (hM.1 5 (by decide)) dX9_hearer_141 ?_
                refine V_iconst (v := nI 1) hX dX9_hearer_144 (by decide) ?_
                refine V_iload_n hX dX9_hearer_145 1 rfl ?_
                refine V_ishlN hX dX9_hearer_146 (by first | omega | exact shl8 (by omega) | exact or_lt256 (by omega) (by omega) | exact clr_lt256 _ (by omega)) (by first | omega | exact shl8 (by omega) | exact or_lt256 (by omega) (by omega) | exact clr_lt256 _ (by omega)) ?_
                refine V_iconst (v := nI 4294967295) hX dX9_hearer_147 (by decide) ?_
                refine V_ixorN hX dX9_hearer_148 ?_
                refine V_iandN hX dX9_hearer_149 ?_
                refine V_puti hX fX9_83 fw_8_6 rfl dX9_hearer_150 ?_
                show V G 7 X 153 [(0, .ref 69), (1, .int (nI h1)), (2, .int (nI s1)), (3, .int (nI a1)), (4, .int (nI d1)), (5, .int (nI e1)), (6, .int u_)] [] (vup (vup (vup (vup (vup (vup μ.1 69 1 (nI ((P 0 4) ||| (1 <<< h1)))) 70 h1 (nI s1)) 71 h1 (nI a1)) 72 h1 (nI d1)) 73 h1 (nI e1)) 69 6 (nI ((P 0 5) &&& ((1 <<< h1) ^^^ 4294967295))), μ.2)
                refine V_aload_n hX dX9_hearer_153 0 rfl ?_
                refine V_getN (x := nI ((P 0 4) ||| (1 <<< h1))) hX fX9_72 rfl rfl dX9_hearer_154 ?_
                refine V_callS (As := [.int (nI ((P 0 4) ||| (1 <<< h1)))]) (st := []) hX mX9_96 (k_bits (by first | omega | exact shl8 (by omega) | exact or_lt256 (by omega) (by omega) | exact clr_lt256 _ (by omega)) ?_) rfl (Nat.le_of_ble_eq_true rfl) (Nat.le_of_ble_eq_true rfl) dX9_hearer_157
                show V G 7 X 160 [(0, .ref 69), (1, .int (nI h1)), (2, .int (nI s1)), (3, .int (nI a1)), (4, .int (nI d1)), (5, .int (nI e1)), (6, .int u_)] [.int (nI (popN ((P 0 4) ||| (1 <<< h1)) 8))] (vup (vup (vup (vup (vup (vup μ.1 69 1 (nI ((P 0 4) ||| (1 <<< h1)))) 70 h1 (nI s1)) 71 h1 (nI a1)) 72 h1 (nI d1)) 73 h1 (nI e1)) 69 6 (nI ((P 0 5) &&& ((1 <<< h1) ^^^ 4294967295))), μ.2)
                refine V_iret hX rfl dX9_hearer_160 ?_
                have h9 := hQ (vup (vup (vup (vup (vup (vup μ.1 69 1 (nI ((P 0 4) ||| (1 <<< h1)))) 70 h1 (nI s1)) 71 h1 (nI a1)) 72 h1 (nI d1)) 73 h1 (nI e1)) 69 6 (nI ((P 0 5) &&& ((1 <<< h1) ^^^ 4294967295))), μ.2)
                rw [show hearerS P (nI h1) (nI s1) (nI a1) (nI d1) (nI e1) u_ = _ from (if_pos ⟨c7, c23⟩).trans ((if_pos ⟨c35, c45, c55⟩).trans (if_pos (Or.inl (by rw [nI_clamp (by omega)]; exact sitK_neg (by decide) c66))))] at h9
                rw [nI_clamp (by omega), nI_clamp (by omega), nI_clamp (by omega), nI_clamp (by omega), nI_clamp (by omega), show decide (¬ u_ = 0) = false from decide_eq_false (fun z => z c126)] at h9
                exact hR _ _ (h9 ((((((hRM.put 4 (by decide) _).arr 0 (by decide) h1 s1).arr 1 (by decide) h1 a1).arr 2 (by decide) h1 d1).arr 3 (by decide) h1 e1).put 5 (by decide) _) ((((((keepC.put (by decide)).tr (keepC.put (by decide))).tr (keepC.put (by decide))).tr (keepC.put (by decide))).tr (keepC.put (by decide))).tr (keepC.put (by decide))))
              · refine V_aload_n hX dX9_hearer_129 0 rfl ?_
                refine V_getN (x := nI (P 0 5)) hX fX9_83 rfl (hM.1 5 (by decide)) dX9_hearer_130 ?_
                refine V_iconst (v := nI 1) hX dX9_hearer_133 (by decide) ?_
                refine V_iload_n hX dX9_hearer_134 1 rfl ?_
                refine V_ishlN hX dX9_hearer_135 (by first | omega | exact shl8 (by omega) | exact or_lt256 (by omega) (by omega) | exact clr_lt256 _ (by omega)) (by first | omega | exact shl8 (by omega) | exact or_lt256 (by omega) (by omega) | exact clr_lt256 _ (by omega)) ?_
                refine V_iorN hX dX9_hearer_136 ?_
                refine V_goto (tgt := 150) hX dX9_hearer_137 (by decide) ?_
                refine V_puti hX fX9_83 fw_8_6 rfl dX9_hearer_150 ?_
                show V G 7 X 153 [(0, .ref 69), (1, .int (nI h1)), (2, .int (nI s1)), (3, .int (nI a1)), (4, .int (nI d1)), (5, .int (nI e1)), (6, .int u_)] [] (vup (vup (vup (vup (vup (vup μ.1 69 1 (nI ((P 0 4) ||| (1 <<< h1)))) 70 h1 (nI s1)) 71 h1 (nI a1)) 72 h1 (nI d1)) 73 h1 (nI e1)) 69 6 (nI ((P 0 5) ||| (1 <<< h1))), μ.2)
                refine V_aload_n hX dX9_hearer_153 0 rfl ?_
                refine V_getN (x := nI ((P 0 4) ||| (1 <<< h1))) hX fX9_72 rfl rfl dX9_hearer_154 ?_
                refine V_callS (As := [.int (nI ((P 0 4) ||| (1 <<< h1)))]) (st := []) hX mX9_96 (k_bits (by first | omega | exact shl8 (by omega) | exact or_lt256 (by omega) (by omega) | exact clr_lt256 _ (by omega)) ?_) rfl (Nat.le_of_ble_eq_true rfl) (Nat.le_of_ble_eq_true rfl) dX9_hearer_157
                show V G 7 X 160 [(0, .ref 69), (1, .int (nI h1)), (2, .int (nI s1)), (3, .int (nI a1)), (4, .int (nI d1)), (5, .int (nI e1)), (6, .int u_)] [.int (nI (popN ((P 0 4) ||| (1 <<< h1)) 8))] (vup (vup (vup (vup (vup (vup μ.1 69 1 (nI ((P 0 4) ||| (1 <<< h1)))) 70 h1 (nI s1)) 71 h1 (nI a1)) 72 h1 (nI d1)) 73 h1 (nI e1)) 69 6 (nI ((P 0 5) ||| (1 <<< h1))), μ.2)
                refine V_iret hX rfl dX9_hearer_160 ?_
                have h9 := hQ (vup (vup (vup (vup (vup (vup μ.1 69 1 (nI ((P 0 4) ||| (1 <<< h1)))) 70 h1 (nI s1)) 71 h1 (nI a1)) 72 h1 (nI d1)) 73 h1 (nI e1)) 69 6 (nI ((P 0 5) ||| (1 <<< h1))), μ.2)
                rw [show hearerS P (nI h1) (nI s1) (nI a1) (nI d1) (nI e1) u_ = _ from (if_pos ⟨c7, c23⟩).trans ((if_pos ⟨c35, c45, c55⟩).trans (if_pos (Or.inl (by rw [nI_clamp (by omega)]; exact sitK_neg (by decide) c66))))] at h9
                rw [nI_clamp (by omega), nI_clamp (by omega), nI_clamp (by omega), nI_clamp (by omega), nI_clamp (by omega), show decide (¬ u_ = 0) = true from decide_eq_true c126] at h9
                exact hR _ _ (h9 ((((((hRM.put 4 (by decide) _).arr 0 (by decide) h1 s1).arr 1 (by decide) h1 a1).arr 2 (by decide) h1 d1).arr 3 (by decide) h1 e1).put 5 (by decide) _) ((((((keepC.put (by decide)).tr (keepC.put (by decide))).tr (keepC.put (by decide))).tr (keepC.put (by decide))).tr (keepC.put (by decide))).tr (keepC.put (by decide))))
            · refine V_aload_n hX dX9_hearer_69 0 rfl ?_
              refine V_iload_n hX dX9_hearer_70 2 rfl ?_
              refine V_callV (As := [.int (nI s1)]) (st := []) hX mX9_92 rfl (kM_whoSits hM (by omega) h12 (by omega) ?_) rfl (Nat.le_of_ble_eq_true rfl) (Nat.le_of_ble_eq_true rfl) dX9_hearer_71
              show V G 7 X 74 [(0, .ref 69), (1, .int (nI h1)), (2, .int (nI s1)), (3, .int (nI a1)), (4, .int (nI d1)), (5, .int (nI e1)), (6, .int u_)] [.int (sitK P s1 8)] μ
              refine V_iload_n hX dX9_hearer_74 1 rfl ?_
              refine V_icmp_eq (tgt := 81) hX dX9_hearer_75 (by decide) (fun c75 => ?_) (fun c75 => ?_)
              · refine V_aload_n hX dX9_hearer_81 0 rfl ?_
                refine V_dup hX dX9_hearer_82 rfl ?_
                refine V_getN (x := nI (P 0 4)) hX fX9_72 rfl (hM.1 4 (by decide)) dX9_hearer_83 ?_
                refine V_iconst (v := nI 1) hX dX9_hearer_86 (by decide) ?_
                refine V_iload_n hX dX9_hearer_87 1 rfl ?_
                refine V_ishlN hX dX9_hearer_88 (by first | omega | exact shl8 (by omega) | exact or_lt256 (by omega) (by omega) | exact clr_lt256 _ (by omega)) (by first | omega | exact shl8 (by omega) | exact or_lt256 (by omega) (by omega) | exact clr_lt256 _ (by omega)) ?_
                refine V_iorN hX dX9_hearer_89 ?_
                refine V_puti hX fX9_72 fw_8_1 rfl dX9_hearer_90 ?_
                show V G 7 X 93 [(0, .ref 69), (1, .int (nI h1)), (2, .int (nI s1)), (3, .int (nI a1)), (4, .int (nI d1)), (5, .int (nI e1)), (6, .int u_)] [] (vup μ.1 69 1 (nI ((P 0 4) ||| (1 <<< h1))), μ.2)
                refine V_aload_n hX dX9_hearer_93 0 rfl ?_
                refine V_getr (j := 70) hX fX9_13 rfl rfl dX9_hearer_94 ?_
                refine V_iload_n hX dX9_hearer_97 1 rfl ?_
                refine V_iload_n hX dX9_hearer_98 2 rfl ?_
                refine V_iastN hX rfl (by first | omega | exact shl8 (by omega) | exact or_lt256 (by omega) (by omega) | exact clr_lt256 _ (by omega)) (by decide) dX9_hearer_99 ?_
                show V G 7 X 100 [(0, .ref 69), (1, .int (nI h1)), (2, .int (nI s1)), (3, .int (nI a1)), (4, .int (nI d1)), (5, .int (nI e1)), (6, .int u_)] [] (vup (vup μ.1 69 1 (nI ((P 0 4) ||| (1 <<< h1)))) 70 h1 (nI s1), μ.2)
                refine V_aload_n hX dX9_hearer_100 0 rfl ?_
                refine V_getr (j := 71) hX fX9_17 rfl rfl dX9_hearer_101 ?_
                refine V_iload_n hX dX9_hearer_104 1 rfl ?_
                refine V_iload_n hX dX9_hearer_105 3 rfl ?_
                refine V_iastN hX rfl (by first | omega | exact shl8 (by omega) | exact or_lt256 (by omega) (by omega) | exact clr_lt256 _ (by omega)) (by decide) dX9_hearer_106 ?_
                show V G 7 X 107 [(0, .ref 69), (1, .int (nI h1)), (2, .int (nI s1)), (3, .int (nI a1)), (4, .int (nI d1)), (5, .int (nI e1)), (6, .int u_)] [] (vup (vup (vup μ.1 69 1 (nI ((P 0 4) ||| (1 <<< h1)))) 70 h1 (nI s1)) 71 h1 (nI a1), μ.2)
                refine V_aload_n hX dX9_hearer_107 0 rfl ?_
                refine V_getr (j := 72) hX fX9_20 rfl rfl dX9_hearer_108 ?_
                refine V_iload_n hX dX9_hearer_111 1 rfl ?_
                refine V_iload hX dX9_hearer_112 4 rfl ?_
                refine V_iastN hX rfl (by first | omega | exact shl8 (by omega) | exact or_lt256 (by omega) (by omega) | exact clr_lt256 _ (by omega)) (by decide) dX9_hearer_114 ?_
                show V G 7 X 115 [(0, .ref 69), (1, .int (nI h1)), (2, .int (nI s1)), (3, .int (nI a1)), (4, .int (nI d1)), (5, .int (nI e1)), (6, .int u_)] [] (vup (vup (vup (vup μ.1 69 1 (nI ((P 0 4) ||| (1 <<< h1)))) 70 h1 (nI s1)) 71 h1 (nI a1)) 72 h1 (nI d1), μ.2)
                refine V_aload_n hX dX9_hearer_115 0 rfl ?_
                refine V_getr (j := 73) hX fX9_23 rfl rfl dX9_hearer_116 ?_
                refine V_iload_n hX dX9_hearer_119 1 rfl ?_
                refine V_iload hX dX9_hearer_120 5 rfl ?_
                refine V_iastN hX rfl (by first | omega | exact shl8 (by omega) | exact or_lt256 (by omega) (by omega) | exact clr_lt256 _ (by omega)) (by decide) dX9_hearer_122 ?_
                show V G 7 X 123 [(0, .ref 69), (1, .int (nI h1)), (2, .int (nI s1)), (3, .int (nI a1)), (4, .int (nI d1)), (5, .int (nI e1)), (6, .int u_)] [] (vup (vup (vup (vup (vup μ.1 69 1 (nI ((P 0 4) ||| (1 <<< h1)))) 70 h1 (nI s1)) 71 h1 (nI a1)) 72 h1 (nI d1)) 73 h1 (nI e1), μ.2)
                refine V_aload_n hX dX9_hearer_123 0 rfl ?_
                refine V_iload hX dX9_hearer_124 6 rfl ?_
                refine V_if_eq (tgt := 140) hX dX9_hearer_126 (by decide) (fun c126 => ?_) (fun c126 => ?_)
                · refine V_aload_n hX dX9_hearer_140 0 rfl ?_
                  refine V_getN (x := nI (P 0 5)) hX fX9_83 rfl (hM.1 5 (by decide)) dX9_hearer_141 ?_
                  refine V_iconst (v := nI 1) hX dX9_hearer_144 (by decide) ?_
                  refine V_iload_n hX dX9_hearer_145 1 rfl ?_
                  refine V_ishlN hX dX9_hearer_146 (by first | omega | exact shl8 (by omega) | exact or_lt256 (by omega) (by omega) | exact clr_lt256 _ (by omega)) (by first | omega | exact shl8 (by omega) | exact or_lt256 (by omega) (by omega) | exact clr_lt256 _ (by omega)) ?_
                  refine V_iconst (v := nI 4294967295) hX dX9_hearer_147 (by decide) ?_
                  refine V_ixorN hX dX9_hearer_148 ?_
                  refine V_iandN hX dX9_hearer_149 ?_
                  refine V_puti hX fX9_83 fw_8_6 rfl dX9_hearer_150 ?_
                  show V G 7 X 153 [(0, .ref 69), (1, .int (nI h1)), (2, .int (nI s1)), (3, .int (nI a1)), (4, .int (nI d1)), (5, .int (nI e1)), (6, .int u_)] [] (vup (vup (vup (vup (vup (vup μ.1 69 1 (nI ((P 0 4) ||| (1 <<< h1)))) 70 h1 (nI s1)) 71 h1 (nI a1)) 72 h1 (nI d1)) 73 h1 (nI e1)) 69 6 (nI ((P 0 5) &&& ((1 <<< h1) ^^^ 4294967295))), μ.2)
                  refine V_aload_n hX dX9_hearer_153 0 rfl ?_
                  refine V_getN (x := nI ((P 0 4) ||| (1 <<< h1))) hX fX9_72 rfl rfl dX9_hearer_154 ?_
                  refine V_callS (As := [.int (nI ((P 0 4) ||| (1 <<< h1)))]) (st := []) hX mX9_96 (k_bits (by first | omega | exact shl8 (by omega) | exact or_lt256 (by omega) (by omega) | exact clr_lt256 _ (by omega)) ?_) rfl (Nat.le_of_ble_eq_true rfl) (Nat.le_of_ble_eq_true rfl) dX9_hearer_157
                  show V G 7 X 160 [(0, .ref 69), (1, .int (nI h1)), (2, .int (nI s1)), (3, .int (nI a1)), (4, .int (nI d1)), (5, .int (nI e1)), (6, .int u_)] [.int (nI (popN ((P 0 4) ||| (1 <<< h1)) 8))] (vup (vup (vup (vup (vup (vup μ.1 69 1 (nI ((P 0 4) ||| (1 <<< h1)))) 70 h1 (nI s1)) 71 h1 (nI a1)) 72 h1 (nI d1)) 73 h1 (nI e1)) 69 6 (nI ((P 0 5) &&& ((1 <<< h1) ^^^ 4294967295))), μ.2)
                  refine V_iret hX rfl dX9_hearer_160 ?_
                  have h9 := hQ (vup (vup (vup (vup (vup (vup μ.1 69 1 (nI ((P 0 4) ||| (1 <<< h1)))) 70 h1 (nI s1)) 71 h1 (nI a1)) 72 h1 (nI d1)) 73 h1 (nI e1)) 69 6 (nI ((P 0 5) &&& ((1 <<< h1) ^^^ 4294967295))), μ.2)
                  rw [show hearerS P (nI h1) (nI s1) (nI a1) (nI d1) (nI e1) u_ = _ from (if_pos ⟨c7, c23⟩).trans ((if_pos ⟨c35, c45, c55⟩).trans (if_pos (Or.inr (by rw [nI_clamp (by omega)]; exact c75))))] at h9
                  rw [nI_clamp (by omega), nI_clamp (by omega), nI_clamp (by omega), nI_clamp (by omega), nI_clamp (by omega), show decide (¬ u_ = 0) = false from decide_eq_false (fun z => z c126)] at h9
                  exact hR _ _ (h9 ((((((hRM.put 4 (by decide) _).arr 0 (by decide) h1 s1).arr 1 (by decide) h1 a1).arr 2 (by decide) h1 d1).arr 3 (by decide) h1 e1).put 5 (by decide) _) ((((((keepC.put (by decide)).tr (keepC.put (by decide))).tr (keepC.put (by decide))).tr (keepC.put (by decide))).tr (keepC.put (by decide))).tr (keepC.put (by decide))))
                · refine V_aload_n hX dX9_hearer_129 0 rfl ?_
                  refine V_getN (x := nI (P 0 5)) hX fX9_83 rfl (hM.1 5 (by decide)) dX9_hearer_130 ?_
                  refine V_iconst (v := nI 1) hX dX9_hearer_133 (by decide) ?_
                  refine V_iload_n hX dX9_hearer_134 1 rfl ?_
                  refine V_ishlN hX dX9_hearer_135 (by first | omega | exact shl8 (by omega) | exact or_lt256 (by omega) (by omega) | exact clr_lt256 _ (by omega)) (by first | omega | exact shl8 (by omega) | exact or_lt256 (by omega) (by omega) | exact clr_lt256 _ (by omega)) ?_
                  refine V_iorN hX dX9_hearer_136 ?_
                  refine V_goto (tgt := 150) hX dX9_hearer_137 (by decide) ?_
                  refine V_puti hX fX9_83 fw_8_6 rfl dX9_hearer_150 ?_
                  show V G 7 X 153 [(0, .ref 69), (1, .int (nI h1)), (2, .int (nI s1)), (3, .int (nI a1)), (4, .int (nI d1)), (5, .int (nI e1)), (6, .int u_)] [] (vup (vup (vup (vup (vup (vup μ.1 69 1 (nI ((P 0 4) ||| (1 <<< h1)))) 70 h1 (nI s1)) 71 h1 (nI a1)) 72 h1 (nI d1)) 73 h1 (nI e1)) 69 6 (nI ((P 0 5) ||| (1 <<< h1))), μ.2)
                  refine V_aload_n hX dX9_hearer_153 0 rfl ?_
                  refine V_getN (x := nI ((P 0 4) ||| (1 <<< h1))) hX fX9_72 rfl rfl dX9_hearer_154 ?_
                  refine V_callS (As := [.int (nI ((P 0 4) ||| (1 <<< h1)))]) (st := []) hX mX9_96 (k_bits (by first | omega | exact shl8 (by omega) | exact or_lt256 (by omega) (by omega) | exact clr_lt256 _ (by omega)) ?_) rfl (Nat.le_of_ble_eq_true rfl) (Nat.le_of_ble_eq_true rfl) dX9_hearer_157
                  show V G 7 X 160 [(0, .ref 69), (1, .int (nI h1)), (2, .int (nI s1)), (3, .int (nI a1)), (4, .int (nI d1)), (5, .int (nI e1)), (6, .int u_)] [.int (nI (popN ((P 0 4) ||| (1 <<< h1)) 8))] (vup (vup (vup (vup (vup (vup μ.1 69 1 (nI ((P 0 4) ||| (1 <<< h1)))) 70 h1 (nI s1)) 71 h1 (nI a1)) 72 h1 (nI d1)) 73 h1 (nI e1)) 69 6 (nI ((P 0 5) ||| (1 <<< h1))), μ.2)
                  refine V_iret hX rfl dX9_hearer_160 ?_
                  have h9 := hQ (vup (vup (vup (vup (vup (vup μ.1 69 1 (nI ((P 0 4) ||| (1 <<< h1)))) 70 h1 (nI s1)) 71 h1 (nI a1)) 72 h1 (nI d1)) 73 h1 (nI e1)) 69 6 (nI ((P 0 5) ||| (1 <<< h1))), μ.2)
                  rw [show hearerS P (nI h1) (nI s1) (nI a1) (nI d1) (nI e1) u_ = _ from (if_pos ⟨c7, c23⟩).trans ((if_pos ⟨c35, c45, c55⟩).trans (if_pos (Or.inr (by rw [nI_clamp (by omega)]; exact c75))))] at h9
                  rw [nI_clamp (by omega), nI_clamp (by omega), nI_clamp (by omega), nI_clamp (by omega), nI_clamp (by omega), show decide (¬ u_ = 0) = true from decide_eq_true c126] at h9
                  exact hR _ _ (h9 ((((((hRM.put 4 (by decide) _).arr 0 (by decide) h1 s1).arr 1 (by decide) h1 a1).arr 2 (by decide) h1 d1).arr 3 (by decide) h1 e1).put 5 (by decide) _) ((((((keepC.put (by decide)).tr (keepC.put (by decide))).tr (keepC.put (by decide))).tr (keepC.put (by decide))).tr (keepC.put (by decide))).tr (keepC.put (by decide))))
              · refine V_bipush (v := (-3)) hX dX9_hearer_78 (by decide) ?_
                refine V_iret hX rfl dX9_hearer_80 ?_
                have h9 := hQ μ
                rw [show hearerS P (nI h1) (nI s1) (nI a1) (nI d1) (nI e1) u_ = (-3, P) from (if_pos ⟨c7, c23⟩).trans ((if_pos ⟨c35, c45, c55⟩).trans (if_neg (fun z => z.elim (fun q => absurd (by rw [nI_clamp (by omega)] at q; rw [q]; decide : sitK P s1 8 < 0) c66) (fun q => absurd (by rw [nI_clamp (by omega)] at q; exact q) c75))))] at h9
                exact hR _ _ (h9 hRM (keepC.rf μ))
          · refine V_bipush (v := (-2)) hX dX9_hearer_58 (by decide) ?_
            refine V_iret hX rfl dX9_hearer_60 ?_
            have h9 := hQ μ
            rw [show hearerS P (nI h1) (nI s1) a_ e_ c_ u_ = (-2, P) from (if_pos ⟨c7, c23⟩).trans (if_neg (fun z => c55 z.2.2))] at h9
            exact hR _ _ (h9 hRM (keepC.rf μ))
    · refine V_iconst (v := (-1)) hX dX9_hearer_26 (by decide) ?_
      refine V_iret hX rfl dX9_hearer_27 ?_
      have h9 := hQ μ
      rw [show hearerS P h_ s_ a_ e_ c_ u_ = (-1, P) from if_neg (fun z => c23 z.2)] at h9
      exact hR _ _ (h9 hRM (keepC.rf μ))
