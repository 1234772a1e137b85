theorem or_lt256 {a h : Nat} (ha : a < 256) (hh : h < 8) : a ||| 1 <<< h < 256 := by
  have : 1 <<< h < 2 ^ 8 := by
    rw [Nat.shiftLeft_eq, Nat.one_mul]
    exact Nat.pow_lt_pow_right (by decide) hh
  exact Nat.or_lt_two_pow (n := 8) ha this
theorem clr_lt256 {a : Nat} (h : Nat) (ha : a < 256) : clrN a h < 256 := Nat.lt_of_le_of_lt Nat.and_le_left ha
theorem shl8 {h : Nat} (hh : h < 8) : 1 * 2 ^ h < 2 ^ 32 := by
  have : 2 ^ h < 2 ^ 8 := Nat.pow_lt_pow_right (by decide) hh
  omega
theorem tbl_out {x : Int32} (n : Nat) (hn : n < 2 ^ 31) (h : ∀ k, k ≤ n → ¬ x = nI k) : x.toInt < (0 : Int) ∨ ((n : Nat) : Int) < x.toInt := by
  by_cases h1 : x < 0
  · exact Or.inl (Int32.lt_iff_toInt_lt.mp h1)
  · obtain ⟨j, hj, rfl⟩ := nI_of h1
    refine Or.inr ?_
    rw [nI_toInt hj]
    rcases Nat.lt_or_ge n j with q | q
    · omega
    · exact absurd rfl (h j q)
theorem isM.frame {μ μ' : VS} {P : PC} (h : isM μ P) (e : ∀ a, 69 ≤ a → a ≤ 74 → μ'.1 a = μ.1 a) : isM μ' P := by
  refine ⟨fun k hk => ?_, fun j hj q hq => ?_, fun i hi => ?_⟩
  · rw [e 69 (by omega) (by omega)]; exact h.1 k hk
  · rw [e (70 + j) (by omega) (by omega)]; exact h.2.1 j hj q hq
  · rw [e 74 (by omega) (by omega)]; exact h.2.2 i hi
theorem isM.len {μ : VS} {P : PC} (h : isM μ P) (x : Int32) : isM (vup μ.1 69 12 x, μ.2) P := by
  refine ⟨fun k hk => ?_, fun j hj q hq => ?_, h.2.2⟩
  · show vup μ.1 69 12 x 69 (mF k) = _
    have e : ¬ mF k = 12 := (by decide : ∀ k, k < 7 → ¬ mF k = 12) k hk
    rw [vup_get]
    simp only [e, and_false, if_false]
    exact h.1 k hk
  · show vup μ.1 69 12 x (70 + j) q = _
    rw [vup_row _ _ _ (by omega)]
    exact h.2.1 j hj q hq
theorem RM.wipe {μ : VS} {P : PC} {L : Nat} {S κ : Nat → Nat} {I : Nat → PC} (h : RM μ P L S κ I) : RM (vup μ.1 69 12 (nI 0), μ.2) P 0 S κ I := ⟨h.1.len _, ⟨rfl, fun i hi => absurd hi (by omega)⟩, h.2.2⟩
theorem RM.say {μ : VS} {P : PC} {L : Nat} {S κ : Nat → Nat} {I : Nat → PC} (h : RM μ P L S κ I) (v : Nat) : RM (vup (vup μ.1 75 L (nI v)) 69 12 (nI (L + 1)), μ.2) P (L + 1) (fun i => if i = L then v else S i) κ I := by
  refine ⟨isM.len (μ := (vup μ.1 75 L (nI v), μ.2)) (h.1.frame (fun a h1 h2 => vup_row _ _ _ (by omega))) _, ⟨rfl, fun i hi => ?_⟩, h.2.2⟩
  show vup μ.1 75 L (nI v) 75 i = nI (if i = L then v else S i)
  rw [vup_get]
  by_cases e : i = L
  · simp [e]
  · simp only [e, and_false, if_false]; exact h.2.1.2 i (by omega)
set_option maxRecDepth 100000 in
set_option maxHeartbeats 4000000 in
theorem kM_church {G : VG} {d : Nat} {μ : VS} {Q : Option Value → VS → Prop} {P : PC} {L : Nat} {S κ : Nat → Nat} {I : Nat → PC} {n : Int32} (hRM : RM μ P L S κ I) (hQ : ∀ μ', RM μ' (churchS P n).2 L S κ I → keepC μ μ' → Q (some (.int (churchS P n).1)) μ') : Call G (d + 2) yX9_church cX9_church 3 (some .int) [.ref 69, .int n] μ Q := by
  intro X hX hR
  have hM := hRM.1
  have hL := hRM.2.1
  show V G 3 X 0 [(0, .ref 69), (1, .int n)] [] μ
  refine V_iload_n hX dX9_church_0 1 rfl ?_
  refine V_iconst (v := nI 1) hX dX9_church_1 (by decide) ?_
  refine V_iconst (v := nI 3) hX dX9_church_2 (by decide) ?_
  refine V_callS (As := [.int n, .int (nI 1), .int (nI 3)]) (st := []) hX mX9_75 (k_in ?_) rfl (Nat.le_of_ble_eq_true rfl) (Nat.le_of_ble_eq_true rfl) dX9_church_3
  show V G 3 X 6 [(0, .ref 69), (1, .int n)] [.int (bI (nI 1 ≤ n ∧ n ≤ nI 3))] μ
  refine V_if_neB (tgt := 12) hX dX9_church_6 (by decide) (fun c6 => ?_) (fun c6 => ?_)
  · obtain ⟨j, hj0, hj7, rfl⟩ := nat_of_in (by decide) (by decide) c6
    refine V_aload_n hX dX9_church_12 0 rfl ?_
    refine V_getN (x := nI (P 0 0)) hX fX9_7 rfl (hM.1 0 (by decide)) dX9_church_13 ?_
    refine V_istore_n (ls' := [(0, .ref 69), (1, .int (nI j)), (2, .int (nI (P 0 0)))]) hX dX9_church_16 (by decide) rfl ?_
    refine V_aload_n hX dX9_church_17 0 rfl ?_
    refine V_iload_n hX dX9_church_18 1 rfl ?_
    refine V_puti hX fX9_7 fw_8_0 rfl dX9_church_19 ?_
    refine V_aload_n hX dX9_church_22 0 rfl ?_
    refine V_iconst (v := nI 0) hX dX9_church_23 (by decide) ?_
    refine V_puti hX fX9_72 fw_8_1 rfl dX9_church_24 ?_
    refine V_aload_n hX dX9_church_27 0 rfl ?_
    refine V_iconst (v := nI 0) hX dX9_church_28 (by decide) ?_
    refine V_puti hX fX9_83 fw_8_6 rfl dX9_church_29 ?_
    refine V_aload_n hX dX9_church_32 0 rfl ?_
    refine V_iconst (v := nI 0) hX dX9_church_33 (by decide) ?_
    refine V_puti hX fX9_86 fw_8_10 rfl dX9_church_34 ?_
    refine V_aload_n hX dX9_church_37 0 rfl ?_
    refine V_iconst (v := nI 0) hX dX9_church_38 (by decide) ?_
    refine V_puti hX fX9_89 fw_8_9 rfl dX9_church_39 ?_
    refine V_iload_n hX dX9_church_42 2 rfl ?_
    refine V_iret hX rfl dX9_church_43 ?_
    have h9 := hQ (vup (vup (vup (vup (vup μ.1 69 0 (nI j), μ.2).1 69 1 (nI 0), (vup μ.1 69 0 (nI j), μ.2).2).1 69 6 (nI 0), (vup (vup μ.1 69 0 (nI j), μ.2).1 69 1 (nI 0), (vup μ.1 69 0 (nI j), μ.2).2).2).1 69 10 (nI 0), (vup (vup (vup μ.1 69 0 (nI j), μ.2).1 69 1 (nI 0), (vup μ.1 69 0 (nI j), μ.2).2).1 69 6 (nI 0), (vup (vup μ.1 69 0 (nI j), μ.2).1 69 1 (nI 0), (vup μ.1 69 0 (nI j), μ.2).2).2).2).1 69 9 (nI 0), (vup (vup (vup (vup μ.1 69 0 (nI j), μ.2).1 69 1 (nI 0), (vup μ.1 69 0 (nI j), μ.2).2).1 69 6 (nI 0), (vup (vup μ.1 69 0 (nI j), μ.2).1 69 1 (nI 0), (vup μ.1 69 0 (nI j), μ.2).2).2).1 69 10 (nI 0), (vup (vup (vup μ.1 69 0 (nI j), μ.2).1 69 1 (nI 0), (vup μ.1 69 0 (nI j), μ.2).2).1 69 6 (nI 0), (vup (vup μ.1 69 0 (nI j), μ.2).1 69 1 (nI 0), (vup μ.1 69 0 (nI j), μ.2).2).2).2).2)
    rw [show churchS P (nI j) = (nI (P 0 0), _) from if_pos c6] at h9
    rw [nI_clamp (by omega)] at h9
    exact hR _ _ (h9 (((((hRM.put 0 (by decide) j).put 4 (by decide) 0).put 5 (by decide) 0).put 6 (by decide) 0).put 3 (by decide) 0) (((((keepC.put (by decide)).tr (keepC.put (by decide))).tr (keepC.put (by decide))).tr (keepC.put (by decide))).tr (keepC.put (by decide))))
  · refine V_bipush (v := (-2)) hX dX9_church_9 (by decide) ?_
    refine V_iret hX rfl dX9_church_11 ?_
    have h9 := hQ μ
    rw [show churchS P n = (-2, P) from if_neg c6] at h9
    exact hR _ _ (h9 hRM (keepC.rf μ))
set_option maxRecDepth 100000 in
set_option maxHeartbeats 4000000 in
theorem kM_leave {G : VG} {d : Nat} {μ : VS} {Q : Option Value → VS → Prop} {P : PC} {L : Nat} {S κ : Nat → Nat} {I : Nat → PC} {h : Int32} (hRM : RM μ P L S κ I) (hP4 : P 0 4 < 256) (hQ : ∀ μ', RM μ' (leaveS P h).2 L S κ I → keepC μ μ' → Q (some (.int (leaveS P h).1)) μ') : Call G (d + 2) yX9_leave cX9_leave 2 (some .int) [.ref 69, .int h] μ Q := by
  intro X hX hR
  have hM := hRM.1
  have hL := hRM.2.1
  show V G 2 X 0 [(0, .ref 69), (1, .int h)] [] μ
  refine V_aload_n hX dX9_leave_0 0 rfl ?_
  refine V_iload_n hX dX9_leave_1 1 rfl ?_
  refine V_callV (As := [.int h]) (st := []) hX mX9_99 rfl (kM_isThere hM (by omega) ?_) rfl (Nat.le_of_ble_eq_true rfl) (Nat.le_of_ble_eq_true rfl) dX9_leave_2
  show V G 2 X 5 [(0, .ref 69), (1, .int h)] [.int (bI (thr P h))] μ
  refine V_if_neB (tgt := 10) hX dX9_leave_5 (by decide) (fun c5 => ?_) (fun c5 => ?_)
  · obtain ⟨j, hj7, rfl, hpj⟩ := thr_nat c5
    refine V_aload_n hX dX9_leave_10 0 rfl ?_
    refine V_dup hX dX9_leave_11 rfl ?_
    refine V_getN (x := nI (P 0 4)) hX fX9_72 rfl (hM.1 4 (by decide)) dX9_leave_12 ?_
    refine V_iconst (v := nI 1) hX dX9_leave_15 (by decide) ?_
    refine V_iload_n hX dX9_leave_16 1 rfl ?_
    refine V_ishlN hX dX9_leave_17 (by first | omega | exact shl8 (by omega) | exact or_lt256 (by omega) (by omega) | exact clr_lt256 _ (by omega)) (by first | omega | exact shl8 (by omega) | exact or_lt256 (by omega) (by omega) | exact clr_lt256 _ (by omega)) ?_
    refine V_iconst (v := nI 4294967295) hX dX9_leave_18 (by decide) ?_
    refine V_ixorN hX dX9_leave_19 ?_
    refine V_iandN hX dX9_leave_20 ?_
    refine V_puti hX fX9_72 fw_8_1 rfl dX9_leave_21 ?_
    refine V_aload_n hX dX9_leave_24 0 rfl ?_
    refine V_dup hX dX9_leave_25 rfl ?_
    refine V_getN (x := nI (P 0 5)) hX fX9_83 rfl (hM.1 5 (by decide)) dX9_leave_26 ?_
    refine V_iconst (v := nI 1) hX dX9_leave_29 (by decide) ?_
    refine V_iload_n hX dX9_leave_30 1 rfl ?_
    refine V_ishlN hX dX9_leave_31 (by first | omega | exact shl8 (by omega) | exact or_lt256 (by omega) (by omega) | exact clr_lt256 _ (by omega)) (by first | omega | exact shl8 (by omega) | exact or_lt256 (by omega) (by omega) | exact clr_lt256 _ (by omega)) ?_
    refine V_iconst (v := nI 4294967295) hX dX9_leave_32 (by decide) ?_
    refine V_ixorN hX dX9_leave_33 ?_
    refine V_iandN hX dX9_leave_34 ?_
    refine V_puti hX fX9_83 fw_8_6 rfl dX9_leave_35 ?_
    refine V_aload_n hX dX9_leave_38 0 rfl ?_
    refine V_getN (x := nI ((P 0 4) &&& ((1 <<< j) ^^^ 4294967295))) hX fX9_72 rfl rfl dX9_leave_39 ?_
    refine V_callS (As := [.int (nI ((P 0 4) &&& ((1 <<< j) ^^^ 4294967295)))]) (st := []) hX mX9_96 (k_bits (by first | omega | exact shl8 (by omega) | exact or_lt256 (by omega) (by omega) | exact clr_lt256 _ (by omega)) ?_) rfl (Nat.le_of_ble_eq_true rfl) (Nat.le_of_ble_eq_true rfl) dX9_leave_42
    show V G 2 X 45 [(0, .ref 69), (1, .int (nI j))] [.int (nI (popN ((P 0 4) &&& ((1 <<< j) ^^^ 4294967295)) 8))] (vup (vup μ.1 69 1 (nI ((P 0 4) &&& ((1 <<< j) ^^^ 4294967295))), μ.2).1 69 6 (nI ((P 0 5) &&& ((1 <<< j) ^^^ 4294967295))), (vup μ.1 69 1 (nI ((P 0 4) &&& ((1 <<< j) ^^^ 4294967295))), μ.2).2)
    refine V_iret hX rfl dX9_leave_45 ?_
    have h9 := hQ (vup (vup μ.1 69 1 (nI ((P 0 4) &&& ((1 <<< j) ^^^ 4294967295))), μ.2).1 69 6 (nI ((P 0 5) &&& ((1 <<< j) ^^^ 4294967295))), (vup μ.1 69 1 (nI ((P 0 4) &&& ((1 <<< j) ^^^ 4294967295))), μ.2).2)
    rw [show leaveS P (nI j) = _ from if_pos c5] at h9
    rw [nI_clamp (by omega)] at h9
    exact hR _ _ (h9 ((hRM.put 4 (by decide) _).put 5 (by decide) _) ((keepC.put (by decide)).tr (keepC.put (by decide))))
  · refine V_iconst (v := (-1)) hX dX9_leave_8 (by decide) ?_
    refine V_iret hX rfl dX9_leave_9 ?_
    have h9 := hQ μ
    rw [show leaveS P h = (-1, P) from if_neg c5] at h9
    exact hR _ _ (h9 hRM (keepC.rf μ))
set_option maxRecDepth 100000 in
set_option maxHeartbeats 4000000 in
theorem kM_say {G : VG} {d : Nat} {μ : VS} {Q : Option Value → VS → Prop} {P : PC} {L : Nat} {S κ : Nat → Nat} {I : Nat → PC} {s : Int32} (hRM : RM μ P L S κ I) (hL60 : L ≤ 60) (hQ : ∀ μ', RM μ' P (sayS L S s).2.1 (sayS L S s).2.2 κ I → keepC μ μ' → Q (some (.int (sayS L S s).1)) μ') : Call G (d + 2) yX9_say cX9_say 2 (some .int) [.ref 69, .int s] μ Q := by
  intro X hX hR
  have hM := hRM.1
  have hL := hRM.2.1
  show V G 2 X 0 [(0, .ref 69), (1, .int s)] [] μ
  refine V_iload_n hX dX9_say_0 1 rfl ?_
  refine V_bipush (v := nI 33) hX dX9_say_1 (by decide) ?_
  refine V_bipush (v := nI 126) hX dX9_say_3 (by decide) ?_
  refine V_callS (As := [.int s, .int (nI 33), .int (nI 126)]) (st := []) hX mX9_75 (k_in ?_) rfl (Nat.le_of_ble_eq_true rfl) (Nat.le_of_ble_eq_true rfl) dX9_say_5
  show V G 2 X 8 [(0, .ref 69), (1, .int s)] [.int (bI (nI 33 ≤ s ∧ s ≤ nI 126))] μ
  refine V_if_neB (tgt := 14) hX dX9_say_8 (by decide) (fun c8 => ?_) (fun c8 => ?_)
  · obtain ⟨j, hj0, hj7, rfl⟩ := nat_of_in (by decide) (by decide) c8
    refine V_aload_n hX dX9_say_14 0 rfl ?_
    refine V_getN (x := nI L) hX fX9_103 rfl hL.1 dX9_say_15 ?_
    refine V_bipush (v := nI 60) hX dX9_say_18 (by decide) ?_
    refine V_icmp_neN (tgt := 26) hX dX9_say_20 (by decide) (by first | omega | exact shl8 (by omega) | exact or_lt256 (by omega) (by omega) | exact clr_lt256 _ (by omega)) (by first | omega | exact shl8 (by omega) | exact or_lt256 (by omega) (by omega) | exact clr_lt256 _ (by omega)) (fun c20 => ?_) (fun c20 => ?_)
    · refine V_aload_n hX dX9_say_26 0 rfl ?_
      refine V_getr (j := 75) hX fX9_35 rfl rfl dX9_say_27 ?_
      refine V_aload_n hX dX9_say_30 0 rfl ?_
      refine V_getN (x := nI L) hX fX9_103 rfl hL.1 dX9_say_31 ?_
      refine V_iload_n hX dX9_say_34 1 rfl ?_
      refine V_iastN hX rfl (by first | omega | exact shl8 (by omega) | exact or_lt256 (by omega) (by omega) | exact clr_lt256 _ (by omega)) (by decide) dX9_say_35 ?_
      refine V_aload_n hX dX9_say_36 0 rfl ?_
      refine V_dup hX dX9_say_37 rfl ?_
      refine V_getN (x := nI L) hX fX9_103 rfl hL.1 dX9_say_38 ?_
      refine V_iconst (v := nI 1) hX dX9_say_41 (by decide) ?_
      refine V_iaddN hX dX9_say_42 ?_
      refine V_puti hX fX9_103 fw_8_12 rfl dX9_say_43 ?_
      refine V_aload_n hX dX9_say_46 0 rfl ?_
      refine V_getN (x := nI (L + 1)) hX fX9_103 rfl rfl dX9_say_47 ?_
      refine V_iret hX rfl dX9_say_50 ?_
      have h9 := hQ (vup (vup μ.1 75 L (nI j), μ.2).1 69 12 (nI (L + 1)), (vup μ.1 75 L (nI j), μ.2).2)
      rw [show sayS L S (nI j) = _ from (if_pos c8).trans (if_neg c20)] at h9
      rw [nI_clamp (by omega)] at h9
      exact hR _ _ (h9 (hRM.say j) ((keepC.put (by decide)).tr (keepC.put (by decide))))
    · refine V_bipush (v := (-4)) hX dX9_say_23 (by decide) ?_
      refine V_iret hX rfl dX9_say_25 ?_
      have h9 := hQ μ
      rw [show sayS L S (nI j) = (-4, L, S) from (if_pos c8).trans (if_pos c20)] at h9
      exact hR _ _ (h9 hRM (keepC.rf μ))
  · refine V_bipush (v := (-2)) hX dX9_say_11 (by decide) ?_
    refine V_iret hX rfl dX9_say_13 ?_
    have h9 := hQ μ
    rw [show sayS L S s = (-2, L, S) from if_neg c8] at h9
    exact hR _ _ (h9 hRM (keepC.rf μ))
set_option maxRecDepth 100000 in
set_option maxHeartbeats 4000000 in
theorem kM_wipe {G : VG} {d : Nat} {μ : VS} {Q : Option Value → VS → Prop} {P : PC} {L : Nat} {S κ : Nat → Nat} {I : Nat → PC} (hRM : RM μ P L S κ I) (hQ : ∀ μ', RM μ' P 0 S κ I → keepC μ μ' → Q (some (.int (nI L))) μ') : Call G d yX9_wipe cX9_wipe 2 (some .int) [.ref 69] μ Q := by
  intro X hX hR
  have hM := hRM.1
  have hL := hRM.2.1
  show V G 2 X 0 [(0, .ref 69)] [] μ
  refine V_aload_n hX dX9_wipe_0 0 rfl ?_
  refine V_getN (x := nI L) hX fX9_103 rfl hL.1 dX9_wipe_1 ?_
  refine V_istore_n (ls' := [(0, .ref 69), (1, .int (nI L))]) hX dX9_wipe_4 (by decide) rfl ?_
  refine V_aload_n hX dX9_wipe_5 0 rfl ?_
  refine V_iconst (v := nI 0) hX dX9_wipe_6 (by decide) ?_
  refine V_puti hX fX9_103 fw_8_12 rfl dX9_wipe_7 ?_
  refine V_iload_n hX dX9_wipe_10 1 rfl ?_
  refine V_iret hX rfl dX9_wipe_11 ?_
  exact hR _ _ (hQ _ hRM.wipe (keepC.put (by decide)))
set_option maxRecDepth 100000 in
set_option maxHeartbeats 4000000 in
theorem kM_forget {G : VG} {d : Nat} {μ : VS} {Q : Option Value → VS → Prop} {P : PC} {L : Nat} {S κ : Nat → Nat} {I : Nat → PC} (hRM : RM μ P L S κ I) (hQ : ∀ μ', RM μ' (vup P 0 6 0) L S κ I → keepC μ μ' → Q (some (.int (nI (P 0 6)))) μ') : Call G d yX9_forget cX9_forget 2 (some .int) [.ref 69] μ Q := by
  intro X hX hR
  have hM := hRM.1
  have hL := hRM.2.1
  show V G 2 X 0 [(0, .ref 69)] [] μ
  refine V_aload_n hX dX9_forget_0 0 rfl ?_
  refine V_getN (x := nI (P 0 6)) hX fX9_86 rfl (hM.1 6 (by decide)) dX9_forget_1 ?_
  refine V_istore_n (ls' := [(0, .ref 69), (1, .int (nI (P 0 6)))]) hX dX9_forget_4 (by decide) rfl ?_
  refine V_aload_n hX dX9_forget_5 0 rfl ?_
  refine V_iconst (v := nI 0) hX dX9_forget_6 (by decide) ?_
  refine V_puti hX fX9_86 fw_8_10 rfl dX9_forget_7 ?_
  refine V_iload_n hX dX9_forget_10 1 rfl ?_
  refine V_iret hX rfl dX9_forget_11 ?_
  exact hR _ _ (hQ _ (hRM.put 6 (by decide) 0) (keepC.put (by decide)))
set_option maxRecDepth 100000 in
set_option maxHeartbeats 4000000 in
theorem kM_seen {G : VG} {d : Nat} {μ : VS} {Q : Option Value → VS → Prop} {P : PC} {L : Nat} {S κ : Nat → Nat} {I : Nat → PC} {m k : Int32} (hRM : RM μ P L S κ I) (hP6 : P 0 6 ≤ 8) (hQ : ∀ μ', RM μ' (seenS P m k).2 L S κ I → keepC μ μ' → Q (some (.int (seenS P m k).1)) μ') : Call G (d + 2) yX9_seen cX9_seen 3 (some .int) [.ref 69, .int m, .int k] μ Q := by
  intro X hX hR
  have hM := hRM.1
  have hL := hRM.2.1
  show V G 3 X 0 [(0, .ref 69), (1, .int m), (2, .int k)] [] μ
  refine V_iload_n hX dX9_seen_0 1 rfl ?_
  refine V_iconst (v := nI 0) hX dX9_seen_1 (by decide) ?_
  refine V_bipush (v := nI 59) hX dX9_seen_2 (by decide) ?_
  refine V_callS (As := [.int m, .int (nI 0), .int (nI 59)]) (st := []) hX mX9_75 (k_in ?_) rfl (Nat.le_of_ble_eq_true rfl) (Nat.le_of_ble_eq_true rfl) dX9_seen_4
  show V G 3 X 7 [(0, .ref 69), (1, .int m), (2, .int k)] [.int (bI (nI 0 ≤ m ∧ m ≤ nI 59))] μ
  refine V_if_eqB (tgt := 20) hX dX9_seen_7 (by decide) (fun c7 => ?_) (fun c7 => ?_)
  · refine V_bipush (v := (-2)) hX dX9_seen_20 (by decide) ?_
    refine V_iret hX rfl dX9_seen_22 ?_
    have h9 := hQ μ
    rw [show seenS P m k = (-2, P) from if_neg (fun z => c7 z.1)] at h9
    exact hR _ _ (h9 hRM (keepC.rf μ))
  · refine V_iload_n hX dX9_seen_10 2 rfl ?_
    refine V_iconst (v := nI 0) hX dX9_seen_11 (by decide) ?_
    refine V_bipush (v := nI 8) hX dX9_seen_12 (by decide) ?_
    refine V_callS (As := [.int k, .int (nI 0), .int (nI 8)]) (st := []) hX mX9_75 (k_in ?_) rfl (Nat.le_of_ble_eq_true rfl) (Nat.le_of_ble_eq_true rfl) dX9_seen_14
    show V G 3 X 17 [(0, .ref 69), (1, .int m), (2, .int k)] [.int (bI (nI 0 ≤ k ∧ k ≤ nI 8))] μ
    refine V_if_neB (tgt := 23) hX dX9_seen_17 (by decide) (fun c17 => ?_) (fun c17 => ?_)
    · obtain ⟨a, ha0, ha7, rfl⟩ := nat_of_in (by decide) (by decide) c7
      obtain ⟨b, hb0, hb7, rfl⟩ := nat_of_in (by decide) (by decide) c17
      refine V_aload_n hX dX9_seen_23 0 rfl ?_
      refine V_getN (x := nI (P 0 6)) hX fX9_86 rfl (hM.1 6 (by decide)) dX9_seen_24 ?_
      refine V_bipush (v := nI 8) hX dX9_seen_27 (by decide) ?_
      refine V_icmp_neN (tgt := 35) hX dX9_seen_29 (by decide) (by first | omega | exact shl8 (by omega) | exact or_lt256 (by omega) (by omega) | exact clr_lt256 _ (by omega)) (by first | omega | exact shl8 (by omega) | exact or_lt256 (by omega) (by omega) | exact clr_lt256 _ (by omega)) (fun c29 => ?_) (fun c29 => ?_)
      · refine V_aload_n hX dX9_seen_35 0 rfl ?_
        refine V_getr (j := 74) hX fX9_32 rfl rfl dX9_seen_36 ?_
        refine V_iconst (v := nI 2) hX dX9_seen_39 (by decide) ?_
        refine V_aload_n hX dX9_seen_40 0 rfl ?_
        refine V_getN (x := nI (P 0 6)) hX fX9_86 rfl (hM.1 6 (by decide)) dX9_seen_41 ?_
        refine V_imulN hX dX9_seen_44 ?_
        refine V_iload_n hX dX9_seen_45 1 rfl ?_
        refine V_iastN hX rfl (by first | omega | exact shl8 (by omega) | exact or_lt256 (by omega) (by omega) | exact clr_lt256 _ (by omega)) (by decide) dX9_seen_46 ?_
        refine V_aload_n hX dX9_seen_47 0 rfl ?_
        refine V_getr (j := 74) hX fX9_32 rfl rfl dX9_seen_48 ?_
        refine V_iconst (v := nI 2) hX dX9_seen_51 (by decide) ?_
        refine V_aload_n hX dX9_seen_52 0 rfl ?_
        refine V_getN (x := nI (P 0 6)) hX fX9_86 rfl (hM.1 6 (by decide)) dX9_seen_53 ?_
        refine V_imulN hX dX9_seen_56 ?_
        refine V_iconst (v := nI 1) hX dX9_seen_57 (by decide) ?_
        refine V_iaddN hX dX9_seen_58 ?_
        refine V_iload_n hX dX9_seen_59 2 rfl ?_
        refine V_iastN hX rfl (by first | omega | exact shl8 (by omega) | exact or_lt256 (by omega) (by omega) | exact clr_lt256 _ (by omega)) (by decide) dX9_seen_60 ?_
        refine V_aload_n hX dX9_seen_61 0 rfl ?_
        refine V_dup hX dX9_seen_62 rfl ?_
        refine V_getN (x := nI (P 0 6)) hX fX9_86 rfl (hM.1 6 (by decide)) dX9_seen_63 ?_
        refine V_iconst (v := nI 1) hX dX9_seen_66 (by decide) ?_
        refine V_iaddN hX dX9_seen_67 ?_
        refine V_puti hX fX9_86 fw_8_10 rfl dX9_seen_68 ?_
        refine V_aload_n hX dX9_seen_71 0 rfl ?_
        refine V_getN (x := nI ((P 0 6) + 1)) hX fX9_86 rfl rfl dX9_seen_72 ?_
        refine V_iret hX rfl dX9_seen_75 ?_
        have h9 := hQ (vup (vup (vup μ.1 74 (2 * (P 0 6)) (nI a), μ.2).1 74 ((2 * (P 0 6)) + 1) (nI b), (vup μ.1 74 (2 * (P 0 6)) (nI a), μ.2).2).1 69 10 (nI ((P 0 6) + 1)), (vup (vup μ.1 74 (2 * (P 0 6)) (nI a), μ.2).1 74 ((2 * (P 0 6)) + 1) (nI b), (vup μ.1 74 (2 * (P 0 6)) (nI a), μ.2).2).2)
        rw [show seenS P (nI a) (nI b) = _ from (if_pos ⟨c7, c17⟩).trans (if_neg c29)] at h9
        rw [nI_clamp (by omega), nI_clamp (by omega)] at h9
        exact hR _ _ (h9 ((hRM.sights (P 0 6) a b).put 6 (by decide) (P 0 6 + 1)) (((keepC.put (by decide)).tr (keepC.put (by decide))).tr (keepC.put (by decide))))
      · refine V_bipush (v := (-4)) hX dX9_seen_32 (by decide) ?_
        refine V_iret hX rfl dX9_seen_34 ?_
        have h9 := hQ μ
        rw [show seenS P (nI a) (nI b) = (-4, P) from (if_pos ⟨c7, c17⟩).trans (if_pos c29)] at h9
        exact hR _ _ (h9 hRM (keepC.rf μ))
    · refine V_bipush (v := (-2)) hX dX9_seen_20 (by decide) ?_
      refine V_iret hX rfl dX9_seen_22 ?_
      have h9 := hQ μ
      rw [show seenS P m k = (-2, P) from if_neg (fun z => c17 z.2)] at h9
      exact hR _ _ (h9 hRM (keepC.rf μ))
