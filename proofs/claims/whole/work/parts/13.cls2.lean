theorem RC.frame {μ μ' : VS} {P : PC} {L : Nat} {S κ : Nat → Nat} {I : Nat → PC} (h : RC μ P L S κ I) (e : ∀ a, (1 ≤ a ∧ a ≤ 7) ∨ (16 ≤ a ∧ a ≤ 32) → μ'.1 a = μ.1 a) : RC μ' P L S κ I := by
  refine ⟨h.1.frame (fun j hj => e _ (by omega)), ⟨?_, fun i hi => ?_⟩, fun n hn => ⟨?_, fun hκ => ((h.2.2 n hn).2 hκ).frame (fun j hj => e _ (by omega))⟩⟩
  · rw [e 31 (by omega)]; exact h.2.1.1
  · rw [e 32 (by omega)]; exact h.2.1.2 i hi
  · rw [e 30 (by omega)]; exact (h.2.2 n hn).1
theorem RC.wipe {μ : VS} {P : PC} {L : Nat} {S κ : Nat → Nat} {I : Nat → PC} (h : RC μ P L S κ I) : RC (vup μ.1 31 1 (nI 0), μ.2) P 0 S κ I := by
  have e : ∀ a, a ≠ 31 → (vup μ.1 31 1 (nI 0), μ.2).1 a = μ.1 a := fun a ha => vup_row _ _ _ ha
  exact ⟨h.1.frame (fun j hj => e _ (by omega)), ⟨rfl, fun i hi => absurd hi (by omega)⟩, fun n hn => ⟨(h.2.2 n hn).1, fun hκ => ((h.2.2 n hn).2 hκ).frame (fun j hj => e _ (by omega))⟩⟩
theorem RC.say {μ : VS} {P : PC} {L : Nat} {S κ : Nat → Nat} {I : Nat → PC} (h : RC μ P L S κ I) (v : Nat) : RC (vup (vup μ.1 32 L (nI v)) 31 1 (nI (L + 1)), μ.2) P (L + 1) (fun i => if i = L then v else S i) κ I := by
  have e : ∀ a, a ≠ 31 → a ≠ 32 → (vup (vup μ.1 32 L (nI v)) 31 1 (nI (L + 1)), μ.2).1 a = μ.1 a := fun a ha hb => (vup_row _ _ _ ha).trans (vup_row _ _ _ hb)
  refine ⟨h.1.frame (fun j hj => e _ (by omega) (by omega)), ⟨rfl, fun i hi => ?_⟩, fun n hn => ⟨(h.2.2 n hn).1, fun hκ => ((h.2.2 n hn).2 hκ).frame (fun j hj => e _ (by omega) (by omega))⟩⟩
  show vup μ.1 32 L (nI v) 32 i = nI (if i = L then v else S i)
  rw [vup_get]
  by_cases q : i = L
  · simp [q]
  · simp only [q, and_false, if_false]; exact h.2.1.2 i (by omega)
theorem in_of_not_out {v lo hi : Int32} (h : ¬ (v < lo ∨ hi < v)) : lo ≤ v ∧ v ≤ hi := Decidable.not_not.mp (fun z => h (out_iff_in.mpr z))
theorem not_in_of_out {v lo hi : Int32} (h : v < lo ∨ hi < v) : ¬ (lo ≤ v ∧ v ≤ hi) := out_iff_in.mp h
set_option maxRecDepth 100000 in
set_option maxHeartbeats 4000000 in
theorem kC_church {G : VG} {d : Nat} {μ : VS} {Q : Option Value → VS → Prop} {P : PC} {L : Nat} {S κ : Nat → Nat} {I : Nat → PC} {n_ : Int32} (hRC : RC μ P L S κ I) (hQ : ∀ μ', RC μ' (churchS P n_).2 L S κ I → keepM μ μ' → Q (some (.int (churchS P n_).1)) μ') : Call G (d + 2) yX8_church cX8_church 3 (some .int) [.ref 0, .int n_] μ Q := by
  intro X hX hR
  have hP := hRC.1
  have hL := hRC.2.1
  show V G 3 X 0 [(0, .ref 0), (1, .int n_)] [] μ
  refine V_iload_n hX dX8_church_0 1 rfl ?_
  refine V_iconst (v := nI 1) hX dX8_church_1 (by decide) ?_
  refine V_iconst (v := nI 3) hX dX8_church_2 (by decide) ?_
  refine V_callS (As := [.int n_, .int (nI 1), .int (nI 3)]) (st := []) hX mX8_73 (k_isOutside ?_) rfl (Nat.le_of_ble_eq_true rfl) (Nat.le_of_ble_eq_true rfl) dX8_church_3
  show V G 3 X 6 [(0, .ref 0), (1, .int n_)] [.int (bI (n_ < nI 1 ∨ nI 3 < n_))] μ
  refine V_if_eqB (tgt := 12) hX dX8_church_6 (by decide) (fun c6 => ?_) (fun c6 => ?_)
  · obtain ⟨j_, hj0, hj7, rfl⟩ := nat_of_out (by decide) (by decide) c6
    refine V_aload_n hX dX8_church_12 0 rfl ?_
    refine V_getr (j := 1) hX fX8_10 rfl rfl dX8_church_13 ?_
    refine V_getN (x := nI (P 0 0)) hX fX8_77 rfl (hP.1 0 (by decide)) dX8_church_16 ?_
    refine V_istore_n (ls' := [(0, .ref 0), (1, .int (nI j_)), (2, .int (nI (P 0 0)))]) hX dX8_church_19 (by decide) rfl ?_
    refine V_aload_n hX dX8_church_20 0 rfl ?_
    refine V_getr (j := 1) hX fX8_10 rfl rfl dX8_church_21 ?_
    refine V_iload_n hX dX8_church_24 1 rfl ?_
    refine V_callV (As := [.int (nI j_)]) (st := []) hX mX8_81 rfl (kC_rebuild rfl ?_) rfl (Nat.le_of_ble_eq_true rfl) (Nat.le_of_ble_eq_true rfl) dX8_church_25
    show V G 3 X 28 [(0, .ref 0), (1, .int (nI j_)), (2, .int (nI (P 0 0)))] [] (vup (vup (vup (vup (vup μ.1 1 0 (nI j_)) 1 3 (nI 0)) 1 4 (nI 0)) 1 5 (nI 0)) 1 6 (nI 0), μ.2)
    refine V_iload_n hX dX8_church_28 2 rfl ?_
    refine V_iret hX rfl dX8_church_29 ?_
    have h9 := hQ (vup (vup (vup (vup (vup μ.1 1 0 (nI j_)) 1 3 (nI 0)) 1 4 (nI 0)) 1 5 (nI 0)) 1 6 (nI 0), μ.2)
    rw [show churchS P (nI j_) = (nI (P 0 0), _) from if_pos (in_of_not_out c6)] at h9
    rw [nI_clamp (by omega)] at h9
    exact hR _ _ (h9 ((((((hRC.put 0 j_).put 3 0).put 4 0).put 5 0).put 6 0).congr (by intro a b; simp only [vup_get]; repeat' split <;> (try rfl) <;> simp_all)) (((((keepM.put (by decide)).tr (keepM.put (by decide))).tr (keepM.put (by decide))).tr (keepM.put (by decide))).tr (keepM.put (by decide))))
  · refine V_bipush (v := (-2)) hX dX8_church_9 (by decide) ?_
    refine V_iret hX rfl dX8_church_11 ?_
    have h9 := hQ μ
    rw [show churchS P n_ = (-2, P) from if_neg (not_in_of_out c6)] at h9
    exact hR _ _ (h9 hRC (keepM.rf μ))
set_option maxRecDepth 100000 in
set_option maxHeartbeats 4000000 in
theorem kC_leave {G : VG} {d : Nat} {μ : VS} {Q : Option Value → VS → Prop} {P : PC} {L : Nat} {S κ : Nat → Nat} {I : Nat → PC} {h_ : Int32} (hRC : RC μ P L S κ I) (hP4 : P 0 4 < 256) (hQ : ∀ μ', RC μ' (leaveS P h_).2 L S κ I → keepM μ μ' → Q (some (.int (leaveS P h_).1)) μ') : Call G (d + 2) yX8_leave cX8_leave 2 (some .int) [.ref 0, .int h_] μ Q := by
  intro X hX hR
  have hP := hRC.1
  have hL := hRC.2.1
  show V G 2 X 0 [(0, .ref 0), (1, .int h_)] [] μ
  refine V_aload_n hX dX8_leave_0 0 rfl ?_
  refine V_getr (j := 1) hX fX8_10 rfl rfl dX8_leave_1 ?_
  refine V_iload_n hX dX8_leave_4 1 rfl ?_
  refine V_callV (As := [.int h_]) (st := []) hX mX8_115 rfl (kC_isThere rfl hP (by omega) ?_) rfl (Nat.le_of_ble_eq_true rfl) (Nat.le_of_ble_eq_true rfl) dX8_leave_5
  show V G 2 X 8 [(0, .ref 0), (1, .int h_)] [.int (bI (thr P h_))] μ
  refine V_if_neB (tgt := 13) hX dX8_leave_8 (by decide) (fun c8 => ?_) (fun c8 => ?_)
  · obtain ⟨j_, hj7, rfl, hpj⟩ := thr_nat c8
    refine V_aload_n hX dX8_leave_13 0 rfl ?_
    refine V_getr (j := 1) hX fX8_10 rfl rfl dX8_leave_14 ?_
    refine V_dup hX dX8_leave_17 rfl ?_
    refine V_getN (x := nI (P 0 4)) hX fX8_106 rfl (hP.1 4 (by decide)) dX8_leave_18 ?_
    refine V_iconst (v := nI 1) hX dX8_leave_21 (by decide) ?_
    refine V_iload_n hX dX8_leave_22 1 rfl ?_
    refine V_ishlN hX dX8_leave_23 (by first | omega | exact shl8 (by omega) | exact or_lt256 (by omega) (by omega) | exact clr_lt256 _ (by omega)) (by first | omega | exact shl8 (by omega) | exact or_lt256 (by omega) (by omega) | exact clr_lt256 _ (by omega)) ?_
    refine V_iconst (v := nI 4294967295) hX dX8_leave_24 (by decide) ?_
    refine V_ixorN hX dX8_leave_25 ?_
    refine V_iandN hX dX8_leave_26 ?_
    refine V_puti hX fX8_106 fw_3_4 rfl dX8_leave_27 ?_
    show V G 2 X 30 [(0, .ref 0), (1, .int (nI j_))] [] (vup μ.1 1 4 (nI ((P 0 4) &&& ((1 <<< j_) ^^^ 4294967295))), μ.2)
    refine V_aload_n hX dX8_leave_30 0 rfl ?_
    refine V_getr (j := 1) hX fX8_10 rfl rfl dX8_leave_31 ?_
    refine V_dup hX dX8_leave_34 rfl ?_
    refine V_getN (x := nI (P 0 5)) hX fX8_109 rfl (hP.1 5 (by decide)) dX8_leave_35 ?_
    refine V_iconst (v := nI 1) hX dX8_leave_38 (by decide) ?_
    refine V_iload_n hX dX8_leave_39 1 rfl ?_
    refine V_ishlN hX dX8_leave_40 (by first | omega | exact shl8 (by omega) | exact or_lt256 (by omega) (by omega) | exact clr_lt256 _ (by omega)) (by first | omega | exact shl8 (by omega) | exact or_lt256 (by omega) (by omega) | exact clr_lt256 _ (by omega)) ?_
    refine V_iconst (v := nI 4294967295) hX dX8_leave_41 (by decide) ?_
    refine V_ixorN hX dX8_leave_42 ?_
    refine V_iandN hX dX8_leave_43 ?_
    refine V_puti hX fX8_109 fw_3_5 rfl dX8_leave_44 ?_
    show V G 2 X 47 [(0, .ref 0), (1, .int (nI j_))] [] (vup (vup μ.1 1 4 (nI ((P 0 4) &&& ((1 <<< j_) ^^^ 4294967295)))) 1 5 (nI ((P 0 5) &&& ((1 <<< j_) ^^^ 4294967295))), μ.2)
    have hRC2 := (hRC.put 4 (clrN (P 0 4) j_)).put 5 (clrN (P 0 5) j_)
    refine V_aload_n hX dX8_leave_47 0 rfl ?_
    refine V_getr (j := 1) hX fX8_10 rfl rfl dX8_leave_48 ?_
    refine V_callV (As := []) (st := []) hX mX8_112 rfl (kC_howMany rfl hRC2.1 (clr_lt256 _ (by omega)) ?_) rfl (Nat.le_of_ble_eq_true rfl) (Nat.le_of_ble_eq_true rfl) dX8_leave_51
    show V G 2 X 54 [(0, .ref 0), (1, .int (nI j_))] [.int (nI (popN (clrN (P 0 4) j_) 8))] (vup (vup μ.1 1 4 (nI ((P 0 4) &&& ((1 <<< j_) ^^^ 4294967295)))) 1 5 (nI ((P 0 5) &&& ((1 <<< j_) ^^^ 4294967295))), μ.2)
    refine V_iret hX rfl dX8_leave_54 ?_
    have h9 := hQ (vup (vup μ.1 1 4 (nI ((P 0 4) &&& ((1 <<< j_) ^^^ 4294967295)))) 1 5 (nI ((P 0 5) &&& ((1 <<< j_) ^^^ 4294967295))), μ.2)
    rw [show leaveS P (nI j_) = _ from if_pos c8] at h9
    rw [nI_clamp (by omega)] at h9
    exact hR _ _ (h9 hRC2 ((keepM.put (by decide)).tr (keepM.put (by decide))))
  · refine V_iconst (v := (-1)) hX dX8_leave_11 (by decide) ?_
    refine V_iret hX rfl dX8_leave_12 ?_
    have h9 := hQ μ
    rw [show leaveS P h_ = (-1, P) from if_neg c8] at h9
    exact hR _ _ (h9 hRC (keepM.rf μ))
set_option maxRecDepth 100000 in
set_option maxHeartbeats 4000000 in
theorem kC_say {G : VG} {d : Nat} {μ : VS} {Q : Option Value → VS → Prop} {P : PC} {L : Nat} {S κ : Nat → Nat} {I : Nat → PC} {s_ : Int32} (hRC : RC μ P L S κ I) (hL60 : L ≤ 60) (hQ : ∀ μ', RC μ' P (sayS L S s_).2.1 (sayS L S s_).2.2 κ I → keepM μ μ' → Q (some (.int (sayS L S s_).1)) μ') : Call G (d + 2) yX8_say cX8_say 2 (some .int) [.ref 0, .int s_] μ Q := by
  intro X hX hR
  have hP := hRC.1
  have hL := hRC.2.1
  show V G 2 X 0 [(0, .ref 0), (1, .int s_)] [] μ
  refine V_iload_n hX dX8_say_0 1 rfl ?_
  refine V_bipush (v := nI 33) hX dX8_say_1 (by decide) ?_
  refine V_bipush (v := nI 126) hX dX8_say_3 (by decide) ?_
  refine V_callS (As := [.int s_, .int (nI 33), .int (nI 126)]) (st := []) hX mX8_73 (k_isOutside ?_) rfl (Nat.le_of_ble_eq_true rfl) (Nat.le_of_ble_eq_true rfl) dX8_say_5
  show V G 2 X 8 [(0, .ref 0), (1, .int s_)] [.int (bI (s_ < nI 33 ∨ nI 126 < s_))] μ
  refine V_if_eqB (tgt := 14) hX dX8_say_8 (by decide) (fun c8 => ?_) (fun c8 => ?_)
  · obtain ⟨j_, hj0, hj7, rfl⟩ := nat_of_out (by decide) (by decide) c8
    refine V_aload_n hX dX8_say_14 0 rfl ?_
    refine V_getr (j := 31) hX fX8_30 rfl rfl dX8_say_15 ?_
    refine V_getN (x := nI L) hX fX8_128 rfl hL.1 dX8_say_18 ?_
    refine V_bipush (v := nI 60) hX dX8_say_21 (by decide) ?_
    refine V_icmp_ltN (tgt := 29) hX dX8_say_23 (by decide) (by first | omega | exact shl8 (by omega) | exact or_lt256 (by omega) (by omega) | exact clr_lt256 _ (by omega)) (by first | omega | exact shl8 (by omega) | exact or_lt256 (by omega) (by omega) | exact clr_lt256 _ (by omega)) (fun c23 => ?_) (fun c23 => ?_)
    · refine V_aload_n hX dX8_say_29 0 rfl ?_
      refine V_getr (j := 31) hX fX8_30 rfl rfl dX8_say_30 ?_
      refine V_getr (j := 32) hX fX8_131 rfl rfl dX8_say_33 ?_
      refine V_aload_n hX dX8_say_36 0 rfl ?_
      refine V_getr (j := 31) hX fX8_30 rfl rfl dX8_say_37 ?_
      refine V_getN (x := nI L) hX fX8_128 rfl hL.1 dX8_say_40 ?_
      refine V_iload_n hX dX8_say_43 1 rfl ?_
      refine V_iastN hX rfl (by first | omega | exact shl8 (by omega) | exact or_lt256 (by omega) (by omega) | exact clr_lt256 _ (by omega)) (by decide) dX8_say_44 ?_
      show V G 2 X 45 [(0, .ref 0), (1, .int (nI j_))] [] (vup μ.1 32 L (nI j_), μ.2)
      refine V_aload_n hX dX8_say_45 0 rfl ?_
      refine V_getr (j := 31) hX fX8_30 rfl rfl dX8_say_46 ?_
      refine V_dup hX dX8_say_49 rfl ?_
      refine V_getN (x := nI L) hX fX8_128 rfl hL.1 dX8_say_50 ?_
      refine V_iconst (v := nI 1) hX dX8_say_53 (by decide) ?_
      refine V_iaddN hX dX8_say_54 ?_
      refine V_puti hX fX8_128 fw_2_1 rfl dX8_say_55 ?_
      show V G 2 X 58 [(0, .ref 0), (1, .int (nI j_))] [] (vup (vup μ.1 32 L (nI j_)) 31 1 (nI (L + 1)), μ.2)
      refine V_aload_n hX dX8_say_58 0 rfl ?_
      refine V_getr (j := 31) hX fX8_30 rfl rfl dX8_say_59 ?_
      refine V_getN (x := nI (L + 1)) hX fX8_128 rfl rfl dX8_say_62 ?_
      refine V_iret hX rfl dX8_say_65 ?_
      have h9 := hQ (vup (vup μ.1 32 L (nI j_)) 31 1 (nI (L + 1)), μ.2)
      rw [show sayS L S (nI j_) = _ from (if_pos (in_of_not_out c8)).trans (if_neg (by omega))] at h9
      rw [nI_clamp (by omega)] at h9
      exact hR _ _ (h9 (hRC.say j_) ((keepM.put (by decide)).tr (keepM.put (by decide))))
    · refine V_bipush (v := (-4)) hX dX8_say_26 (by decide) ?_
      refine V_iret hX rfl dX8_say_28 ?_
      have h9 := hQ μ
      rw [show sayS L S (nI j_) = (-4, L, S) from (if_pos (in_of_not_out c8)).trans (if_pos (by omega))] at h9
      exact hR _ _ (h9 hRC (keepM.rf μ))
  · refine V_bipush (v := (-2)) hX dX8_say_11 (by decide) ?_
    refine V_iret hX rfl dX8_say_13 ?_
    have h9 := hQ μ
    rw [show sayS L S s_ = (-2, L, S) from if_neg (not_in_of_out c8)] at h9
    exact hR _ _ (h9 hRC (keepM.rf μ))
set_option maxRecDepth 100000 in
set_option maxHeartbeats 4000000 in
theorem kC_wipe {G : VG} {d : Nat} {μ : VS} {Q : Option Value → VS → Prop} {P : PC} {L : Nat} {S κ : Nat → Nat} {I : Nat → PC} (hRC : RC μ P L S κ I) (hQ : ∀ μ', RC μ' P 0 S κ I → keepM μ μ' → Q (some (.int (nI L))) μ') : Call G d yX8_wipe cX8_wipe 2 (some .int) [.ref 0] μ Q := by
  intro X hX hR
  have hP := hRC.1
  have hL := hRC.2.1
  show V G 2 X 0 [(0, .ref 0)] [] μ
  refine V_aload_n hX dX8_wipe_0 0 rfl ?_
  refine V_getr (j := 31) hX fX8_30 rfl rfl dX8_wipe_1 ?_
  refine V_getN (x := nI L) hX fX8_128 rfl hL.1 dX8_wipe_4 ?_
  refine V_istore_n (ls' := [(0, .ref 0), (1, .int (nI L))]) hX dX8_wipe_7 (by decide) rfl ?_
  refine V_aload_n hX dX8_wipe_8 0 rfl ?_
  refine V_getr (j := 31) hX fX8_30 rfl rfl dX8_wipe_9 ?_
  refine V_iconst (v := nI 0) hX dX8_wipe_12 (by decide) ?_
  refine V_puti hX fX8_128 fw_2_1 rfl dX8_wipe_13 ?_
  show V G 2 X 16 [(0, .ref 0), (1, .int (nI L))] [] (vup μ.1 31 1 (nI 0), μ.2)
  refine V_iload_n hX dX8_wipe_16 1 rfl ?_
  refine V_iret hX rfl dX8_wipe_17 ?_
  exact hR _ _ (hQ _ hRC.wipe (keepM.put (by decide)))
set_option maxRecDepth 100000 in
set_option maxHeartbeats 4000000 in
theorem kC_forget {G : VG} {d : Nat} {μ : VS} {Q : Option Value → VS → Prop} {P : PC} {L : Nat} {S κ : Nat → Nat} {I : Nat → PC} (hRC : RC μ P L S κ I) (hQ : ∀ μ', RC μ' (vup P 0 6 0) L S κ I → keepM μ μ' → Q (some (.int (nI (P 0 6)))) μ') : Call G d yX8_forget cX8_forget 2 (some .int) [.ref 0] μ Q := by
  intro X hX hR
  have hP := hRC.1
  have hL := hRC.2.1
  show V G 2 X 0 [(0, .ref 0)] [] μ
  refine V_aload_n hX dX8_forget_0 0 rfl ?_
  refine V_getr (j := 1) hX fX8_10 rfl rfl dX8_forget_1 ?_
  refine V_getN (x := nI (P 0 6)) hX fX8_200 rfl (hP.1 6 (by decide)) dX8_forget_4 ?_
  refine V_istore_n (ls' := [(0, .ref 0), (1, .int (nI (P 0 6)))]) hX dX8_forget_7 (by decide) rfl ?_
  refine V_aload_n hX dX8_forget_8 0 rfl ?_
  refine V_getr (j := 1) hX fX8_10 rfl rfl dX8_forget_9 ?_
  refine V_iconst (v := nI 0) hX dX8_forget_12 (by decide) ?_
  refine V_puti hX fX8_200 fw_3_6 rfl dX8_forget_13 ?_
  show V G 2 X 16 [(0, .ref 0), (1, .int (nI (P 0 6)))] [] (vup μ.1 1 6 (nI 0), μ.2)
  refine V_iload_n hX dX8_forget_16 1 rfl ?_
  refine V_iret hX rfl dX8_forget_17 ?_
  exact hR _ _ (hQ _ (hRC.put 6 0) (keepM.put (by decide)))
set_option maxRecDepth 100000 in
set_option maxHeartbeats 4000000 in
theorem kC_seen {G : VG} {d : Nat} {μ : VS} {Q : Option Value → VS → Prop} {P : PC} {L : Nat} {S κ : Nat → Nat} {I : Nat → PC} {m_ k_ : Int32} (hRC : RC μ P L S κ I) (hP6 : P 0 6 ≤ 8) (hQ : ∀ μ', RC μ' (seenS P m_ k_).2 L S κ I → keepM μ μ' → Q (some (.int (seenS P m_ k_).1)) μ') : Call G (d + 2) yX8_seen cX8_seen 3 (some .int) [.ref 0, .int m_, .int k_] μ Q := by
  intro X hX hR
  have hP := hRC.1
  have hL := hRC.2.1
  show V G 3 X 0 [(0, .ref 0), (1, .int m_), (2, .int k_)] [] μ
  refine V_iload_n hX dX8_seen_0 1 rfl ?_
  refine V_iconst (v := nI 0) hX dX8_seen_1 (by decide) ?_
  refine V_bipush (v := nI 59) hX dX8_seen_2 (by decide) ?_
  refine V_callS (As := [.int m_, .int (nI 0), .int (nI 59)]) (st := []) hX mX8_73 (k_isOutside ?_) rfl (Nat.le_of_ble_eq_true rfl) (Nat.le_of_ble_eq_true rfl) dX8_seen_4
  show V G 3 X 7 [(0, .ref 0), (1, .int m_), (2, .int k_)] [.int (bI (m_ < nI 0 ∨ nI 59 < m_))] μ
  refine V_if_neB (tgt := 20) hX dX8_seen_7 (by decide) (fun c7 => ?_) (fun c7 => ?_)
  · refine V_bipush (v := (-2)) hX dX8_seen_20 (by decide) ?_
    refine V_iret hX rfl dX8_seen_22 ?_
    have h9 := hQ μ
    rw [show seenS P m_ k_ = (-2, P) from if_neg (fun z => not_in_of_out c7 z.1)] at h9
    exact hR _ _ (h9 hRC (keepM.rf μ))
  · refine V_iload_n hX dX8_seen_10 2 rfl ?_
    refine V_iconst (v := nI 0) hX dX8_seen_11 (by decide) ?_
    refine V_bipush (v := nI 8) hX dX8_seen_12 (by decide) ?_
    refine V_callS (As := [.int k_, .int (nI 0), .int (nI 8)]) (st := []) hX mX8_73 (k_isOutside ?_) rfl (Nat.le_of_ble_eq_true rfl) (Nat.le_of_ble_eq_true rfl) dX8_seen_14
    show V G 3 X 17 [(0, .ref 0), (1, .int m_), (2, .int k_)] [.int (bI (k_ < nI 0 ∨ nI 8 < k_))] μ
    refine V_if_eqB (tgt := 23) hX dX8_seen_17 (by decide) (fun c17 => ?_) (fun c17 => ?_)
    · obtain ⟨a_, ha0, ha7, rfl⟩ := nat_of_out (by decide) (by decide) c7
      obtain ⟨b_, hb0, hb7, rfl⟩ := nat_of_out (by decide) (by decide) c17
      refine V_aload_n hX dX8_seen_23 0 rfl ?_
      refine V_getr (j := 1) hX fX8_10 rfl rfl dX8_seen_24 ?_
      refine V_getN (x := nI (P 0 6)) hX fX8_200 rfl (hP.1 6 (by decide)) dX8_seen_27 ?_
      refine V_bipush (v := nI 8) hX dX8_seen_30 (by decide) ?_
      refine V_icmp_ltN (tgt := 40) hX dX8_seen_32 (by decide) (by first | omega | exact shl8 (by omega) | exact or_lt256 (by omega) (by omega) | exact clr_lt256 _ (by omega)) (by first | omega | exact shl8 (by omega) | exact or_lt256 (by omega) (by omega) | exact clr_lt256 _ (by omega)) (fun c32 => ?_) (fun c32 => ?_)
      · refine V_aload_n hX dX8_seen_40 0 rfl ?_
        refine V_getr (j := 1) hX fX8_10 rfl rfl dX8_seen_41 ?_
        refine V_iload_n hX dX8_seen_44 1 rfl ?_
        refine V_iload_n hX dX8_seen_45 2 rfl ?_
        refine V_callV (As := [.int (nI a_), .int (nI b_)]) (st := []) hX mX8_203 rfl (kC_addSight hP (by omega) ?_) rfl (Nat.le_of_ble_eq_true rfl) (Nat.le_of_ble_eq_true rfl) dX8_seen_46
        show V G 3 X 49 [(0, .ref 0), (1, .int (nI a_)), (2, .int (nI b_))] [.int (nI (P 0 6 + 1))] (vup (vup (vup μ.1 6 (P 0 6) (nI a_)) 7 (P 0 6) (nI b_)) 1 6 (nI ((P 0 6) + 1)), μ.2)
        refine V_iret hX rfl dX8_seen_49 ?_
        have h9 := hQ (vup (vup (vup μ.1 6 (P 0 6) (nI a_)) 7 (P 0 6) (nI b_)) 1 6 (nI ((P 0 6) + 1)), μ.2)
        rw [show seenS P (nI a_) (nI b_) = _ from (if_pos ⟨in_of_not_out c7, in_of_not_out c17⟩).trans (if_neg (by omega))] at h9
        rw [nI_clamp (by omega), nI_clamp (by omega)] at h9
        exact hR _ _ (h9 (((hRC.arr 4 (by decide) (P 0 6) a_).arr 5 (by decide) (P 0 6) b_).put 6 (P 0 6 + 1)) (((keepM.put (by decide)).tr (keepM.put (by decide))).tr (keepM.put (by decide))))
      · refine V_bipush (v := (-4)) hX dX8_seen_35 (by decide) ?_
        refine V_goto (tgt := 49) hX dX8_seen_37 (by decide) ?_
        refine V_iret hX rfl dX8_seen_49 ?_
        have h9 := hQ μ
        rw [show seenS P (nI a_) (nI b_) = (-4, P) from (if_pos ⟨in_of_not_out c7, in_of_not_out c17⟩).trans (if_pos (by omega))] at h9
        exact hR _ _ (h9 hRC (keepM.rf μ))
    · refine V_bipush (v := (-2)) hX dX8_seen_20 (by decide) ?_
      refine V_iret hX rfl dX8_seen_22 ?_
      have h9 := hQ μ
      rw [show seenS P m_ k_ = (-2, P) from if_neg (fun z => not_in_of_out c17 z.2)] at h9
      exact hR _ _ (h9 hRC (keepM.rf μ))
set_option maxRecDepth 100000 in
set_option maxHeartbeats 4000000 in
theorem kC_set {G : VG} {d : Nat} {μ : VS} {Q : Option Value → VS → Prop} {P : PC} {L : Nat} {S κ : Nat → Nat} {I : Nat → PC} {w_ v_ : Int32} (hRC : RC μ P L S κ I) (hQ : ∀ μ', RC μ' (setS P w_ v_).2 L S κ I → keepM μ μ' → Q (some (.int (setS P w_ v_).1)) μ') : Call G (d + 2) yX8_set cX8_set 3 (some .int) [.ref 0, .int w_, .int v_] μ Q := by
  intro X hX hR
  have hP := hRC.1
  have hL := hRC.2.1
  show V G 3 X 0 [(0, .ref 0), (1, .int w_), (2, .int v_)] [] μ
  refine V_iload_n hX dX8_set_0 1 rfl ?_
  show V G 3 X 1 [(0, .ref 0), (1, .int w_), (2, .int v_)] (.int w_ :: []) μ
  by_cases e1_0 : w_ = nI 0
  · subst e1_0
    refine V_tableIn (x := nI 0) (off := 27) (tgt := 28) hX dX8_set_1 (by decide) (by decide) (by decide) (by decide) ?_
    refine V_iload_n hX dX8_set_28 2 rfl ?_
    refine V_iconst (v := nI 1) hX dX8_set_29 (by decide) ?_
    refine V_bipush (v := nI 9) hX dX8_set_30 (by decide) ?_
    refine V_callS (As := [.int v_, .int (nI 1), .int (nI 9)]) (st := []) hX mX8_73 (k_isOutside ?_) rfl (Nat.le_of_ble_eq_true rfl) (Nat.le_of_ble_eq_true rfl) dX8_set_32
    show V G 3 X 35 [(0, .ref 0), (1, .int (nI 0)), (2, .int v_)] [.int (bI (v_ < nI 1 ∨ nI 9 < v_))] μ
    refine V_if_eqB (tgt := 43) hX dX8_set_35 (by decide) (fun c35 => ?_) (fun c35 => ?_)
    · obtain ⟨j_, hj0, hj7, rfl⟩ := nat_of_out (by decide) (by decide) c35
      refine V_aload_n hX dX8_set_43 0 rfl ?_
      refine V_getr (j := 1) hX fX8_10 rfl rfl dX8_set_44 ?_
      refine V_iload_n hX dX8_set_47 2 rfl ?_
      refine V_callV (As := [.int (nI j_)]) (st := []) hX mX8_119 rfl (kC_changeReach rfl hP ?_) rfl (Nat.le_of_ble_eq_true rfl) (Nat.le_of_ble_eq_true rfl) dX8_set_48
      show V G 3 X 51 [(0, .ref 0), (1, .int (nI 0)), (2, .int (nI j_))] [.int (nI (P 0 1))] (vup μ.1 1 1 (nI j_), μ.2)
      refine V_iret hX rfl dX8_set_51 ?_
      have h9 := hQ (vup μ.1 1 1 (nI j_), μ.2)
      rw [show setS P (nI 0) (nI j_) = _ from (if_pos rfl).trans (if_pos (in_of_not_out c35))] at h9
      rw [nI_clamp (by omega)] at h9
      exact hR _ _ (h9 (hRC.put 1 j_) (keepM.put (by decide)))
    · refine V_bipush (v := (-2)) hX dX8_set_38 (by decide) ?_
      refine V_goto (tgt := 51) hX dX8_set_40 (by decide) ?_
      refine V_iret hX rfl dX8_set_51 ?_
      have h9 := hQ μ
      rw [show setS P (nI 0) v_ = (-2, P) from (if_pos rfl).trans (if_neg (not_in_of_out c35))] at h9
      exact hR _ _ (h9 hRC (keepM.rf μ))
  · skip
    by_cases e1_1 : w_ = nI 1
    · subst e1_1
      refine V_tableIn (x := nI 1) (off := 51) (tgt := 52) hX dX8_set_1 (by decide) (by decide) (by decide) (by decide) ?_
      refine V_iload_n hX dX8_set_52 2 rfl ?_
      refine V_iconst (v := nI 0) hX dX8_set_53 (by decide) ?_
      refine V_bipush (v := nI 9) hX dX8_set_54 (by decide) ?_
      refine V_callS (As := [.int v_, .int (nI 0), .int (nI 9)]) (st := []) hX mX8_73 (k_isOutside ?_) rfl (Nat.le_of_ble_eq_true rfl) (Nat.le_of_ble_eq_true rfl) dX8_set_56
      show V G 3 X 59 [(0, .ref 0), (1, .int (nI 1)), (2, .int v_)] [.int (bI (v_ < nI 0 ∨ nI 9 < v_))] μ
      refine V_if_eqB (tgt := 67) hX dX8_set_59 (by decide) (fun c59 => ?_) (fun c59 => ?_)
      · obtain ⟨j_, hj0, hj7, rfl⟩ := nat_of_out (by decide) (by decide) c59
        refine V_aload_n hX dX8_set_67 0 rfl ?_
        refine V_getr (j := 1) hX fX8_10 rfl rfl dX8_set_68 ?_
        refine V_iload_n hX dX8_set_71 2 rfl ?_
        refine V_callV (As := [.int (nI j_)]) (st := []) hX mX8_122 rfl (kC_changeRate rfl hP ?_) rfl (Nat.le_of_ble_eq_true rfl) (Nat.le_of_ble_eq_true rfl) dX8_set_72
        show V G 3 X 75 [(0, .ref 0), (1, .int (nI 1)), (2, .int (nI j_))] [.int (nI (P 0 2))] (vup μ.1 1 2 (nI j_), μ.2)
        refine V_iret hX rfl dX8_set_75 ?_
        have h9 := hQ (vup μ.1 1 2 (nI j_), μ.2)
        rw [show setS P (nI 1) (nI j_) = _ from ((if_neg (by decide)).trans (if_pos rfl)).trans (if_pos (in_of_not_out c59))] at h9
        rw [nI_clamp (by omega)] at h9
        exact hR _ _ (h9 (hRC.put 2 j_) (keepM.put (by decide)))
      · refine V_bipush (v := (-2)) hX dX8_set_62 (by decide) ?_
        refine V_goto (tgt := 75) hX dX8_set_64 (by decide) ?_
        refine V_iret hX rfl dX8_set_75 ?_
        have h9 := hQ μ
        rw [show setS P (nI 1) v_ = (-2, P) from ((if_neg (by decide)).trans (if_pos rfl)).trans (if_neg (not_in_of_out c59))] at h9
        exact hR _ _ (h9 hRC (keepM.rf μ))
    · skip
      by_cases e1_2 : w_ = nI 2
      · subst e1_2
        refine V_tableIn (x := nI 2) (off := 75) (tgt := 76) hX dX8_set_1 (by decide) (by decide) (by decide) (by decide) ?_
        refine V_iload_n hX dX8_set_76 2 rfl ?_
        refine V_iconst (v := nI 0) hX dX8_set_77 (by decide) ?_
        refine V_iconst (v := nI 2) hX dX8_set_78 (by decide) ?_
        refine V_callS (As := [.int v_, .int (nI 0), .int (nI 2)]) (st := []) hX mX8_73 (k_isOutside ?_) rfl (Nat.le_of_ble_eq_true rfl) (Nat.le_of_ble_eq_true rfl) dX8_set_79
        show V G 3 X 82 [(0, .ref 0), (1, .int (nI 2)), (2, .int v_)] [.int (bI (v_ < nI 0 ∨ nI 2 < v_))] μ
        refine V_if_eqB (tgt := 90) hX dX8_set_82 (by decide) (fun c82 => ?_) (fun c82 => ?_)
        · obtain ⟨j_, hj0, hj7, rfl⟩ := nat_of_out (by decide) (by decide) c82
          refine V_aload_n hX dX8_set_90 0 rfl ?_
          refine V_getr (j := 1) hX fX8_10 rfl rfl dX8_set_91 ?_
          refine V_iload_n hX dX8_set_94 2 rfl ?_
          refine V_callV (As := [.int (nI j_)]) (st := []) hX mX8_125 rfl (kC_changeInspector rfl hP ?_) rfl (Nat.le_of_ble_eq_true rfl) (Nat.le_of_ble_eq_true rfl) dX8_set_95
          show V G 3 X 98 [(0, .ref 0), (1, .int (nI 2)), (2, .int (nI j_))] [.int (nI (P 0 3))] (vup μ.1 1 3 (nI j_), μ.2)
          refine V_iret hX rfl dX8_set_98 ?_
          have h9 := hQ (vup μ.1 1 3 (nI j_), μ.2)
          rw [show setS P (nI 2) (nI j_) = _ from ((if_neg (by decide)).trans ((if_neg (by decide)).trans (if_pos rfl))).trans (if_pos (in_of_not_out c82))] at h9
          rw [nI_clamp (by omega)] at h9
          exact hR _ _ (h9 (hRC.put 3 j_) (keepM.put (by decide)))
        · refine V_bipush (v := (-2)) hX dX8_set_85 (by decide) ?_
          refine V_goto (tgt := 98) hX dX8_set_87 (by decide) ?_
          refine V_iret hX rfl dX8_set_98 ?_
          have h9 := hQ μ
          rw [show setS P (nI 2) v_ = (-2, P) from ((if_neg (by decide)).trans ((if_neg (by decide)).trans (if_pos rfl))).trans (if_neg (not_in_of_out c82))] at h9
          exact hR _ _ (h9 hRC (keepM.rf μ))
      · skip
        refine V_tableOut (tgt := 99) hX dX8_set_1 (tbl_out 2 (by decide) (by intro k hk; match k, hk with | 0, _ => exact e1_0 | 1, _ => exact e1_1 | 2, _ => exact e1_2)) (by decide) ?_
        refine V_bipush (v := (-2)) hX dX8_set_99 (by decide) ?_
        refine V_iret hX rfl dX8_set_101 ?_
        have h9 := hQ μ
        rw [show setS P w_ v_ = (-2, P) from (if_neg e1_0).trans ((if_neg e1_1).trans (if_neg e1_2))] at h9
        exact hR _ _ (h9 hRC (keepM.rf μ))
theorem hearP_eq {P : PC} {h s a e c v : Nat} : ∀ x y, vup (vup (vup (vup (vup (vup P 1 h s) 2 h a) 3 h e) 4 h c) 0 4 (P 0 4 ||| 1 <<< h)) 0 5 v x y = vup (vup (vup (vup (vup (vup P 0 4 (P 0 4 ||| 1 <<< h)) 1 h s) 2 h a) 3 h e) 4 h c) 0 5 v x y := by
  intro x y
  simp only [vup_get]
  by_cases h0 : x = 0
  · subst h0; simp
  · by_cases h1 : x = 1
    · subst h1; simp
    · by_cases h2 : x = 2
      · subst h2; simp
      · by_cases h3 : x = 3
        · subst h3; simp
        · by_cases h4 : x = 4
          · subst h4; simp
          · simp [h0, h1, h2, h3, h4]
set_option maxRecDepth 100000 in
set_option maxHeartbeats 4000000 in
theorem kC_hearer {G : VG} {d : Nat} {μ : VS} {Q : Option Value → VS → Prop} {P : PC} {L : Nat} {S κ : Nat → Nat} {I : Nat → PC} {h_ s_ a_ e_ c_ u_ : Int32} (hRC : RC μ P L S κ I) (hok : okP P) (hQ : ∀ μ', RC μ' (hearerS P h_ s_ a_ e_ c_ u_).2 L S κ I → keepM μ μ' → Q (some (.int (hearerS P h_ s_ a_ e_ c_ u_).1)) μ') : Call G (d + 3) yX8_hearer cX8_hearer 8 (some .int) [.ref 0, .int h_, .int s_, .int a_, .int e_, .int c_, .int u_] μ Q := by
  intro X hX hR
  have hP := hRC.1
  have hL := hRC.2.1
  have hr1 := hok.1.1
  have hr3 := hok.1.2
  have hP4 := hok.2.2.2.2.1
  have hP5 := hok.2.2.2.2.2.1
  show V G 8 X 0 [(0, .ref 0), (1, .int h_), (2, .int s_), (3, .int a_), (4, .int e_), (5, .int c_), (6, .int u_)] [] μ
  refine V_iload_n hX dX8_hearer_0 1 rfl ?_
  refine V_iconst (v := nI 0) hX dX8_hearer_1 (by decide) ?_
  refine V_bipush (v := nI 7) hX dX8_hearer_2 (by decide) ?_
  refine V_callS (As := [.int h_, .int (nI 0), .int (nI 7)]) (st := []) hX mX8_73 (k_isOutside ?_) rfl (Nat.le_of_ble_eq_true rfl) (Nat.le_of_ble_eq_true rfl) dX8_hearer_4
  show V G 8 X 7 [(0, .ref 0), (1, .int h_), (2, .int s_), (3, .int a_), (4, .int e_), (5, .int c_), (6, .int u_)] [.int (bI (h_ < nI 0 ∨ nI 7 < h_))] μ
  refine V_if_neB (tgt := 27) hX dX8_hearer_7 (by decide) (fun c7 => ?_) (fun c7 => ?_)
  · refine V_iconst (v := (-1)) hX dX8_hearer_27 (by decide) ?_
    refine V_iret hX rfl dX8_hearer_28 ?_
    have h9 := hQ μ
    rw [show hearerS P h_ s_ a_ e_ c_ u_ = (-1, P) from if_neg (fun z => not_in_of_out c7 z.1)] at h9
    exact hR _ _ (h9 hRC (keepM.rf μ))
  · refine V_iload_n hX dX8_hearer_10 2 rfl ?_
    refine V_iconst (v := nI 0) hX dX8_hearer_11 (by decide) ?_
    refine V_aload_n hX dX8_hearer_12 0 rfl ?_
    refine V_getr (j := 1) hX fX8_10 rfl rfl dX8_hearer_13 ?_
    refine V_callV (As := []) (st := [.int (nI 0), .int s_]) hX mX8_85 rfl (kC_seats rfl hP ?_) rfl (Nat.le_of_ble_eq_true rfl) (Nat.le_of_ble_eq_true rfl) dX8_hearer_16
    show V G 8 X 19 [(0, .ref 0), (1, .int h_), (2, .int s_), (3, .int a_), (4, .int e_), (5, .int c_), (6, .int u_)] [.int (nI (P 0 0 * 4)), .int (nI 0), .int s_] μ
    refine V_iconst (v := nI 1) hX dX8_hearer_19 (by decide) ?_
    refine V_isubN hX dX8_hearer_20 (by omega) ?_
    refine V_callS (As := [.int s_, .int (nI 0), .int (nI ((P 0 0 * 4) - 1))]) (st := []) hX mX8_73 (k_isOutside ?_) rfl (Nat.le_of_ble_eq_true rfl) (Nat.le_of_ble_eq_true rfl) dX8_hearer_21
    show V G 8 X 24 [(0, .ref 0), (1, .int h_), (2, .int s_), (3, .int a_), (4, .int e_), (5, .int c_), (6, .int u_)] [.int (bI (s_ < nI 0 ∨ nI ((P 0 0 * 4) - 1) < s_))] μ
    refine V_if_eqB (tgt := 29) hX dX8_hearer_24 (by decide) (fun c24 => ?_) (fun c24 => ?_)
    · obtain ⟨h1, hh0, hh7, eh⟩ := nat_of_out (by decide) (by decide) c7
      obtain ⟨s1, hs0, hs7, es⟩ := nat_of_out (by decide) (by omega) c24
      subst eh
      subst es
      refine V_iload_n hX dX8_hearer_29 3 rfl ?_
      refine V_iconst (v := nI 0) hX dX8_hearer_30 (by decide) ?_
      refine V_bipush (v := nI 20) hX dX8_hearer_31 (by decide) ?_
      refine V_callS (As := [.int a_, .int (nI 0), .int (nI 20)]) (st := []) hX mX8_73 (k_isOutside ?_) rfl (Nat.le_of_ble_eq_true rfl) (Nat.le_of_ble_eq_true rfl) dX8_hearer_33
      show V G 8 X 36 [(0, .ref 0), (1, .int (nI h1)), (2, .int (nI s1)), (3, .int a_), (4, .int e_), (5, .int c_), (6, .int u_)] [.int (bI (a_ < nI 0 ∨ nI 20 < a_))] μ
      refine V_if_neB (tgt := 59) hX dX8_hearer_36 (by decide) (fun c36 => ?_) (fun c36 => ?_)
      · refine V_bipush (v := (-2)) hX dX8_hearer_59 (by decide) ?_
        refine V_iret hX rfl dX8_hearer_61 ?_
        have h9 := hQ μ
        rw [show hearerS P (nI h1) (nI s1) a_ e_ c_ u_ = (-2, P) from (if_pos ⟨in_of_not_out c7, by have z := in_of_not_out c24; rw [Nat.mul_comm] at z; exact z⟩).trans (if_neg (fun z => not_in_of_out c36 z.1))] at h9
        exact hR _ _ (h9 hRC (keepM.rf μ))
      · refine V_iload hX dX8_hearer_39 4 rfl ?_
        refine V_iconst (v := nI 0) hX dX8_hearer_41 (by decide) ?_
        refine V_iconst (v := nI 5) hX dX8_hearer_42 (by decide) ?_
        refine V_callS (As := [.int e_, .int (nI 0), .int (nI 5)]) (st := []) hX mX8_73 (k_isOutside ?_) rfl (Nat.le_of_ble_eq_true rfl) (Nat.le_of_ble_eq_true rfl) dX8_hearer_43
        show V G 8 X 46 [(0, .ref 0), (1, .int (nI h1)), (2, .int (nI s1)), (3, .int a_), (4, .int e_), (5, .int c_), (6, .int u_)] [.int (bI (e_ < nI 0 ∨ nI 5 < e_))] μ
        refine V_if_neB (tgt := 59) hX dX8_hearer_46 (by decide) (fun c46 => ?_) (fun c46 => ?_)
        · refine V_bipush (v := (-2)) hX dX8_hearer_59 (by decide) ?_
          refine V_iret hX rfl dX8_hearer_61 ?_
          have h9 := hQ μ
          rw [show hearerS P (nI h1) (nI s1) a_ e_ c_ u_ = (-2, P) from (if_pos ⟨in_of_not_out c7, by have z := in_of_not_out c24; rw [Nat.mul_comm] at z; exact z⟩).trans (if_neg (fun z => not_in_of_out c46 z.2.1))] at h9
          exact hR _ _ (h9 hRC (keepM.rf μ))
        · refine V_iload hX dX8_hearer_49 5 rfl ?_
          refine V_iconst (v := nI 0) hX dX8_hearer_51 (by decide) ?_
          refine V_iconst (v := nI 1) hX dX8_hearer_52 (by decide) ?_
          refine V_callS (As := [.int c_, .int (nI 0), .int (nI 1)]) (st := []) hX mX8_73 (k_isOutside ?_) rfl (Nat.le_of_ble_eq_true rfl) (Nat.le_of_ble_eq_true rfl) dX8_hearer_53
          show V G 8 X 56 [(0, .ref 0), (1, .int (nI h1)), (2, .int (nI s1)), (3, .int a_), (4, .int e_), (5, .int c_), (6, .int u_)] [.int (bI (c_ < nI 0 ∨ nI 1 < c_))] μ
          refine V_if_eqB (tgt := 62) hX dX8_hearer_56 (by decide) (fun c56 => ?_) (fun c56 => ?_)
          · obtain ⟨a1, ha0, ha7, ea⟩ := nat_of_out (by decide) (by decide) c36
            obtain ⟨d1, hd0, hd7, ed⟩ := nat_of_out (by decide) (by decide) c46
            obtain ⟨e1, he0, he7, ee⟩ := nat_of_out (by decide) (by decide) c56
            subst ea
            subst ed
            subst ee
            refine V_aload_n hX dX8_hearer_62 0 rfl ?_
            refine V_getr (j := 1) hX fX8_10 rfl rfl dX8_hearer_63 ?_
            refine V_iload_n hX dX8_hearer_66 2 rfl ?_
            refine V_callV (As := [.int (nI s1)]) (st := []) hX mX8_89 rfl (kC_sitterAt rfl hP hok (by omega) ?_) rfl (Nat.le_of_ble_eq_true rfl) (Nat.le_of_ble_eq_true rfl) dX8_hearer_67
            show V G 8 X 70 [(0, .ref 0), (1, .int (nI h1)), (2, .int (nI s1)), (3, .int (nI a1)), (4, .int (nI d1)), (5, .int (nI e1)), (6, .int u_)] [.int (sitK P s1 8)] μ
            refine V_istore (ls' := [(0, .ref 0), (1, .int (nI h1)), (2, .int (nI s1)), (3, .int (nI a1)), (4, .int (nI d1)), (5, .int (nI e1)), (6, .int u_), (7, .int (sitK P s1 8))]) hX dX8_hearer_70 (by decide) rfl ?_
            refine V_iload hX dX8_hearer_72 7 rfl ?_
            refine V_bipush (v := (-6)) hX dX8_hearer_74 (by decide) ?_
            refine V_icmp_eq (tgt := 88) hX dX8_hearer_76 (by decide) (fun c76 => ?_) (fun c76 => ?_)
            · refine V_aload_n hX dX8_hearer_88 0 rfl ?_
              refine V_getr (j := 1) hX fX8_10 rfl rfl dX8_hearer_89 ?_
              refine V_getr (j := 2) hX fX8_93 rfl rfl dX8_hearer_92 ?_
              refine V_iload_n hX dX8_hearer_95 1 rfl ?_
              refine V_iload_n hX dX8_hearer_96 2 rfl ?_
              refine V_iastN hX rfl (by first | omega | exact shl8 (by omega) | exact or_lt256 (by omega) (by omega) | exact clr_lt256 _ (by omega)) (by decide) dX8_hearer_97 ?_
              show V G 8 X 98 [(0, .ref 0), (1, .int (nI h1)), (2, .int (nI s1)), (3, .int (nI a1)), (4, .int (nI d1)), (5, .int (nI e1)), (6, .int u_), (7, .int (sitK P s1 8))] [] (vup μ.1 2 h1 (nI s1), μ.2)
              refine V_aload_n hX dX8_hearer_98 0 rfl ?_
              refine V_getr (j := 1) hX fX8_10 rfl rfl dX8_hearer_99 ?_
              refine V_getr (j := 3) hX fX8_97 rfl rfl dX8_hearer_102 ?_
              refine V_iload_n hX dX8_hearer_105 1 rfl ?_
              refine V_iload_n hX dX8_hearer_106 3 rfl ?_
              refine V_iastN hX rfl (by first | omega | exact shl8 (by omega) | exact or_lt256 (by omega) (by omega) | exact clr_lt256 _ (by omega)) (by decide) dX8_hearer_107 ?_
              show V G 8 X 108 [(0, .ref 0), (1, .int (nI h1)), (2, .int (nI s1)), (3, .int (nI a1)), (4, .int (nI d1)), (5, .int (nI e1)), (6, .int u_), (7, .int (sitK P s1 8))] [] (vup (vup μ.1 2 h1 (nI s1)) 3 h1 (nI a1), μ.2)
              refine V_aload_n hX dX8_hearer_108 0 rfl ?_
              refine V_getr (j := 1) hX fX8_10 rfl rfl dX8_hearer_109 ?_
              refine V_getr (j := 4) hX fX8_100 rfl rfl dX8_hearer_112 ?_
              refine V_iload_n hX dX8_hearer_115 1 rfl ?_
              refine V_iload hX dX8_hearer_116 4 rfl ?_
              refine V_iastN hX rfl (by first | omega | exact shl8 (by omega) | exact or_lt256 (by omega) (by omega) | exact clr_lt256 _ (by omega)) (by decide) dX8_hearer_118 ?_
              show V G 8 X 119 [(0, .ref 0), (1, .int (nI h1)), (2, .int (nI s1)), (3, .int (nI a1)), (4, .int (nI d1)), (5, .int (nI e1)), (6, .int u_), (7, .int (sitK P s1 8))] [] (vup (vup (vup μ.1 2 h1 (nI s1)) 3 h1 (nI a1)) 4 h1 (nI d1), μ.2)
              refine V_aload_n hX dX8_hearer_119 0 rfl ?_
              refine V_getr (j := 1) hX fX8_10 rfl rfl dX8_hearer_120 ?_
              refine V_getr (j := 5) hX fX8_103 rfl rfl dX8_hearer_123 ?_
              refine V_iload_n hX dX8_hearer_126 1 rfl ?_
              refine V_iload hX dX8_hearer_127 5 rfl ?_
              refine V_iastN hX rfl (by first | omega | exact shl8 (by omega) | exact or_lt256 (by omega) (by omega) | exact clr_lt256 _ (by omega)) (by decide) dX8_hearer_129 ?_
              show V G 8 X 130 [(0, .ref 0), (1, .int (nI h1)), (2, .int (nI s1)), (3, .int (nI a1)), (4, .int (nI d1)), (5, .int (nI e1)), (6, .int u_), (7, .int (sitK P s1 8))] [] (vup (vup (vup (vup μ.1 2 h1 (nI s1)) 3 h1 (nI a1)) 4 h1 (nI d1)) 5 h1 (nI e1), μ.2)
              refine V_aload_n hX dX8_hearer_130 0 rfl ?_
              refine V_getr (j := 1) hX fX8_10 rfl rfl dX8_hearer_131 ?_
              refine V_dup hX dX8_hearer_134 rfl ?_
              refine V_getN (x := nI (P 0 4)) hX fX8_106 rfl (hP.1 4 (by decide)) dX8_hearer_135 ?_
              refine V_iconst (v := nI 1) hX dX8_hearer_138 (by decide) ?_
              refine V_iload_n hX dX8_hearer_139 1 rfl ?_
              refine V_ishlN hX dX8_hearer_140 (by first | omega | exact shl8 (by omega) | exact or_lt256 (by omega) (by omega) | exact clr_lt256 _ (by omega)) (by first | omega | exact shl8 (by omega) | exact or_lt256 (by omega) (by omega) | exact clr_lt256 _ (by omega)) ?_
              refine V_iorN hX dX8_hearer_141 ?_
              refine V_puti hX fX8_106 fw_3_4 rfl dX8_hearer_142 ?_
              show V G 8 X 145 [(0, .ref 0), (1, .int (nI h1)), (2, .int (nI s1)), (3, .int (nI a1)), (4, .int (nI d1)), (5, .int (nI e1)), (6, .int u_), (7, .int (sitK P s1 8))] [] (vup (vup (vup (vup (vup μ.1 2 h1 (nI s1)) 3 h1 (nI a1)) 4 h1 (nI d1)) 5 h1 (nI e1)) 1 4 (nI ((P 0 4) ||| (1 <<< h1))), μ.2)
              refine V_aload_n hX dX8_hearer_145 0 rfl ?_
              refine V_getr (j := 1) hX fX8_10 rfl rfl dX8_hearer_146 ?_
              refine V_iload hX dX8_hearer_149 6 rfl ?_
              refine V_if_eq (tgt := 168) hX dX8_hearer_151 (by decide) (fun c151 => ?_) (fun c151 => ?_)
              · refine V_aload_n hX dX8_hearer_168 0 rfl ?_
                refine V_getr (j := 1) hX fX8_10 rfl rfl dX8_hearer_169 ?_
                refine V_getN (x := nI (P 0 5)) hX fX8_109 rfl (hP.1 5 (by decide)) dX8_hearer_172 ?_
                refine V_iconst (v := nI 1) hX dX8_hearer_175 (by decide) ?_
                refine V_iload_n hX dX8_hearer_176 1 rfl ?_
                refine V_ishlN hX dX8_hearer_177 (by first | omega | exact shl8 (by omega) | exact or_lt256 (by omega) (by omega) | exact clr_lt256 _ (by omega)) (by first | omega | exact shl8 (by omega) | exact or_lt256 (by omega) (by omega) | exact clr_lt256 _ (by omega)) ?_
                refine V_iconst (v := nI 4294967295) hX dX8_hearer_178 (by decide) ?_
                refine V_ixorN hX dX8_hearer_179 ?_
                refine V_iandN hX dX8_hearer_180 ?_
                refine V_puti hX fX8_109 fw_3_5 rfl dX8_hearer_181 ?_
                show V G 8 X 184 [(0, .ref 0), (1, .int (nI h1)), (2, .int (nI s1)), (3, .int (nI a1)), (4, .int (nI d1)), (5, .int (nI e1)), (6, .int u_), (7, .int (sitK P s1 8))] [] (vup (vup (vup (vup (vup (vup μ.1 2 h1 (nI s1)) 3 h1 (nI a1)) 4 h1 (nI d1)) 5 h1 (nI e1)) 1 4 (nI ((P 0 4) ||| (1 <<< h1)))) 1 5 (nI ((P 0 5) &&& ((1 <<< h1) ^^^ 4294967295))), μ.2)
                have hRC2 := (((((hRC.arr 0 (by decide) h1 s1).arr 1 (by decide) h1 a1).arr 2 (by decide) h1 d1).arr 3 (by decide) h1 e1).put 4 (P 0 4 ||| 1 <<< h1)).put 5 (clrN (P 0 5) h1)
                refine V_aload_n hX dX8_hearer_184 0 rfl ?_
                refine V_getr (j := 1) hX fX8_10 rfl rfl dX8_hearer_185 ?_
                refine V_callV (As := []) (st := []) hX mX8_112 rfl (kC_howMany rfl hRC2.1 (or_lt256 (by omega) (by omega)) ?_) rfl (Nat.le_of_ble_eq_true rfl) (Nat.le_of_ble_eq_true rfl) dX8_hearer_188
                show V G 8 X 191 [(0, .ref 0), (1, .int (nI h1)), (2, .int (nI s1)), (3, .int (nI a1)), (4, .int (nI d1)), (5, .int (nI e1)), (6, .int u_), (7, .int (sitK P s1 8))] [.int (nI (popN (P 0 4 ||| 1 <<< h1) 8))] (vup (vup (vup (vup (vup (vup μ.1 2 h1 (nI s1)) 3 h1 (nI a1)) 4 h1 (nI d1)) 5 h1 (nI e1)) 1 4 (nI ((P 0 4) ||| (1 <<< h1)))) 1 5 (nI ((P 0 5) &&& ((1 <<< h1) ^^^ 4294967295))), μ.2)
                refine V_iret hX rfl dX8_hearer_191 ?_
                have h9 := hQ (vup (vup (vup (vup (vup (vup μ.1 2 h1 (nI s1)) 3 h1 (nI a1)) 4 h1 (nI d1)) 5 h1 (nI e1)) 1 4 (nI ((P 0 4) ||| (1 <<< h1)))) 1 5 (nI ((P 0 5) &&& ((1 <<< h1) ^^^ 4294967295))), μ.2)
                rw [show hearerS P (nI h1) (nI s1) (nI a1) (nI d1) (nI e1) u_ = _ from (if_pos ⟨in_of_not_out c7, by have z := in_of_not_out c24; rw [Nat.mul_comm] at z; exact z⟩).trans ((if_pos ⟨in_of_not_out c36, in_of_not_out c46, in_of_not_out c56⟩).trans (if_pos (Or.inl (by rw [nI_clamp (by omega)]; exact c76))))] at h9
                rw [nI_clamp (by omega), nI_clamp (by omega), nI_clamp (by omega), nI_clamp (by omega), nI_clamp (by omega), show decide (¬ u_ = 0) = false from decide_eq_false (fun z => z c151)] at h9
                exact hR _ _ (h9 (hRC2.congr hearP_eq) ((((((keepM.put (by decide)).tr (keepM.put (by decide))).tr (keepM.put (by decide))).tr (keepM.put (by decide))).tr (keepM.put (by decide))).tr (keepM.put (by decide))))
              · refine V_aload_n hX dX8_hearer_154 0 rfl ?_
                refine V_getr (j := 1) hX fX8_10 rfl rfl dX8_hearer_155 ?_
                refine V_getN (x := nI (P 0 5)) hX fX8_109 rfl (hP.1 5 (by decide)) dX8_hearer_158 ?_
                refine V_iconst (v := nI 1) hX dX8_hearer_161 (by decide) ?_
                refine V_iload_n hX dX8_hearer_162 1 rfl ?_
                refine V_ishlN hX dX8_hearer_163 (by first | omega | exact shl8 (by omega) | exact or_lt256 (by omega) (by omega) | exact clr_lt256 _ (by omega)) (by first | omega | exact shl8 (by omega) | exact or_lt256 (by omega) (by omega) | exact clr_lt256 _ (by omega)) ?_
                refine V_iorN hX dX8_hearer_164 ?_
                refine V_goto (tgt := 181) hX dX8_hearer_165 (by decide) ?_
                refine V_puti hX fX8_109 fw_3_5 rfl dX8_hearer_181 ?_
                show V G 8 X 184 [(0, .ref 0), (1, .int (nI h1)), (2, .int (nI s1)), (3, .int (nI a1)), (4, .int (nI d1)), (5, .int (nI e1)), (6, .int u_), (7, .int (sitK P s1 8))] [] (vup (vup (vup (vup (vup (vup μ.1 2 h1 (nI s1)) 3 h1 (nI a1)) 4 h1 (nI d1)) 5 h1 (nI e1)) 1 4 (nI ((P 0 4) ||| (1 <<< h1)))) 1 5 (nI ((P 0 5) ||| (1 <<< h1))), μ.2)
                have hRC2 := (((((hRC.arr 0 (by decide) h1 s1).arr 1 (by decide) h1 a1).arr 2 (by decide) h1 d1).arr 3 (by decide) h1 e1).put 4 (P 0 4 ||| 1 <<< h1)).put 5 (P 0 5 ||| 1 <<< h1)
                refine V_aload_n hX dX8_hearer_184 0 rfl ?_
                refine V_getr (j := 1) hX fX8_10 rfl rfl dX8_hearer_185 ?_
                refine V_callV (As := []) (st := []) hX mX8_112 rfl (kC_howMany rfl hRC2.1 (or_lt256 (by omega) (by omega)) ?_) rfl (Nat.le_of_ble_eq_true rfl) (Nat.le_of_ble_eq_true rfl) dX8_hearer_188
                show V G 8 X 191 [(0, .ref 0), (1, .int (nI h1)), (2, .int (nI s1)), (3, .int (nI a1)), (4, .int (nI d1)), (5, .int (nI e1)), (6, .int u_), (7, .int (sitK P s1 8))] [.int (nI (popN (P 0 4 ||| 1 <<< h1) 8))] (vup (vup (vup (vup (vup (vup μ.1 2 h1 (nI s1)) 3 h1 (nI a1)) 4 h1 (nI d1)) 5 h1 (nI e1)) 1 4 (nI ((P 0 4) ||| (1 <<< h1)))) 1 5 (nI ((P 0 5) ||| (1 <<< h1))), μ.2)
                refine V_iret hX rfl dX8_hearer_191 ?_
                have h9 := hQ (vup (vup (vup (vup (vup (vup μ.1 2 h1 (nI s1)) 3 h1 (nI a1)) 4 h1 (nI d1)) 5 h1 (nI e1)) 1 4 (nI ((P 0 4) ||| (1 <<< h1)))) 1 5 (nI ((P 0 5) ||| (1 <<< h1))), μ.2)
                rw [show hearerS P (nI h1) (nI s1) (nI a1) (nI d1) (nI e1) u_ = _ from (if_pos ⟨in_of_not_out c7, by have z := in_of_not_out c24; rw [Nat.mul_comm] at z; exact z⟩).trans ((if_pos ⟨in_of_not_out c36, in_of_not_out c46, in_of_not_out c56⟩).trans (if_pos (Or.inl (by rw [nI_clamp (by omega)]; exact c76))))] at h9
                rw [nI_clamp (by omega), nI_clamp (by omega), nI_clamp (by omega), nI_clamp (by omega), nI_clamp (by omega), show decide (¬ u_ = 0) = true from decide_eq_true c151] at h9
                exact hR _ _ (h9 (hRC2.congr hearP_eq) ((((((keepM.put (by decide)).tr (keepM.put (by decide))).tr (keepM.put (by decide))).tr (keepM.put (by decide))).tr (keepM.put (by decide))).tr (keepM.put (by decide))))
            · refine V_iload hX dX8_hearer_79 7 rfl ?_
              refine V_iload_n hX dX8_hearer_81 1 rfl ?_
              refine V_icmp_eq (tgt := 88) hX dX8_hearer_82 (by decide) (fun c82 => ?_) (fun c82 => ?_)
              · refine V_aload_n hX dX8_hearer_88 0 rfl ?_
                refine V_getr (j := 1) hX fX8_10 rfl rfl dX8_hearer_89 ?_
                refine V_getr (j := 2) hX fX8_93 rfl rfl dX8_hearer_92 ?_
                refine V_iload_n hX dX8_hearer_95 1 rfl ?_
                refine V_iload_n hX dX8_hearer_96 2 rfl ?_
                refine V_iastN hX rfl (by first | omega | exact shl8 (by omega) | exact or_lt256 (by omega) (by omega) | exact clr_lt256 _ (by omega)) (by decide) dX8_hearer_97 ?_
                show V G 8 X 98 [(0, .ref 0), (1, .int (nI h1)), (2, .int (nI s1)), (3, .int (nI a1)), (4, .int (nI d1)), (5, .int (nI e1)), (6, .int u_), (7, .int (sitK P s1 8))] [] (vup μ.1 2 h1 (nI s1), μ.2)
                refine V_aload_n hX dX8_hearer_98 0 rfl ?_
                refine V_getr (j := 1) hX fX8_10 rfl rfl dX8_hearer_99 ?_
                refine V_getr (j := 3) hX fX8_97 rfl rfl dX8_hearer_102 ?_
                refine V_iload_n hX dX8_hearer_105 1 rfl ?_
                refine V_iload_n hX dX8_hearer_106 3 rfl ?_
                refine V_iastN hX rfl (by first | omega | exact shl8 (by omega) | exact or_lt256 (by omega) (by omega) | exact clr_lt256 _ (by omega)) (by decide) dX8_hearer_107 ?_
                show V G 8 X 108 [(0, .ref 0), (1, .int (nI h1)), (2, .int (nI s1)), (3, .int (nI a1)), (4, .int (nI d1)), (5, .int (nI e1)), (6, .int u_), (7, .int (sitK P s1 8))] [] (vup (vup μ.1 2 h1 (nI s1)) 3 h1 (nI a1), μ.2)
                refine V_aload_n hX dX8_hearer_108 0 rfl ?_
                refine V_getr (j := 1) hX fX8_10 rfl rfl dX8_hearer_109 ?_
                refine V_getr (j := 4) hX fX8_100 rfl rfl dX8_hearer_112 ?_
                refine V_iload_n hX dX8_hearer_115 1 rfl ?_
                refine V_iload hX dX8_hearer_116 4 rfl ?_
                refine V_iastN hX rfl (by first | omega | exact shl8 (by omega) | exact or_lt256 (by omega) (by omega) | exact clr_lt256 _ (by omega)) (by decide) dX8_hearer_118 ?_
                show V G 8 X 119 [(0, .ref 0), (1, .int (nI h1)), (2, .int (nI s1)), (3, .int (nI a1)), (4, .int (nI d1)), (5, .int (nI e1)), (6, .int u_), (7, .int (sitK P s1 8))] [] (vup (vup (vup μ.1 2 h1 (nI s1)) 3 h1 (nI a1)) 4 h1 (nI d1), μ.2)
                refine V_aload_n hX dX8_hearer_119 0 rfl ?_
                refine V_getr (j := 1) hX fX8_10 rfl rfl dX8_hearer_120 ?_
                refine V_getr (j := 5) hX fX8_103 rfl rfl dX8_hearer_123 ?_
                refine V_iload_n hX dX8_hearer_126 1 rfl ?_
                refine V_iload hX dX8_hearer_127 5 rfl ?_
                refine V_iastN hX rfl (by first | omega | exact shl8 (by omega) | exact or_lt256 (by omega) (by omega) | exact clr_lt256 _ (by omega)) (by decide) dX8_hearer_129 ?_
                show V G 8 X 130 [(0, .ref 0), (1, .int (nI h1)), (2, .int (nI s1)), (3, .int (nI a1)), (4, .int (nI d1)), (5, .int (nI e1)), (6, .int u_), (7, .int (sitK P s1 8))] [] (vup (vup (vup (vup μ.1 2 h1 (nI s1)) 3 h1 (nI a1)) 4 h1 (nI d1)) 5 h1 (nI e1), μ.2)
                refine V_aload_n hX dX8_hearer_130 0 rfl ?_
                refine V_getr (j := 1) hX fX8_10 rfl rfl dX8_hearer_131 ?_
                refine V_dup hX dX8_hearer_134 rfl ?_
                refine V_getN (x := nI (P 0 4)) hX fX8_106 rfl (hP.1 4 (by decide)) dX8_hearer_135 ?_
                refine V_iconst (v := nI 1) hX dX8_hearer_138 (by decide) ?_
                refine V_iload_n hX dX8_hearer_139 1 rfl ?_
                refine V_ishlN hX dX8_hearer_140 (by first | omega | exact shl8 (by omega) | exact or_lt256 (by omega) (by omega) | exact clr_lt256 _ (by omega)) (by first | omega | exact shl8 (by omega) | exact or_lt256 (by omega) (by omega) | exact clr_lt256 _ (by omega)) ?_
                refine V_iorN hX dX8_hearer_141 ?_
                refine V_puti hX fX8_106 fw_3_4 rfl dX8_hearer_142 ?_
                show V G 8 X 145 [(0, .ref 0), (1, .int (nI h1)), (2, .int (nI s1)), (3, .int (nI a1)), (4, .int (nI d1)), (5, .int (nI e1)), (6, .int u_), (7, .int (sitK P s1 8))] [] (vup (vup (vup (vup (vup μ.1 2 h1 (nI s1)) 3 h1 (nI a1)) 4 h1 (nI d1)) 5 h1 (nI e1)) 1 4 (nI ((P 0 4) ||| (1 <<< h1))), μ.2)
                refine V_aload_n hX dX8_hearer_145 0 rfl ?_
                refine V_getr (j := 1) hX fX8_10 rfl rfl dX8_hearer_146 ?_
                refine V_iload hX dX8_hearer_149 6 rfl ?_
                refine V_if_eq (tgt := 168) hX dX8_hearer_151 (by decide) (fun c151 => ?_) (fun c151 => ?_)
                · refine V_aload_n hX dX8_hearer_168 0 rfl ?_
                  refine V_getr (j := 1) hX fX8_10 rfl rfl dX8_hearer_169 ?_
                  refine V_getN (x := nI (P 0 5)) hX fX8_109 rfl (hP.1 5 (by decide)) dX8_hearer_172 ?_
                  refine V_iconst (v := nI 1) hX dX8_hearer_175 (by decide) ?_
                  refine V_iload_n hX dX8_hearer_176 1 rfl ?_
                  refine V_ishlN hX dX8_hearer_177 (by first | omega | exact shl8 (by omega) | exact or_lt256 (by omega) (by omega) | exact clr_lt256 _ (by omega)) (by first | omega | exact shl8 (by omega) | exact or_lt256 (by omega) (by omega) | exact clr_lt256 _ (by omega)) ?_
                  refine V_iconst (v := nI 4294967295) hX dX8_hearer_178 (by decide) ?_
                  refine V_ixorN hX dX8_hearer_179 ?_
                  refine V_iandN hX dX8_hearer_180 ?_
                  refine V_puti hX fX8_109 fw_3_5 rfl dX8_hearer_181 ?_
                  show V G 8 X 184 [(0, .ref 0), (1, .int (nI h1)), (2, .int (nI s1)), (3, .int (nI a1)), (4, .int (nI d1)), (5, .int (nI e1)), (6, .int u_), (7, .int (sitK P s1 8))] [] (vup (vup (vup (vup (vup (vup μ.1 2 h1 (nI s1)) 3 h1 (nI a1)) 4 h1 (nI d1)) 5 h1 (nI e1)) 1 4 (nI ((P 0 4) ||| (1 <<< h1)))) 1 5 (nI ((P 0 5) &&& ((1 <<< h1) ^^^ 4294967295))), μ.2)
                  have hRC2 := (((((hRC.arr 0 (by decide) h1 s1).arr 1 (by decide) h1 a1).arr 2 (by decide) h1 d1).arr 3 (by decide) h1 e1).put 4 (P 0 4 ||| 1 <<< h1)).put 5 (clrN (P 0 5) h1)
                  refine V_aload_n hX dX8_hearer_184 0 rfl ?_
                  refine V_getr (j := 1) hX fX8_10 rfl rfl dX8_hearer_185 ?_
                  refine V_callV (As := []) (st := []) hX mX8_112 rfl (kC_howMany rfl hRC2.1 (or_lt256 (by omega) (by omega)) ?_) rfl (Nat.le_of_ble_eq_true rfl) (Nat.le_of_ble_eq_true rfl) dX8_hearer_188
                  show V G 8 X 191 [(0, .ref 0), (1, .int (nI h1)), (2, .int (nI s1)), (3, .int (nI a1)), (4, .int (nI d1)), (5, .int (nI e1)), (6, .int u_), (7, .int (sitK P s1 8))] [.int (nI (popN (P 0 4 ||| 1 <<< h1) 8))] (vup (vup (vup (vup (vup (vup μ.1 2 h1 (nI s1)) 3 h1 (nI a1)) 4 h1 (nI d1)) 5 h1 (nI e1)) 1 4 (nI ((P 0 4) ||| (1 <<< h1)))) 1 5 (nI ((P 0 5) &&& ((1 <<< h1) ^^^ 4294967295))), μ.2)
                  refine V_iret hX rfl dX8_hearer_191 ?_
                  have h9 := hQ (vup (vup (vup (vup (vup (vup μ.1 2 h1 (nI s1)) 3 h1 (nI a1)) 4 h1 (nI d1)) 5 h1 (nI e1)) 1 4 (nI ((P 0 4) ||| (1 <<< h1)))) 1 5 (nI ((P 0 5) &&& ((1 <<< h1) ^^^ 4294967295))), μ.2)
                  rw [show hearerS P (nI h1) (nI s1) (nI a1) (nI d1) (nI e1) u_ = _ from (if_pos ⟨in_of_not_out c7, by have z := in_of_not_out c24; rw [Nat.mul_comm] at z; exact z⟩).trans ((if_pos ⟨in_of_not_out c36, in_of_not_out c46, in_of_not_out c56⟩).trans (if_pos (Or.inr (by rw [nI_clamp (by omega)]; exact c82))))] at h9
                  rw [nI_clamp (by omega), nI_clamp (by omega), nI_clamp (by omega), nI_clamp (by omega), nI_clamp (by omega), show decide (¬ u_ = 0) = false from decide_eq_false (fun z => z c151)] at h9
                  exact hR _ _ (h9 (hRC2.congr hearP_eq) ((((((keepM.put (by decide)).tr (keepM.put (by decide))).tr (keepM.put (by decide))).tr (keepM.put (by decide))).tr (keepM.put (by decide))).tr (keepM.put (by decide))))
                · refine V_aload_n hX dX8_hearer_154 0 rfl ?_
                  refine V_getr (j := 1) hX fX8_10 rfl rfl dX8_hearer_155 ?_
                  refine V_getN (x := nI (P 0 5)) hX fX8_109 rfl (hP.1 5 (by decide)) dX8_hearer_158 ?_
                  refine V_iconst (v := nI 1) hX dX8_hearer_161 (by decide) ?_
                  refine V_iload_n hX dX8_hearer_162 1 rfl ?_
                  refine V_ishlN hX dX8_hearer_163 (by first | omega | exact shl8 (by omega) | exact or_lt256 (by omega) (by omega) | exact clr_lt256 _ (by omega)) (by first | omega | exact shl8 (by omega) | exact or_lt256 (by omega) (by omega) | exact clr_lt256 _ (by omega)) ?_
                  refine V_iorN hX dX8_hearer_164 ?_
                  refine V_goto (tgt := 181) hX dX8_hearer_165 (by decide) ?_
                  refine V_puti hX fX8_109 fw_3_5 rfl dX8_hearer_181 ?_
                  show V G 8 X 184 [(0, .ref 0), (1, .int (nI h1)), (2, .int (nI s1)), (3, .int (nI a1)), (4, .int (nI d1)), (5, .int (nI e1)), (6, .int u_), (7, .int (sitK P s1 8))] [] (vup (vup (vup (vup (vup (vup μ.1 2 h1 (nI s1)) 3 h1 (nI a1)) 4 h1 (nI d1)) 5 h1 (nI e1)) 1 4 (nI ((P 0 4) ||| (1 <<< h1)))) 1 5 (nI ((P 0 5) ||| (1 <<< h1))), μ.2)
                  have hRC2 := (((((hRC.arr 0 (by decide) h1 s1).arr 1 (by decide) h1 a1).arr 2 (by decide) h1 d1).arr 3 (by decide) h1 e1).put 4 (P 0 4 ||| 1 <<< h1)).put 5 (P 0 5 ||| 1 <<< h1)
                  refine V_aload_n hX dX8_hearer_184 0 rfl ?_
                  refine V_getr (j := 1) hX fX8_10 rfl rfl dX8_hearer_185 ?_
                  refine V_callV (As := []) (st := []) hX mX8_112 rfl (kC_howMany rfl hRC2.1 (or_lt256 (by omega) (by omega)) ?_) rfl (Nat.le_of_ble_eq_true rfl) (Nat.le_of_ble_eq_true rfl) dX8_hearer_188
                  show V G 8 X 191 [(0, .ref 0), (1, .int (nI h1)), (2, .int (nI s1)), (3, .int (nI a1)), (4, .int (nI d1)), (5, .int (nI e1)), (6, .int u_), (7, .int (sitK P s1 8))] [.int (nI (popN (P 0 4 ||| 1 <<< h1) 8))] (vup (vup (vup (vup (vup (vup μ.1 2 h1 (nI s1)) 3 h1 (nI a1)) 4 h1 (nI d1)) 5 h1 (nI e1)) 1 4 (nI ((P 0 4) ||| (1 <<< h1)))) 1 5 (nI ((P 0 5) ||| (1 <<< h1))), μ.2)
                  refine V_iret hX rfl dX8_hearer_191 ?_
                  have h9 := hQ (vup (vup (vup (vup (vup (vup μ.1 2 h1 (nI s1)) 3 h1 (nI a1)) 4 h1 (nI d1)) 5 h1 (nI e1)) 1 4 (nI ((P 0 4) ||| (1 <<< h1)))) 1 5 (nI ((P 0 5) ||| (1 <<< h1))), μ.2)
                  rw [show hearerS P (nI h1) (nI s1) (nI a1) (nI d1) (nI e1) u_ = _ from (if_pos ⟨in_of_not_out c7, by have z := in_of_not_out c24; rw [Nat.mul_comm] at z; exact z⟩).trans ((if_pos ⟨in_of_not_out c36, in_of_not_out c46, in_of_not_out c56⟩).trans (if_pos (Or.inr (by rw [nI_clamp (by omega)]; exact c82))))] at h9
                  rw [nI_clamp (by omega), nI_clamp (by omega), nI_clamp (by omega), nI_clamp (by omega), nI_clamp (by omega), show decide (¬ u_ = 0) = true from decide_eq_true c151] at h9
                  exact hR _ _ (h9 (hRC2.congr hearP_eq) ((((((keepM.put (by decide)).tr (keepM.put (by decide))).tr (keepM.put (by decide))).tr (keepM.put (by decide))).tr (keepM.put (by decide))).tr (keepM.put (by decide))))
              · refine V_bipush (v := (-3)) hX dX8_hearer_85 (by decide) ?_
                refine V_iret hX rfl dX8_hearer_87 ?_
                have h9 := hQ μ
                rw [show hearerS P (nI h1) (nI s1) (nI a1) (nI d1) (nI e1) u_ = (-3, P) from (if_pos ⟨in_of_not_out c7, by have z := in_of_not_out c24; rw [Nat.mul_comm] at z; exact z⟩).trans ((if_pos ⟨in_of_not_out c36, in_of_not_out c46, in_of_not_out c56⟩).trans (if_neg (fun z => z.elim (fun q => absurd (by rw [nI_clamp (by omega)] at q; exact q) c76) (fun q => absurd (by rw [nI_clamp (by omega)] at q; exact q) c82))))] at h9
                exact hR _ _ (h9 hRC (keepM.rf μ))
          · refine V_bipush (v := (-2)) hX dX8_hearer_59 (by decide) ?_
            refine V_iret hX rfl dX8_hearer_61 ?_
            have h9 := hQ μ
            rw [show hearerS P (nI h1) (nI s1) a_ e_ c_ u_ = (-2, P) from (if_pos ⟨in_of_not_out c7, by have z := in_of_not_out c24; rw [Nat.mul_comm] at z; exact z⟩).trans (if_neg (fun z => not_in_of_out c56 z.2.2))] at h9
            exact hR _ _ (h9 hRC (keepM.rf μ))
    · refine V_iconst (v := (-1)) hX dX8_hearer_27 (by decide) ?_
      refine V_iret hX rfl dX8_hearer_28 ?_
      have h9 := hQ μ
      rw [show hearerS P h_ s_ a_ e_ c_ u_ = (-1, P) from if_neg (fun z => not_in_of_out c24 (by rw [Nat.mul_comm]; exact z.2))] at h9
      exact hR _ _ (h9 hRC (keepM.rf μ))
