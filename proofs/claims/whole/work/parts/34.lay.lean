/-- all that the reference writes while it is asked -/
def mAll (a k : Nat) : Prop := (76 ≤ a ∧ a ≤ 84) ∨ (a = 69 ∧ 13 ≤ k)
def mKeep (μ μ' : VS) : Prop := (∀ a k, ¬ mAll a k → μ'.1 a k = μ.1 a k) ∧ μ'.2 = μ.2
theorem mKeep.rf (μ : VS) : mKeep μ μ := ⟨fun _ _ _ => rfl, rfl⟩
theorem mKeep.tr {a b c : VS} (h : mKeep a b) (g : mKeep b c) : mKeep a c := ⟨fun x k hx => (g.1 x k hx).trans (h.1 x k hx), g.2.trans h.2⟩
theorem mSame.keep {a b : VS} (h : mSame a b) : mKeep a b := ⟨fun x k hx => h.1 x k (fun z => hx (by unfold mScr at z; unfold mAll; omega)), h.2⟩
theorem mKeep.C {a b : VS} (h : mKeep a b) : keepC a b := fun x hx => funext (fun k => h.1 x k (by unfold mAll; omega))
theorem RM.keep {μ μ' : VS} {P : PC} {L : Nat} {S κ : Nat → Nat} {I : Nat → PC} (h : RM μ P L S κ I) (e : mKeep μ μ') : RM μ' P L S κ I := by
  have e1 : ∀ a k, (70 ≤ a ∧ a ≤ 75) ∨ (85 ≤ a) ∨ (a = 69 ∧ k < 13) → μ'.1 a k = μ.1 a k := fun a k hk => e.1 a k (by unfold mAll; omega)
  have hb : ∀ k, k < 7 → mF k < 13 := by decide
  refine ⟨⟨fun k hk => ?_, fun j hj q hq => ?_, fun i hi => ⟨?_, ?_⟩⟩, ⟨?_, fun i hi => ?_⟩, fun n hn => ⟨?_, fun hκ => ⟨fun k hk => ?_, fun j hj q hq => ?_, fun i hi => ⟨?_, ?_⟩⟩⟩⟩
  · rw [e1 69 _ (by have := hb k hk; omega)]; exact h.1.1 k hk
  · rw [e1 (70 + j) q (by omega)]; exact h.1.2.1 j hj q hq
  · rw [e1 74 _ (by omega)]; exact (h.1.2.2 i hi).1
  · rw [e1 74 _ (by omega)]; exact (h.1.2.2 i hi).2
  · rw [e1 69 12 (by omega)]; exact h.2.1.1
  · rw [e1 75 i (by omega)]; exact h.2.1.2 i hi
  · rw [e1 86 n (by omega)]; exact (h.2.2 n hn).1
  · rw [e1 85 _ (by omega)]; exact ((h.2.2 n hn).2 hκ).1 k hk
  · rw [e1 85 _ (by omega)]; exact ((h.2.2 n hn).2 hκ).2.1 j hj q hq
  · rw [e1 85 _ (by omega)]; exact (((h.2.2 n hn).2 hκ).2.2 i hi).1
  · rw [e1 85 _ (by omega)]; exact (((h.2.2 n hn).2 hκ).2.2 i hi).2
/-- laid out: the sermon as it stands, the church as it stands -/
def layR (P : PC) (L : Nat) (S : Nat → Nat) (μ' : VS) : Prop := isE μ' P ∧ μ'.1 69 15 = nI L ∧ (∀ i, i < L → μ'.1 76 i = nI (S i)) ∧ μ'.1 69 19 = nI 0
set_option maxRecDepth 100000 in
set_option maxHeartbeats 4000000 in
theorem lpM_lay1 {G : VG} {d : Nat} {X : VX} {μ : VS} {P : PC} {L : Nat} {S : Nat → Nat} (hX : Cx G d yX9_lay cX9_lay 2 none X) (hM0 : isM μ P) (hL0 : isPadM μ L S) (hL60 : L ≤ 60) (hF : ∀ μ1 : VS, ((∀ a, a ≠ 76 → μ1.1 a = μ.1 a) ∧ (∀ h, h < L → μ1.1 76 h = nI (S h)) ∧ μ1.2 = μ.2) → V G 2 X 36 [(0, .ref 69), (1, .int (nI L))] [] μ1) : ∀ (j k_ : Nat) (μ1 : VS), k_ ≤ L → L + 1 ≤ k_ + j → ((∀ a, a ≠ 76 → μ1.1 a = μ.1 a) ∧ (∀ h, h < k_ → μ1.1 76 h = nI (S h)) ∧ μ1.2 = μ.2) → V G 2 X 10 [(0, .ref 69), (1, .int (nI k_))] [] μ1 := by
  intro j
  induction j with
  | zero =>
    intro k_ μ1 h1 h2
    exact absurd h2 (by omega)
  | succ j ih =>
    intro k_ μ1 h1 h2 hV
    have hM : isM μ1 P := hM0.frame (fun a h1 h2 => hV.1 a (by omega))
    have hL : isPadM μ1 L S := ⟨by rw [hV.1 69 (by decide)]; exact hL0.1, fun i hi => by rw [hV.1 75 (by decide)]; exact hL0.2 i hi⟩
    refine V_iload_n hX dX9_lay_10 1 rfl ?_
    refine V_aload_n hX dX9_lay_11 0 rfl ?_
    refine V_getN (x := nI L) hX fX9_103 rfl hL.1 dX9_lay_12 ?_
    refine V_icmp_geN (tgt := 36) hX dX9_lay_15 (by decide) (by omega) (by omega) (fun c15 => ?_) (fun c15 => ?_)
    · obtain rfl : k_ = L := by omega
      exact hF μ1 hV
    · refine V_aload_n hX dX9_lay_18 0 rfl ?_
      refine V_getr (j := 76) hX fX9_38 rfl rfl dX9_lay_19 ?_
      refine V_iload_n hX dX9_lay_22 1 rfl ?_
      refine V_aload_n hX dX9_lay_23 0 rfl ?_
      refine V_getr (j := 75) hX fX9_35 rfl rfl dX9_lay_24 ?_
      refine V_iload_n hX dX9_lay_27 1 rfl ?_
      refine V_ialdN (x := nI (S k_)) hX rfl (by omega) (by decide) (hL.2 _ (by omega)) dX9_lay_28 ?_
      refine V_iastN hX rfl (by omega) (by decide) dX9_lay_29 ?_
      show V G 2 X 30 [(0, .ref 69), (1, .int (nI k_))] [] (vup μ1.1 76 k_ (nI (S k_)), μ1.2)
      refine V_iincN (n := 1) (ls' := [(0, .ref 69), (1, .int (nI (k_ + 1)))]) hX dX9_lay_30 1 rfl (by decide) rfl ?_
      refine V_goto (tgt := 10) hX dX9_lay_33 (by decide) ?_
      refine ih (k_ + 1) _ (by omega) (by omega) ⟨fun a ha => ?_, fun h hh => ?_, hV.2.2⟩
      · dsimp only; rw [vup_row _ _ _ ha]; exact hV.1 a ha
      · dsimp only
        rw [vup_get]
        by_cases e : h = k_
        · rw [if_pos ⟨rfl, e⟩, e]
        · rw [if_neg (by omega)]; exact hV.2.1 h (by omega)
set_option maxRecDepth 100000 in
set_option maxHeartbeats 4000000 in
theorem lpM_lay2 {G : VG} {d : Nat} {X : VX} {μ : VS} {P : PC} {L : Nat} {S : Nat → Nat} (hX : Cx G d yX9_lay cX9_lay 2 none X) (hM0 : isM μ P) (hL0 : isPadM μ L S) (hL60 : L ≤ 60) (hF : ∀ μ1 : VS, ((∀ a, a ≠ 77 → μ1.1 a = μ.1 a) ∧ (∀ h, h < 8 → μ1.1 77 h = nI (P 1 h)) ∧ μ1.2 = μ.2) → V G 2 X 62 [(0, .ref 69), (1, .int (nI 8))] [] μ1) : ∀ (j k_ : Nat) (μ1 : VS), k_ ≤ 8 → 8 + 1 ≤ k_ + j → ((∀ a, a ≠ 77 → μ1.1 a = μ.1 a) ∧ (∀ h, h < k_ → μ1.1 77 h = nI (P 1 h)) ∧ μ1.2 = μ.2) → V G 2 X 38 [(0, .ref 69), (1, .int (nI k_))] [] μ1 := by
  intro j
  induction j with
  | zero =>
    intro k_ μ1 h1 h2
    exact absurd h2 (by omega)
  | succ j ih =>
    intro k_ μ1 h1 h2 hV
    have hM : isM μ1 P := hM0.frame (fun a h1 h2 => hV.1 a (by omega))
    have hL : isPadM μ1 L S := ⟨by rw [hV.1 69 (by decide)]; exact hL0.1, fun i hi => by rw [hV.1 75 (by decide)]; exact hL0.2 i hi⟩
    refine V_iload_n hX dX9_lay_38 1 rfl ?_
    refine V_bipush (v := nI 8) hX dX9_lay_39 (by decide) ?_
    refine V_icmp_geN (tgt := 62) hX dX9_lay_41 (by decide) (by omega) (by omega) (fun c41 => ?_) (fun c41 => ?_)
    · obtain rfl : k_ = 8 := by omega
      exact hF μ1 hV
    · refine V_aload_n hX dX9_lay_44 0 rfl ?_
      refine V_getr (j := 77) hX fX9_41 rfl rfl dX9_lay_45 ?_
      refine V_iload_n hX dX9_lay_48 1 rfl ?_
      refine V_aload_n hX dX9_lay_49 0 rfl ?_
      refine V_getr (j := 70) hX fX9_13 rfl rfl dX9_lay_50 ?_
      refine V_iload_n hX dX9_lay_53 1 rfl ?_
      refine V_ialdN (x := nI (P 1 k_)) hX rfl (by omega) (by decide) (hM.2.1 0 (by decide) _ (by omega)) dX9_lay_54 ?_
      refine V_iastN hX rfl (by omega) (by decide) dX9_lay_55 ?_
      show V G 2 X 56 [(0, .ref 69), (1, .int (nI k_))] [] (vup μ1.1 77 k_ (nI (P 1 k_)), μ1.2)
      refine V_iincN (n := 1) (ls' := [(0, .ref 69), (1, .int (nI (k_ + 1)))]) hX dX9_lay_56 1 rfl (by decide) rfl ?_
      refine V_goto (tgt := 38) hX dX9_lay_59 (by decide) ?_
      refine ih (k_ + 1) _ (by omega) (by omega) ⟨fun a ha => ?_, fun h hh => ?_, hV.2.2⟩
      · dsimp only; rw [vup_row _ _ _ ha]; exact hV.1 a ha
      · dsimp only
        rw [vup_get]
        by_cases e : h = k_
        · rw [if_pos ⟨rfl, e⟩, e]
        · rw [if_neg (by omega)]; exact hV.2.1 h (by omega)
set_option maxRecDepth 100000 in
set_option maxHeartbeats 4000000 in
theorem kM_lay {G : VG} {d : Nat} {μ : VS} {Q : Option Value → VS → Prop} {P : PC} {L : Nat} {S : Nat → Nat} (hM : isM μ P) (hL : isPadM μ L S) (hL60 : L ≤ 60) (hQ : ∀ μ', layR P L S μ' → mKeep μ μ' → Q none μ') : Call G d yX9_lay cX9_lay 2 none [.ref 69] μ Q := by
  intro X hX hR
  show V G 2 X 0 [(0, .ref 69)] [] μ
  refine V_aload_n hX dX9_lay_0 0 rfl ?_
  refine V_aload_n hX dX9_lay_1 0 rfl ?_
  refine V_getN (x := nI L) hX fX9_103 rfl hL.1 dX9_lay_2 ?_
  refine V_puti hX fX9_113 fw_8_15 rfl dX9_lay_5 ?_
  show V G 2 X 8 [(0, .ref 69)] [] (vup μ.1 69 15 (nI L), μ.2)
  refine V_iconst (v := nI 0) hX dX9_lay_8 (by decide) ?_
  refine V_istore_n (ls' := [(0, .ref 69), (1, .int (nI 0))]) hX dX9_lay_9 (by decide) rfl ?_
  have hMz : isM (vup μ.1 69 15 (nI L), μ.2) P := ⟨fun k hk => by dsimp only; rw [vup_ne ((by decide : ∀ k, k < 7 → mF k ≠ 15) k hk)]; exact hM.1 k hk, fun j hj q hq => by dsimp only; rw [vup_row _ _ _ (by omega)]; exact hM.2.1 j hj q hq, hM.2.2⟩
  have hLz : isPadM (vup μ.1 69 15 (nI L), μ.2) L S := ⟨hL.1, hL.2⟩
  refine lpM_lay1 hX hMz hLz hL60 (fun μa hA => ?_) (L + 1) 0 _ (by omega) (by omega) ⟨fun _ _ => rfl, fun h hh => absurd hh (by omega), rfl⟩
  have hMa : isM μa P := hMz.frame (fun a h1 h2 => hA.1 a (by omega))
  have hLa : isPadM μa L S := ⟨by rw [hA.1 69 (by decide)]; exact hLz.1, fun i hi => by rw [hA.1 75 (by decide)]; exact hLz.2 i hi⟩
  refine V_iconst (v := nI 0) hX dX9_lay_36 (by decide) ?_
  refine V_istore_n (ls' := [(0, .ref 69), (1, .int (nI 0))]) hX dX9_lay_37 (by decide) rfl ?_
  refine lpM_lay2 hX hMa hLa hL60 (fun μ1 hB => ?_) 9 0 _ (by decide) (by decide) ⟨fun _ _ => rfl, fun h hh => absurd hh (by omega), rfl⟩
  have hM : isM μ1 P := hMa.frame (fun a h1 h2 => hB.1 a (by omega))
  refine V_aload_n hX dX9_lay_62 0 rfl ?_
  refine V_aload_n hX dX9_lay_63 0 rfl ?_
  refine V_getN (x := nI (P 0 5)) hX fX9_83 rfl (hM.1 5 (by decide)) dX9_lay_64 ?_
  refine V_puti hX fX9_116 fw_8_17 rfl dX9_lay_67 ?_
  show V G 2 X 70 [(0, .ref 69), (1, .int (nI 8))] [] (vup μ1.1 69 17 (nI (P 0 5)), μ1.2)
  refine V_aload_n hX dX9_lay_70 0 rfl ?_
  refine V_aload_n hX dX9_lay_71 0 rfl ?_
  refine V_getN (x := nI (P 0 2)) hX fX9_29 rfl (hM.1 2 (by decide)) dX9_lay_72 ?_
  refine V_puti hX fX9_119 fw_8_18 rfl dX9_lay_75 ?_
  show V G 2 X 78 [(0, .ref 69), (1, .int (nI 8))] [] (vup (vup μ1.1 69 17 (nI (P 0 5))) 69 18 (nI (P 0 2)), μ1.2)
  refine V_aload_n hX dX9_lay_78 0 rfl ?_
  refine V_iconst (v := nI 0) hX dX9_lay_79 (by decide) ?_
  refine V_puti hX fX9_122 fw_8_19 rfl dX9_lay_80 ?_
  show V G 2 X 83 [(0, .ref 69), (1, .int (nI 8))] [] (vup (vup (vup μ1.1 69 17 (nI (P 0 5))) 69 18 (nI (P 0 2))) 69 19 (nI 0), μ1.2)
  refine V_vret hX rfl dX9_lay_83 ?_
  refine hR _ _ (hQ _ ⟨⟨⟨?_, rfl, rfl, ?_, ?_⟩, fun h hh => ?_, fun h hh => ?_, fun h hh => ?_, fun h hh => ?_⟩, ?_, fun i hi => ?_, rfl⟩ ⟨fun a k hk => ?_, by dsimp only; rw [hB.2.2, hA.2.2]⟩)
  · exact hM.1 4 (by decide)
  · exact hM.1 3 (by decide)
  · exact hM.1 1 (by decide)
  · exact hB.2.1 h hh
  · exact hM.2.1 1 (by decide) h hh
  · exact hM.2.1 2 (by decide) h hh
  · exact hM.2.1 3 (by decide) h hh
  · show μ1.1 69 15 = _; rw [hB.1 69 (by decide), hA.1 69 (by decide)]; rfl
  · show μ1.1 76 i = _; rw [hB.1 76 (by decide)]; exact hA.2.1 i hi
  · dsimp only
    have g1 : ¬ (76 ≤ a ∧ a ≤ 84) := fun z => hk (Or.inl z)
    have g2 : ¬ (a = 69 ∧ 13 ≤ k) := fun z => hk (Or.inr z)
    rw [vup_get, if_neg (by omega), vup_get, if_neg (by omega), vup_get, if_neg (by omega), hB.1 a (by omega), hA.1 a (by omega)]
    dsimp only
    rw [vup_get, if_neg (by omega)]
