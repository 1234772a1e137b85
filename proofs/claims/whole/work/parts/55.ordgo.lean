theorem cv_le (T : Nat → Nat) (v m n : Nat) : cv T v m n ≤ n := cnt_le _ n
def goI0 (P : PC) (L : Nat) (S κ : Nat → Nat) (I : Nat → PC) (μ : VS) (m : Nat) (T c : Nat → Nat) : Prop := RC μ P L S κ I ∧ isW μ (34 + 2 * m) (uAt P T m) ∧ μ.1 56 3 = nI L ∧ (∀ i, i < m → μ.1 57 i = nI (T i) ∧ T i < 1000) ∧ ∀ k, k < 7 → μ.1 59 k = nI (c k) ∧ c k ≤ 7
def goP0 (μ μ' : VS) (m : Nat) (c : Nat → Nat) : Prop := (∀ a, a < 36 + 2 * m ∨ 64 ≤ a → μ'.1 a = μ.1 a) ∧ μ'.1 56 3 = μ.1 56 3 ∧ (∀ i, i < m → μ'.1 57 i = μ.1 57 i) ∧ (∀ k, k < 7 → μ'.1 59 k = nI (c k)) ∧ μ'.2 = μ.2
set_option maxRecDepth 100000 in
set_option maxHeartbeats 4000000 in
theorem lp_go0 {G : VG} {d : Nat} {μ : VS} {Q : Option Value → VS → Prop} {X : VX} {P : PC} {L : Nat} {S κ : Nat → Nat} {I : Nat → PC} {w_ : Nat} {m_ j_ : Nat} {T_ c_ : Nat → Nat} {a_ : CA} (hX : Cx G (d + (j_ + 1) + 4) yX2_goOn cX2_goOn 6 none X) (hR : ∀ r μ', Q r μ' → Ret G X r μ') (hok : okP P) (hL7 : L ≤ 7) (hw : w_ ≤ 1) (hmj : m_ + (j_ + 1) = L) (hI : goI0 P L S κ I μ m_ T_ c_)
    (hrec : ∀ (T c : Nat → Nat) (b : CA) {μ : VS} {Q : Option Value → VS → Prop}, True → goI0 P L S κ I μ (m_ + 1) T c → cRel P L w_ μ b → (∀ μ', goP0 μ μ' (m_ + 1) c → cRel P L w_ μ' (dfs (cMay P w_) (cArr P w_ L) j_ (m_ + 1) T c b) → Q none μ') → Call G (d + j_ + 4) yX2_goOn cX2_goOn 6 none [.ref 56, .ref 1, .ref 33, .int (nI (m_ + 1))] μ Q)
    (hQ : ∀ μ', goP0 μ μ' m_ c_ → cRel P L w_ μ' (kfold (dStep (cMay P w_) (cArr P w_ L) j_ m_ T_ c_) 7 a_) → Q none μ') : ∀ (r k_ : Nat) (μ1 : VS) (b_ : CA), k_ ≤ 7 → 8 ≤ k_ + r → goP0 μ μ1 m_ c_ → cRel P L w_ μ1 b_ → b_ = kfold (dStep (cMay P w_) (cArr P w_ L) j_ m_ T_ c_) k_ a_ → True → V G 6 X 19 [(0, .ref 56), (1, .ref 1), (2, .ref 33), (3, .int (nI m_)), (4, .int (nI k_))] [] μ1 := by
  have hu := mwR_ok hok (sg := T_) (cold := noC) (mw0_ok hok) m_
  intro r
  induction r with
  | zero =>
    intro k_ μ1 b_ h1 h2
    exact absurd h2 (by omega)
  | succ r ih =>
    intro k_ μ1 b_ h1 h2 hP1 hr1 hb hB
    refine V_iload hX dX2_goOn_19 4 rfl ?_
    refine V_bipush (v := nI 7) hX dX2_goOn_21 (by decide) ?_
    refine V_icmp_geN (tgt := 124) hX dX2_goOn_23 (by decide) (by first | omega | (have := (hI.2.2.2.2 k_ (by omega)).2; omega)) (by first | omega | (have := (hI.2.2.2.2 k_ (by omega)).2; omega)) (fun c23 => ?_) (fun c23 => ?_)
    · refine V_vret hX rfl dX2_goOn_124 ?_
      obtain rfl : k_ = 7 := by omega
      exact hR _ _ (hQ μ1 hP1 (by subst hb; exact hr1))
    · refine V_aload_n hX dX2_goOn_26 0 rfl ?_
      refine V_getr (j := 59) hX fX2_18_0 rfl rfl dX2_goOn_27 ?_
      refine V_iload hX dX2_goOn_30 4 rfl ?_
      refine V_ialdN (x := nI (c_ k_)) hX rfl (by first | omega | (have := (hI.2.2.2.2 k_ (by omega)).2; omega)) (by decide) (hP1.2.2.2.1 k_ (by omega)) dX2_goOn_32 ?_
      refine V_if_leN (tgt := 118) hX dX2_goOn_33 (by decide) (by first | omega | (have := (hI.2.2.2.2 k_ (by omega)).2; omega)) (fun c33 => ?_) (fun c33 => ?_)
      · refine V_iincN (n := 1) (ls' := [(0, .ref 56), (1, .ref 1), (2, .ref 33), (3, .int (nI m_)), (4, .int (nI (k_ + 1)))]) hX dX2_goOn_118 4 rfl (by decide) rfl ?_
        refine V_goto (tgt := 19) hX dX2_goOn_121 (by decide) ?_
        exact ih (k_ + 1) μ1 b_ (by omega) (by omega) hP1 hr1 (by subst hb; exact (dStep_no (fun z => by omega)).symm) trivial
      · refine V_aload_n hX dX2_goOn_36 0 rfl ?_
        refine V_getr (j := 57) hX fX2_9_0 rfl rfl dX2_goOn_37 ?_
        refine V_iload_n hX dX2_goOn_40 3 rfl ?_
        refine V_gets0N hX sX2_55 dX2_goOn_41 ?_
        refine V_iload hX dX2_goOn_44 4 rfl ?_
        refine V_cald0N (x := nI (kc k_)) hX (by first | omega | (have := (hI.2.2.2.2 k_ (by omega)).2; omega)) (kc_bc (by omega)) dX2_goOn_46 ?_
        refine V_iastN hX rfl (by first | omega | (have := (hI.2.2.2.2 k_ (by omega)).2; omega)) (by decide) dX2_goOn_47 ?_
        show V G 6 X 48 [(0, .ref 56), (1, .ref 1), (2, .ref 33), (3, .int (nI m_)), (4, .int (nI k_))] [] (vup μ1.1 57 m_ (nI (kc k_)), μ1.2)
        generalize hE2 : ((vup μ1.1 57 m_ (nI (kc k_)), μ1.2) : VS) = μ2
        have e2 : ∀ a, a ≠ 57 → μ2.1 a = μ1.1 a := fun a ha => by rw [← hE2]; dsimp only; exact vup_row _ _ _ ha
        have x2 : μ2.1 57 m_ = nI (kc k_) := by rw [← hE2]; dsimp only; exact vup_same _ _ _ _
        have y2 : ∀ i, i < m_ → μ2.1 57 i = μ1.1 57 i := fun i hi => by rw [← hE2]; dsimp only; exact vup_ne (by omega)
        have z2 : μ2.2 = μ1.2 := by rw [← hE2]
        have hW2 : isW μ2 (34 + 2 * m_) (uAt P T_ m_) := (hI.2.1.fr (μ' := μ1) (hP1.1 _ (by omega)) (hP1.1 _ (by omega))).fr (e2 _ (by omega)) (e2 _ (by omega))
        have hR2 : RC μ2 P L S κ I := hI.1.frame (fun a ha => by rw [e2 a (by omega), hP1.1 a (by omega)])
        refine V_aload_n hX dX2_goOn_48 2 rfl ?_
        refine V_iload_n hX dX2_goOn_49 3 rfl ?_
        refine V_iconst (v := nI 1) hX dX2_goOn_50 (by decide) ?_
        refine V_iaddN hX dX2_goOn_51 ?_
        refine V_waldN (r := 34 + 2 * (m_ + 1)) hX rfl (by first | omega | (have := (hI.2.2.2.2 k_ (by omega)).2; omega)) (by decide) rfl dX2_goOn_52 ?_
        refine V_astore (ls' := [(0, .ref 56), (1, .ref 1), (2, .ref 33), (3, .int (nI m_)), (4, .int (nI k_)), (5, .ref (34 + 2 * (m_ + 1)))]) hX dX2_goOn_53 (by decide) rfl ?_
        refine V_aload hX dX2_goOn_55 5 rfl ?_
        refine V_aload_n hX dX2_goOn_57 2 rfl ?_
        refine V_iload_n hX dX2_goOn_58 3 rfl ?_
        refine V_waldN (r := 34 + 2 * m_) hX rfl (by first | omega | (have := (hI.2.2.2.2 k_ (by omega)).2; omega)) (by decide) rfl dX2_goOn_59 ?_
        refine V_callV (As := [.ref (34 + 2 * m_)]) (st := []) hX mX2_59 (wk_step (by omega)) (k_become (w_ := 34 + 2 * (m_ + 1)) (v_ := 34 + 2 * m_) (wk_step (by omega)) (wk_step (by omega)) (by omega) hW2 (fun μ3 a3 b3 d3 => ?_)) rfl (Nat.le_of_ble_eq_true rfl) (Nat.le_of_ble_eq_true rfl) dX2_goOn_60
        show V G 6 X 63 [(0, .ref 56), (1, .ref 1), (2, .ref 33), (3, .int (nI m_)), (4, .int (nI k_)), (5, .ref (34 + 2 * (m_ + 1)))] [] μ3
        have hR3 : RC μ3 P L S κ I := hR2.frame (fun a ha => a3 a (by omega) (by omega))
        refine V_aload hX dX2_goOn_63 5 rfl ?_
        refine V_aload_n hX dX2_goOn_65 1 rfl ?_
        refine V_aload_n hX dX2_goOn_66 0 rfl ?_
        refine V_getr (j := 57) hX fX2_9_0 rfl rfl dX2_goOn_67 ?_
        refine V_iload_n hX dX2_goOn_70 3 rfl ?_
        refine V_ialdN (x := nI (kc k_)) hX rfl (by first | omega | (have := (hI.2.2.2.2 k_ (by omega)).2; omega)) (by decide) (by rw [a3 57 (by omega) (by omega)]; exact x2) dX2_goOn_71 ?_
        refine V_iconst (v := nI 0) hX dX2_goOn_72 (by decide) ?_
        show V G 6 X 73 [(0, .ref 56), (1, .ref 1), (2, .ref 33), (3, .int (nI m_)), (4, .int (nI k_)), (5, .ref (34 + 2 * (m_ + 1)))] [.int (bI (false = true)), .int (nI (kc k_)), .ref 1, .ref (34 + 2 * (m_ + 1))] μ3
        refine V_callV (As := [.ref 1, .int (nI (kc k_)), .int (bI (false = true))]) (st := []) hX mX2_62 (wk_step (by omega)) (k_pass (w_ := 34 + 2 * (m_ + 1)) (cold_ := false) (P := P) (wk_step (by omega)) rfl hR3.1 hok (kc_sm _) b3 hu (by omega) (fun μ4 a4 b4 c4 d4 => ?_)) rfl (Nat.le_of_ble_eq_true rfl) (Nat.le_of_ble_eq_true rfl) dX2_goOn_73
        show V G 6 X 76 [(0, .ref 56), (1, .ref 1), (2, .ref 33), (3, .int (nI m_)), (4, .int (nI k_)), (5, .ref (34 + 2 * (m_ + 1)))] [] μ4
        have hR4 : RC μ4 P L S κ I := hR3.frame (fun a ha => a4 a (by omega) (by omega))
        have hW4 : isW μ4 (34 + 2 * (m_ + 1)) (uAt P (apS T_ m_ (kc k_)) (m_ + 1)) := by rw [uAt_ap]; exact b4
        have e4 : ∀ a, 56 ≤ a ∧ a ≠ 57 → μ4.1 a = μ1.1 a := fun a ha => by rw [a4 a (by omega) (by omega), a3 a (by omega) (by omega), e2 a (by omega)]
        have hr4 : cRel P L w_ μ4 b_ := hr1.fr (e4 56 (by omega)) (e4 58 (by omega))
        have x4 : ∀ i, i < m_ + 1 → μ4.1 57 i = nI ((apS T_ m_ (kc k_)) i) ∧ (apS T_ m_ (kc k_)) i < 1000 := fun i hi => by
          rw [a4 57 (by omega) (by omega), a3 57 (by omega) (by omega)]
          by_cases e : i = m_
          · rw [e, apS_at]; exact ⟨x2, kc_sm _⟩
          · rw [apS_ne e, y2 i (by omega), hP1.2.2.1 i (by omega)]; exact hI.2.2.2.1 i (by omega)
        have hP4 : goP0 μ μ4 m_ c_ := ⟨fun a ha => by rw [a4 a (by omega) (by omega), a3 a (by omega) (by omega), e2 a (by omega), hP1.1 a ha], by rw [e4 56 (by omega)]; exact hP1.2.1, fun i hi => by rw [a4 57 (by omega) (by omega), a3 57 (by omega) (by omega), y2 i hi, hP1.2.2.1 i hi], fun k hk => by rw [e4 59 (by omega)]; exact hP1.2.2.2.1 k hk, by rw [d4, d3, z2]; exact hP1.2.2.2.2⟩
        refine V_aload_n hX dX2_goOn_76 0 rfl ?_
        refine V_aload_n hX dX2_goOn_77 1 rfl ?_
        refine V_aload hX dX2_goOn_78 5 rfl ?_
        refine V_iload_n hX dX2_goOn_80 3 rfl ?_
        refine V_callU (As := [.ref 1, .ref (34 + 2 * (m_ + 1)), .int (nI m_)]) (st := []) hX mX2_66_0 rfl (k_may0 (P := P) (L := L) (w_ := w_) (T_ := (apS T_ m_ (kc k_))) (a_ := b_) hok (by omega) (wk_step (by omega)) hW4 hr4 hw ?_) rfl (Nat.le_of_ble_eq_true rfl) (Nat.le_of_ble_eq_true rfl) dX2_goOn_81
        show V G 6 X 84 [(0, .ref 56), (1, .ref 1), (2, .ref 33), (3, .int (nI m_)), (4, .int (nI k_)), (5, .ref (34 + 2 * (m_ + 1)))] [.int (bI (cMay P w_ b_ (apS T_ m_ (kc k_)) m_ = true))] μ4
        refine V_if_eqB (tgt := 118) hX dX2_goOn_84 (by decide) (fun c84 => ?_) (fun c84 => ?_)
        · refine V_iincN (n := 1) (ls' := [(0, .ref 56), (1, .ref 1), (2, .ref 33), (3, .int (nI m_)), (4, .int (nI (k_ + 1))), (5, .ref (34 + 2 * (m_ + 1)))]) hX dX2_goOn_118 4 rfl (by decide) rfl ?_
          refine V_goto (tgt := 19) hX dX2_goOn_121 (by decide) ?_
          exact V_sub [0, 1, 2, 3, 4] rfl (ih (k_ + 1) μ4 b_ (by omega) (by omega) hP4 hr4 (by subst hb; exact (dStep_no (fun z => c84 z.2)).symm) trivial)
        · refine V_aload_n hX dX2_goOn_87 0 rfl ?_
          refine V_getr (j := 59) hX fX2_18_0 rfl rfl dX2_goOn_88 ?_
          refine V_iload hX dX2_goOn_91 4 rfl ?_
          refine V_dup2 hX dX2_goOn_93 rfl rfl ?_
          refine V_ialdN (x := nI (c_ k_)) hX rfl (by first | omega | (have := (hI.2.2.2.2 k_ (by omega)).2; omega)) (by decide) (by rw [e4 59 (by omega)]; exact hP1.2.2.2.1 k_ (by omega)) dX2_goOn_94 ?_
          refine V_iconst (v := nI 1) hX dX2_goOn_95 (by decide) ?_
          refine V_isubN hX dX2_goOn_96 (by omega) ?_
          refine V_iastN hX rfl (by first | omega | (have := (hI.2.2.2.2 k_ (by omega)).2; omega)) (by decide) dX2_goOn_97 ?_
          show V G 6 X 98 [(0, .ref 56), (1, .ref 1), (2, .ref 33), (3, .int (nI m_)), (4, .int (nI k_)), (5, .ref (34 + 2 * (m_ + 1)))] [] (vup μ4.1 59 k_ (nI ((c_ k_) - 1)), μ4.2)
          generalize hE5 : ((vup μ4.1 59 k_ (nI ((c_ k_) - 1)), μ4.2) : VS) = μ5
          have e5 : ∀ a, a ≠ 59 → μ5.1 a = μ4.1 a := fun a ha => by rw [← hE5]; dsimp only; exact vup_row _ _ _ ha
          have x5 : ∀ k, k < 7 → μ5.1 59 k = nI ((apS c_ k_ (c_ k_ - 1)) k) ∧ (apS c_ k_ (c_ k_ - 1)) k ≤ 7 := fun k hk => by
            have hck := (hI.2.2.2.2 k hk).2
            by_cases e : k = k_
            · subst e; rw [apS_at, ← hE5]; dsimp only; exact ⟨vup_same _ _ _ _, by omega⟩
            · rw [apS_ne e, ← hE5]; dsimp only; exact ⟨(vup_ne e).trans (by rw [e4 59 (by omega)]; exact hP1.2.2.2.1 k hk), hck⟩
          have z5 : μ5.2 = μ4.2 := by rw [← hE5]
          have hI5 : goI0 P L S κ I μ5 (m_ + 1) (apS T_ m_ (kc k_)) (apS c_ k_ (c_ k_ - 1)) := ⟨hR4.frame (fun a ha => e5 a (by omega)), hW4.fr (e5 _ (by omega)) (e5 _ (by omega)), by rw [e5 56 (by omega), e4 56 (by omega), hP1.2.1]; exact hI.2.2.1, fun i hi => by rw [e5 57 (by omega)]; exact x4 i hi, x5⟩
          have hr5 : cRel P L w_ μ5 b_ := hr4.fr (e5 56 (by omega)) (e5 58 (by omega))
          refine V_aload_n hX dX2_goOn_98 0 rfl ?_
          refine V_aload_n hX dX2_goOn_99 1 rfl ?_
          refine V_aload_n hX dX2_goOn_100 2 rfl ?_
          refine V_iload_n hX dX2_goOn_101 3 rfl ?_
          refine V_iconst (v := nI 1) hX dX2_goOn_102 (by decide) ?_
          refine V_iaddN hX dX2_goOn_103 ?_
          refine V_callU (As := [.ref 1, .ref 33, .int (nI (m_ + 1))]) (st := []) hX mX2_47_0 rfl (hrec (apS T_ m_ (kc k_)) (apS c_ k_ (c_ k_ - 1)) b_ trivial hI5 hr5 (fun μ6 p6 r6 => ?_)) rfl (Nat.le_of_ble_eq_true rfl) (Nat.le_of_ble_eq_true rfl) dX2_goOn_104
          show V G 6 X 107 [(0, .ref 56), (1, .ref 1), (2, .ref 33), (3, .int (nI m_)), (4, .int (nI k_)), (5, .ref (34 + 2 * (m_ + 1)))] [] μ6
          refine V_aload_n hX dX2_goOn_107 0 rfl ?_
          refine V_getr (j := 59) hX fX2_18_0 rfl rfl dX2_goOn_108 ?_
          refine V_iload hX dX2_goOn_111 4 rfl ?_
          refine V_dup2 hX dX2_goOn_113 rfl rfl ?_
          refine V_ialdN (x := nI (c_ k_ - 1)) hX rfl (by first | omega | (have := (hI.2.2.2.2 k_ (by omega)).2; omega)) (by decide) (by rw [p6.2.2.2.1 k_ (by omega), apS_at]) dX2_goOn_114 ?_
          refine V_iconst (v := nI 1) hX dX2_goOn_115 (by decide) ?_
          refine V_iaddN hX dX2_goOn_116 ?_
          refine V_iastN hX rfl (by first | omega | (have := (hI.2.2.2.2 k_ (by omega)).2; omega)) (by decide) dX2_goOn_117 ?_
          show V G 6 X 118 [(0, .ref 56), (1, .ref 1), (2, .ref 33), (3, .int (nI m_)), (4, .int (nI k_)), (5, .ref (34 + 2 * (m_ + 1)))] [] (vup μ6.1 59 k_ (nI ((c_ k_ - 1) + 1)), μ6.2)
          generalize hE7 : ((vup μ6.1 59 k_ (nI ((c_ k_ - 1) + 1)), μ6.2) : VS) = μ7
          have e7 : ∀ a, a ≠ 59 → μ7.1 a = μ6.1 a := fun a ha => by rw [← hE7]; dsimp only; exact vup_row _ _ _ ha
          have hP7 : goP0 μ μ7 m_ c_ := by
            refine ⟨fun a ha => ?_, ?_, fun i hi => ?_, fun k hk => ?_, ?_⟩
            · rw [e7 a (by omega), p6.1 a (by omega), e5 a (by omega), hP4.1 a ha]
            · rw [e7 56 (by omega), p6.2.1, e5 56 (by omega), hP4.2.1]
            · rw [e7 57 (by omega), p6.2.2.1 i (by omega), e5 57 (by omega), hP4.2.2.1 i hi]
            · by_cases e : k = k_
              · subst e; rw [← hE7]; dsimp only; exact (vup_same _ _ _ _).trans (congrArg nI (by omega))
              · rw [← hE7]; dsimp only; exact (vup_ne e).trans (by rw [p6.2.2.2.1 k hk, apS_ne e])
            · rw [← hE7]; show μ6.2 = μ.2; rw [p6.2.2.2.2, z5]; exact hP4.2.2.2.2
          refine V_iincN (n := 1) (ls' := [(0, .ref 56), (1, .ref 1), (2, .ref 33), (3, .int (nI m_)), (4, .int (nI (k_ + 1))), (5, .ref (34 + 2 * (m_ + 1)))]) hX dX2_goOn_118 4 rfl (by decide) rfl ?_
          refine V_goto (tgt := 19) hX dX2_goOn_121 (by decide) ?_
          exact V_sub [0, 1, 2, 3, 4] rfl (ih (k_ + 1) μ7 _ (by omega) (by omega) hP7 (r6.fr (e7 56 (by omega)) (e7 58 (by omega))) (by subst hb; exact (dStep_yes c33 c84).symm) trivial)
set_option maxRecDepth 100000 in
set_option maxHeartbeats 4000000 in
theorem k_go0 {G : VG} {d : Nat} {P : PC} {L : Nat} {S κ : Nat → Nat} {I : Nat → PC} {w_ : Nat} (hok : okP P) (hL7 : L ≤ 7) (hw : w_ ≤ 1) : ∀ (j m_ : Nat) (T_ c_ : Nat → Nat) (a_ : CA) {μ : VS} {Q : Option Value → VS → Prop}, m_ + j = L → True → goI0 P L S κ I μ m_ T_ c_ → cRel P L w_ μ a_ → (∀ μ', goP0 μ μ' m_ c_ → cRel P L w_ μ' (dfs (cMay P w_) (cArr P w_ L) j m_ T_ c_ a_) → Q none μ') → Call G (d + j + 4) yX2_goOn cX2_goOn 6 none [.ref 56, .ref 1, .ref 33, .int (nI m_)] μ Q := by
  intro j
  induction j with
  | zero =>
    intro m_ T_ c_ a_ μ Q hm hB hI hr hQ
    obtain rfl : m_ = L := by omega
    intro X hX hR
    show V G 6 X 0 [(0, .ref 56), (1, .ref 1), (2, .ref 33), (3, .int (nI m_))] [] μ
    refine V_iload_n hX dX2_goOn_0 3 rfl ?_
    refine V_aload_n hX dX2_goOn_1 0 rfl ?_
    refine V_getN (x := nI m_) hX fX2_21_0 rfl hI.2.2.1 dX2_goOn_2 ?_
    refine V_icmp_ltN (tgt := 16) hX dX2_goOn_5 (by decide) (by omega) (by omega) (fun c5 => ?_) (fun c5 => ?_)
    · exact absurd c5 (by omega)
    · refine V_aload_n hX dX2_goOn_8 0 rfl ?_
      refine V_aload_n hX dX2_goOn_9 2 rfl ?_
      refine V_iload_n hX dX2_goOn_10 3 rfl ?_
      refine V_waldN (r := 34 + 2 * m_) hX rfl (by omega) (by decide) rfl dX2_goOn_11 ?_
      refine V_callU (As := [.ref (34 + 2 * m_)]) (st := []) hX mX2_51_0 rfl (k_arr0 (P := P) (T_ := T_) (a_ := a_) hok hL7 hw hI.2.1 hI.2.2.1 hr.2.1 (fun i hi => (hI.2.2.2.1 i hi).1) (fun μ1 a1 l1 r1 d1 => ?_)) rfl (Nat.le_of_ble_eq_true rfl) (Nat.le_of_ble_eq_true rfl) dX2_goOn_12
      show V G 6 X 15 [(0, .ref 56), (1, .ref 1), (2, .ref 33), (3, .int (nI m_))] [] μ1
      refine V_vret hX rfl dX2_goOn_15 ?_
      exact hR _ _ (hQ μ1 ⟨fun a ha => a1 a (by omega) (by omega), l1, fun i hi => by rw [a1 57 (by omega) (by omega)], fun k hk => by rw [a1 59 (by omega) (by omega)]; exact (hI.2.2.2.2 k hk).1, d1⟩ r1)
  | succ j ihj =>
    intro m_ T_ c_ a_ μ Q hm hB hI hr hQ
    intro X hX hR
    show V G 6 X 0 [(0, .ref 56), (1, .ref 1), (2, .ref 33), (3, .int (nI m_))] [] μ
    refine V_iload_n hX dX2_goOn_0 3 rfl ?_
    refine V_aload_n hX dX2_goOn_1 0 rfl ?_
    refine V_getN (x := nI L) hX fX2_21_0 rfl hI.2.2.1 dX2_goOn_2 ?_
    refine V_icmp_ltN (tgt := 16) hX dX2_goOn_5 (by decide) (by omega) (by omega) (fun c5 => ?_) (fun c5 => ?_)
    · refine V_iconst (v := nI 0) hX dX2_goOn_16 (by decide) ?_
      refine V_istore (ls' := [(0, .ref 56), (1, .ref 1), (2, .ref 33), (3, .int (nI m_)), (4, .int (nI 0))]) hX dX2_goOn_17 (by decide) rfl ?_
      exact lp_go0 (a_ := a_) hX hR hok hL7 hw hm hI (fun T c b {μ Q} z1 z2 z3 z4 => ihj (m_ + 1) T c b (by omega) z1 z2 z3 z4) hQ 8 0 μ a_ (by omega) (by omega) ⟨fun _ _ => rfl, rfl, fun _ _ => rfl, fun k hk => (hI.2.2.2.2 k hk).1, rfl⟩ hr rfl trivial
    · exact absurd c5 (by omega)
def goI1 (P : PC) (L : Nat) (S κ : Nat → Nat) (I : Nat → PC) (μ : VS) (m : Nat) (T c : Nat → Nat) : Prop := RC μ P L S κ I ∧ isW μ (34 + 2 * m) (uAt P T m) ∧ μ.1 60 3 = nI L ∧ (∀ i, i < m → μ.1 61 i = nI (T i) ∧ T i < 1000) ∧ ∀ k, k < 7 → μ.1 63 k = nI (c k) ∧ c k ≤ 7
def goP1 (μ μ' : VS) (m : Nat) (c : Nat → Nat) : Prop := (∀ a, a < 36 + 2 * m ∨ 64 ≤ a → μ'.1 a = μ.1 a) ∧ μ'.1 60 3 = μ.1 60 3 ∧ (∀ i, i < m → μ'.1 61 i = μ.1 61 i) ∧ (∀ k, k < 7 → μ'.1 63 k = nI (c k)) ∧ μ'.2 = μ.2
set_option maxRecDepth 100000 in
set_option maxHeartbeats 4000000 in
theorem lp_go1 {G : VG} {d : Nat} {μ : VS} {Q : Option Value → VS → Prop} {X : VX} {P : PC} {L : Nat} {S κ : Nat → Nat} {I : Nat → PC}  {m_ j_ : Nat} {T_ c_ : Nat → Nat} {a_ : FA} (hX : Cx G (d + (j_ + 1) + 4) yX2_goOn cX2_goOn 6 none X) (hR : ∀ r μ', Q r μ' → Ret G X r μ') (hok : okP P) (hL7 : L ≤ 7) (hmj : m_ + (j_ + 1) = L) (hI : goI1 P L S κ I μ m_ T_ c_)
    (hrec : ∀ (T c : Nat → Nat) (b : FA) {μ : VS} {Q : Option Value → VS → Prop}, b.1 + 7 ^ j_ ≤ 1000000 → goI1 P L S κ I μ (m_ + 1) T c → fRel L μ b → (∀ μ', goP1 μ μ' (m_ + 1) c → fRel L μ' (dfs (fMay P) fitA j_ (m_ + 1) T c b) → Q none μ') → Call G (d + j_ + 4) yX2_goOn cX2_goOn 6 none [.ref 60, .ref 1, .ref 33, .int (nI (m_ + 1))] μ Q)
    (hQ : ∀ μ', goP1 μ μ' m_ c_ → fRel L μ' (kfold (dStep (fMay P) fitA j_ m_ T_ c_) 7 a_) → Q none μ') : ∀ (r k_ : Nat) (μ1 : VS) (b_ : FA), k_ ≤ 7 → 8 ≤ k_ + r → goP1 μ μ1 m_ c_ → fRel L μ1 b_ → b_ = kfold (dStep (fMay P) fitA j_ m_ T_ c_) k_ a_ → b_.1 + (7 - k_) * 7 ^ j_ ≤ 1000000 → V G 6 X 19 [(0, .ref 60), (1, .ref 1), (2, .ref 33), (3, .int (nI m_)), (4, .int (nI k_))] [] μ1 := by
  have hu := mwR_ok hok (sg := T_) (cold := noC) (mw0_ok hok) m_
  intro r
  induction r with
  | zero =>
    intro k_ μ1 b_ h1 h2
    exact absurd h2 (by omega)
  | succ r ih =>
    intro k_ μ1 b_ h1 h2 hP1 hr1 hb hB
    refine V_iload hX dX2_goOn_19 4 rfl ?_
    refine V_bipush (v := nI 7) hX dX2_goOn_21 (by decide) ?_
    refine V_icmp_geN (tgt := 124) hX dX2_goOn_23 (by decide) (by first | omega | (have := (hI.2.2.2.2 k_ (by omega)).2; omega)) (by first | omega | (have := (hI.2.2.2.2 k_ (by omega)).2; omega)) (fun c23 => ?_) (fun c23 => ?_)
    · refine V_vret hX rfl dX2_goOn_124 ?_
      obtain rfl : k_ = 7 := by omega
      exact hR _ _ (hQ μ1 hP1 (by subst hb; exact hr1))
    · have hX7 : (7 - k_) * 7 ^ j_ = (7 - (k_ + 1)) * 7 ^ j_ + 7 ^ j_ := by rw [show 7 - k_ = (7 - (k_ + 1)) + 1 by omega, Nat.add_mul, Nat.one_mul]
      have hp7 : 1 ≤ 7 ^ j_ := Nat.one_le_pow _ _ (by decide)
      refine V_aload_n hX dX2_goOn_26 0 rfl ?_
      refine V_getr (j := 63) hX fX2_18_1 rfl rfl dX2_goOn_27 ?_
      refine V_iload hX dX2_goOn_30 4 rfl ?_
      refine V_ialdN (x := nI (c_ k_)) hX rfl (by first | omega | (have := (hI.2.2.2.2 k_ (by omega)).2; omega)) (by decide) (hP1.2.2.2.1 k_ (by omega)) dX2_goOn_32 ?_
      refine V_if_leN (tgt := 118) hX dX2_goOn_33 (by decide) (by first | omega | (have := (hI.2.2.2.2 k_ (by omega)).2; omega)) (fun c33 => ?_) (fun c33 => ?_)
      · refine V_iincN (n := 1) (ls' := [(0, .ref 60), (1, .ref 1), (2, .ref 33), (3, .int (nI m_)), (4, .int (nI (k_ + 1)))]) hX dX2_goOn_118 4 rfl (by decide) rfl ?_
        refine V_goto (tgt := 19) hX dX2_goOn_121 (by decide) ?_
        exact ih (k_ + 1) μ1 b_ (by omega) (by omega) hP1 hr1 (by subst hb; exact (dStep_no (fun z => by omega)).symm) (by omega)
      · refine V_aload_n hX dX2_goOn_36 0 rfl ?_
        refine V_getr (j := 61) hX fX2_9_1 rfl rfl dX2_goOn_37 ?_
        refine V_iload_n hX dX2_goOn_40 3 rfl ?_
        refine V_gets0N hX sX2_55 dX2_goOn_41 ?_
        refine V_iload hX dX2_goOn_44 4 rfl ?_
        refine V_cald0N (x := nI (kc k_)) hX (by first | omega | (have := (hI.2.2.2.2 k_ (by omega)).2; omega)) (kc_bc (by omega)) dX2_goOn_46 ?_
        refine V_iastN hX rfl (by first | omega | (have := (hI.2.2.2.2 k_ (by omega)).2; omega)) (by decide) dX2_goOn_47 ?_
        show V G 6 X 48 [(0, .ref 60), (1, .ref 1), (2, .ref 33), (3, .int (nI m_)), (4, .int (nI k_))] [] (vup μ1.1 61 m_ (nI (kc k_)), μ1.2)
        generalize hE2 : ((vup μ1.1 61 m_ (nI (kc k_)), μ1.2) : VS) = μ2
        have e2 : ∀ a, a ≠ 61 → μ2.1 a = μ1.1 a := fun a ha => by rw [← hE2]; dsimp only; exact vup_row _ _ _ ha
        have x2 : μ2.1 61 m_ = nI (kc k_) := by rw [← hE2]; dsimp only; exact vup_same _ _ _ _
        have y2 : ∀ i, i < m_ → μ2.1 61 i = μ1.1 61 i := fun i hi => by rw [← hE2]; dsimp only; exact vup_ne (by omega)
        have z2 : μ2.2 = μ1.2 := by rw [← hE2]
        have hW2 : isW μ2 (34 + 2 * m_) (uAt P T_ m_) := (hI.2.1.fr (μ' := μ1) (hP1.1 _ (by omega)) (hP1.1 _ (by omega))).fr (e2 _ (by omega)) (e2 _ (by omega))
        have hR2 : RC μ2 P L S κ I := hI.1.frame (fun a ha => by rw [e2 a (by omega), hP1.1 a (by omega)])
        refine V_aload_n hX dX2_goOn_48 2 rfl ?_
        refine V_iload_n hX dX2_goOn_49 3 rfl ?_
        refine V_iconst (v := nI 1) hX dX2_goOn_50 (by decide) ?_
        refine V_iaddN hX dX2_goOn_51 ?_
        refine V_waldN (r := 34 + 2 * (m_ + 1)) hX rfl (by first | omega | (have := (hI.2.2.2.2 k_ (by omega)).2; omega)) (by decide) rfl dX2_goOn_52 ?_
        refine V_astore (ls' := [(0, .ref 60), (1, .ref 1), (2, .ref 33), (3, .int (nI m_)), (4, .int (nI k_)), (5, .ref (34 + 2 * (m_ + 1)))]) hX dX2_goOn_53 (by decide) rfl ?_
        refine V_aload hX dX2_goOn_55 5 rfl ?_
        refine V_aload_n hX dX2_goOn_57 2 rfl ?_
        refine V_iload_n hX dX2_goOn_58 3 rfl ?_
        refine V_waldN (r := 34 + 2 * m_) hX rfl (by first | omega | (have := (hI.2.2.2.2 k_ (by omega)).2; omega)) (by decide) rfl dX2_goOn_59 ?_
        refine V_callV (As := [.ref (34 + 2 * m_)]) (st := []) hX mX2_59 (wk_step (by omega)) (k_become (w_ := 34 + 2 * (m_ + 1)) (v_ := 34 + 2 * m_) (wk_step (by omega)) (wk_step (by omega)) (by omega) hW2 (fun μ3 a3 b3 d3 => ?_)) rfl (Nat.le_of_ble_eq_true rfl) (Nat.le_of_ble_eq_true rfl) dX2_goOn_60
        show V G 6 X 63 [(0, .ref 60), (1, .ref 1), (2, .ref 33), (3, .int (nI m_)), (4, .int (nI k_)), (5, .ref (34 + 2 * (m_ + 1)))] [] μ3
        have hR3 : RC μ3 P L S κ I := hR2.frame (fun a ha => a3 a (by omega) (by omega))
        refine V_aload hX dX2_goOn_63 5 rfl ?_
        refine V_aload_n hX dX2_goOn_65 1 rfl ?_
        refine V_aload_n hX dX2_goOn_66 0 rfl ?_
        refine V_getr (j := 61) hX fX2_9_1 rfl rfl dX2_goOn_67 ?_
        refine V_iload_n hX dX2_goOn_70 3 rfl ?_
        refine V_ialdN (x := nI (kc k_)) hX rfl (by first | omega | (have := (hI.2.2.2.2 k_ (by omega)).2; omega)) (by decide) (by rw [a3 61 (by omega) (by omega)]; exact x2) dX2_goOn_71 ?_
        refine V_iconst (v := nI 0) hX dX2_goOn_72 (by decide) ?_
        show V G 6 X 73 [(0, .ref 60), (1, .ref 1), (2, .ref 33), (3, .int (nI m_)), (4, .int (nI k_)), (5, .ref (34 + 2 * (m_ + 1)))] [.int (bI (false = true)), .int (nI (kc k_)), .ref 1, .ref (34 + 2 * (m_ + 1))] μ3
        refine V_callV (As := [.ref 1, .int (nI (kc k_)), .int (bI (false = true))]) (st := []) hX mX2_62 (wk_step (by omega)) (k_pass (w_ := 34 + 2 * (m_ + 1)) (cold_ := false) (P := P) (wk_step (by omega)) rfl hR3.1 hok (kc_sm _) b3 hu (by omega) (fun μ4 a4 b4 c4 d4 => ?_)) rfl (Nat.le_of_ble_eq_true rfl) (Nat.le_of_ble_eq_true rfl) dX2_goOn_73
        show V G 6 X 76 [(0, .ref 60), (1, .ref 1), (2, .ref 33), (3, .int (nI m_)), (4, .int (nI k_)), (5, .ref (34 + 2 * (m_ + 1)))] [] μ4
        have hR4 : RC μ4 P L S κ I := hR3.frame (fun a ha => a4 a (by omega) (by omega))
        have hW4 : isW μ4 (34 + 2 * (m_ + 1)) (uAt P (apS T_ m_ (kc k_)) (m_ + 1)) := by rw [uAt_ap]; exact b4
        have e4 : ∀ a, 60 ≤ a ∧ a ≠ 61 → μ4.1 a = μ1.1 a := fun a ha => by rw [a4 a (by omega) (by omega), a3 a (by omega) (by omega), e2 a (by omega)]
        have hr4 : fRel L μ4 b_ := hr1.fr (e4 60 (by omega)) (e4 62 (by omega))
        have x4 : ∀ i, i < m_ + 1 → μ4.1 61 i = nI ((apS T_ m_ (kc k_)) i) ∧ (apS T_ m_ (kc k_)) i < 1000 := fun i hi => by
          rw [a4 61 (by omega) (by omega), a3 61 (by omega) (by omega)]
          by_cases e : i = m_
          · rw [e, apS_at]; exact ⟨x2, kc_sm _⟩
          · rw [apS_ne e, y2 i (by omega), hP1.2.2.1 i (by omega)]; exact hI.2.2.2.1 i (by omega)
        have hP4 : goP1 μ μ4 m_ c_ := ⟨fun a ha => by rw [a4 a (by omega) (by omega), a3 a (by omega) (by omega), e2 a (by omega), hP1.1 a ha], by rw [e4 60 (by omega)]; exact hP1.2.1, fun i hi => by rw [a4 61 (by omega) (by omega), a3 61 (by omega) (by omega), y2 i hi, hP1.2.2.1 i hi], fun k hk => by rw [e4 63 (by omega)]; exact hP1.2.2.2.1 k hk, by rw [d4, d3, z2]; exact hP1.2.2.2.2⟩
        have hK4 : isK μ4 (34 + 2 * (m_ + 1)) P ((apS T_ m_ (kc k_)) m_) (lAt P (apS T_ m_ (kc k_)) m_) := by show isK μ4 (34 + 2 * (m_ + 1)) P ((apS T_ m_ (kc k_)) m_) (mwL1 P ((apS T_ m_ (kc k_)) m_) false (uAt P (apS T_ m_ (kc k_)) m_)); rw [apS_at, uAt_congr (n := m_) (T := apS T_ m_ (kc k_)) (S := T_) (fun i hi => apS_ne (by omega))]; exact c4
        refine V_aload_n hX dX2_goOn_76 0 rfl ?_
        refine V_aload_n hX dX2_goOn_77 1 rfl ?_
        refine V_aload hX dX2_goOn_78 5 rfl ?_
        refine V_iload_n hX dX2_goOn_80 3 rfl ?_
        refine V_callU (As := [.ref 1, .ref (34 + 2 * (m_ + 1)), .int (nI m_)]) (st := []) hX mX2_66_1 rfl (k_may1 (P := P) (T_ := (apS T_ m_ (kc k_))) (a_ := b_) hok hR4.1 (by omega) (wk_step (by omega)) hK4 ?_) rfl (Nat.le_of_ble_eq_true rfl) (Nat.le_of_ble_eq_true rfl) dX2_goOn_81
        show V G 6 X 84 [(0, .ref 60), (1, .ref 1), (2, .ref 33), (3, .int (nI m_)), (4, .int (nI k_)), (5, .ref (34 + 2 * (m_ + 1)))] [.int (bI (fMay P b_ (apS T_ m_ (kc k_)) m_ = true))] μ4
        refine V_if_eqB (tgt := 118) hX dX2_goOn_84 (by decide) (fun c84 => ?_) (fun c84 => ?_)
        · refine V_iincN (n := 1) (ls' := [(0, .ref 60), (1, .ref 1), (2, .ref 33), (3, .int (nI m_)), (4, .int (nI (k_ + 1))), (5, .ref (34 + 2 * (m_ + 1)))]) hX dX2_goOn_118 4 rfl (by decide) rfl ?_
          refine V_goto (tgt := 19) hX dX2_goOn_121 (by decide) ?_
          exact V_sub [0, 1, 2, 3, 4] rfl (ih (k_ + 1) μ4 b_ (by omega) (by omega) hP4 hr4 (by subst hb; exact (dStep_no (fun z => c84 z.2)).symm) (by omega))
        · refine V_aload_n hX dX2_goOn_87 0 rfl ?_
          refine V_getr (j := 63) hX fX2_18_1 rfl rfl dX2_goOn_88 ?_
          refine V_iload hX dX2_goOn_91 4 rfl ?_
          refine V_dup2 hX dX2_goOn_93 rfl rfl ?_
          refine V_ialdN (x := nI (c_ k_)) hX rfl (by first | omega | (have := (hI.2.2.2.2 k_ (by omega)).2; omega)) (by decide) (by rw [e4 63 (by omega)]; exact hP1.2.2.2.1 k_ (by omega)) dX2_goOn_94 ?_
          refine V_iconst (v := nI 1) hX dX2_goOn_95 (by decide) ?_
          refine V_isubN hX dX2_goOn_96 (by omega) ?_
          refine V_iastN hX rfl (by first | omega | (have := (hI.2.2.2.2 k_ (by omega)).2; omega)) (by decide) dX2_goOn_97 ?_
          show V G 6 X 98 [(0, .ref 60), (1, .ref 1), (2, .ref 33), (3, .int (nI m_)), (4, .int (nI k_)), (5, .ref (34 + 2 * (m_ + 1)))] [] (vup μ4.1 63 k_ (nI ((c_ k_) - 1)), μ4.2)
          generalize hE5 : ((vup μ4.1 63 k_ (nI ((c_ k_) - 1)), μ4.2) : VS) = μ5
          have e5 : ∀ a, a ≠ 63 → μ5.1 a = μ4.1 a := fun a ha => by rw [← hE5]; dsimp only; exact vup_row _ _ _ ha
          have x5 : ∀ k, k < 7 → μ5.1 63 k = nI ((apS c_ k_ (c_ k_ - 1)) k) ∧ (apS c_ k_ (c_ k_ - 1)) k ≤ 7 := fun k hk => by
            have hck := (hI.2.2.2.2 k hk).2
            by_cases e : k = k_
            · subst e; rw [apS_at, ← hE5]; dsimp only; exact ⟨vup_same _ _ _ _, by omega⟩
            · rw [apS_ne e, ← hE5]; dsimp only; exact ⟨(vup_ne e).trans (by rw [e4 63 (by omega)]; exact hP1.2.2.2.1 k hk), hck⟩
          have z5 : μ5.2 = μ4.2 := by rw [← hE5]
          have hI5 : goI1 P L S κ I μ5 (m_ + 1) (apS T_ m_ (kc k_)) (apS c_ k_ (c_ k_ - 1)) := ⟨hR4.frame (fun a ha => e5 a (by omega)), hW4.fr (e5 _ (by omega)) (e5 _ (by omega)), by rw [e5 60 (by omega), e4 60 (by omega), hP1.2.1]; exact hI.2.2.1, fun i hi => by rw [e5 61 (by omega)]; exact x4 i hi, x5⟩
          have hr5 : fRel L μ5 b_ := hr4.fr (e5 60 (by omega)) (e5 62 (by omega))
          refine V_aload_n hX dX2_goOn_98 0 rfl ?_
          refine V_aload_n hX dX2_goOn_99 1 rfl ?_
          refine V_aload_n hX dX2_goOn_100 2 rfl ?_
          refine V_iload_n hX dX2_goOn_101 3 rfl ?_
          refine V_iconst (v := nI 1) hX dX2_goOn_102 (by decide) ?_
          refine V_iaddN hX dX2_goOn_103 ?_
          refine V_callU (As := [.ref 1, .ref 33, .int (nI (m_ + 1))]) (st := []) hX mX2_47_1 rfl (hrec (apS T_ m_ (kc k_)) (apS c_ k_ (c_ k_ - 1)) b_ (by omega) hI5 hr5 (fun μ6 p6 r6 => ?_)) rfl (Nat.le_of_ble_eq_true rfl) (Nat.le_of_ble_eq_true rfl) dX2_goOn_104
          show V G 6 X 107 [(0, .ref 60), (1, .ref 1), (2, .ref 33), (3, .int (nI m_)), (4, .int (nI k_)), (5, .ref (34 + 2 * (m_ + 1)))] [] μ6
          refine V_aload_n hX dX2_goOn_107 0 rfl ?_
          refine V_getr (j := 63) hX fX2_18_1 rfl rfl dX2_goOn_108 ?_
          refine V_iload hX dX2_goOn_111 4 rfl ?_
          refine V_dup2 hX dX2_goOn_113 rfl rfl ?_
          refine V_ialdN (x := nI (c_ k_ - 1)) hX rfl (by first | omega | (have := (hI.2.2.2.2 k_ (by omega)).2; omega)) (by decide) (by rw [p6.2.2.2.1 k_ (by omega), apS_at]) dX2_goOn_114 ?_
          refine V_iconst (v := nI 1) hX dX2_goOn_115 (by decide) ?_
          refine V_iaddN hX dX2_goOn_116 ?_
          refine V_iastN hX rfl (by first | omega | (have := (hI.2.2.2.2 k_ (by omega)).2; omega)) (by decide) dX2_goOn_117 ?_
          show V G 6 X 118 [(0, .ref 60), (1, .ref 1), (2, .ref 33), (3, .int (nI m_)), (4, .int (nI k_)), (5, .ref (34 + 2 * (m_ + 1)))] [] (vup μ6.1 63 k_ (nI ((c_ k_ - 1) + 1)), μ6.2)
          generalize hE7 : ((vup μ6.1 63 k_ (nI ((c_ k_ - 1) + 1)), μ6.2) : VS) = μ7
          have e7 : ∀ a, a ≠ 63 → μ7.1 a = μ6.1 a := fun a ha => by rw [← hE7]; dsimp only; exact vup_row _ _ _ ha
          have hP7 : goP1 μ μ7 m_ c_ := by
            refine ⟨fun a ha => ?_, ?_, fun i hi => ?_, fun k hk => ?_, ?_⟩
            · rw [e7 a (by omega), p6.1 a (by omega), e5 a (by omega), hP4.1 a ha]
            · rw [e7 60 (by omega), p6.2.1, e5 60 (by omega), hP4.2.1]
            · rw [e7 61 (by omega), p6.2.2.1 i (by omega), e5 61 (by omega), hP4.2.2.1 i hi]
            · by_cases e : k = k_
              · subst e; rw [← hE7]; dsimp only; exact (vup_same _ _ _ _).trans (congrArg nI (by omega))
              · rw [← hE7]; dsimp only; exact (vup_ne e).trans (by rw [p6.2.2.2.1 k hk, apS_ne e])
            · rw [← hE7]; show μ6.2 = μ.2; rw [p6.2.2.2.2, z5]; exact hP4.2.2.2.2
          refine V_iincN (n := 1) (ls' := [(0, .ref 60), (1, .ref 1), (2, .ref 33), (3, .int (nI m_)), (4, .int (nI (k_ + 1))), (5, .ref (34 + 2 * (m_ + 1)))]) hX dX2_goOn_118 4 rfl (by decide) rfl ?_
          refine V_goto (tgt := 19) hX dX2_goOn_121 (by decide) ?_
          have hbd := dfs_bd (bd := fun a : FA => a.1) (may := fMay P) fitA_bd j_ (m_ + 1) (apS T_ m_ (kc k_)) (apS c_ k_ (c_ k_ - 1)) b_
          exact V_sub [0, 1, 2, 3, 4] rfl (ih (k_ + 1) μ7 _ (by omega) (by omega) hP7 (r6.fr (e7 60 (by omega)) (e7 62 (by omega))) (by subst hb; exact (dStep_yes c33 c84).symm) (by omega))
set_option maxRecDepth 100000 in
set_option maxHeartbeats 4000000 in
theorem k_go1 {G : VG} {d : Nat} {P : PC} {L : Nat} {S κ : Nat → Nat} {I : Nat → PC}  (hok : okP P) (hL7 : L ≤ 7) : ∀ (j m_ : Nat) (T_ c_ : Nat → Nat) (a_ : FA) {μ : VS} {Q : Option Value → VS → Prop}, m_ + j = L → a_.1 + 7 ^ j ≤ 1000000 → goI1 P L S κ I μ m_ T_ c_ → fRel L μ a_ → (∀ μ', goP1 μ μ' m_ c_ → fRel L μ' (dfs (fMay P) fitA j m_ T_ c_ a_) → Q none μ') → Call G (d + j + 4) yX2_goOn cX2_goOn 6 none [.ref 60, .ref 1, .ref 33, .int (nI m_)] μ Q := by
  intro j
  induction j with
  | zero =>
    intro m_ T_ c_ a_ μ Q hm hB hI hr hQ
    obtain rfl : m_ = L := by omega
    intro X hX hR
    show V G 6 X 0 [(0, .ref 60), (1, .ref 1), (2, .ref 33), (3, .int (nI m_))] [] μ
    refine V_iload_n hX dX2_goOn_0 3 rfl ?_
    refine V_aload_n hX dX2_goOn_1 0 rfl ?_
    refine V_getN (x := nI m_) hX fX2_21_1 rfl hI.2.2.1 dX2_goOn_2 ?_
    refine V_icmp_ltN (tgt := 16) hX dX2_goOn_5 (by decide) (by omega) (by omega) (fun c5 => ?_) (fun c5 => ?_)
    · exact absurd c5 (by omega)
    · refine V_aload_n hX dX2_goOn_8 0 rfl ?_
      refine V_aload_n hX dX2_goOn_9 2 rfl ?_
      refine V_iload_n hX dX2_goOn_10 3 rfl ?_
      refine V_waldN (r := 34 + 2 * m_) hX rfl (by omega) (by decide) rfl dX2_goOn_11 ?_
      refine V_callU (As := [.ref (34 + 2 * m_)]) (st := []) hX mX2_51_1 rfl (k_arr1 (T_ := T_) (a_ := a_) hL7 (by have : 7 ^ 0 = 1 := rfl; omega) hI.2.2.1 hr (fun i hi => (hI.2.2.2.1 i hi).1) (fun i hi => (hI.2.2.2.1 i hi).2) (fun μ1 a1 l1 r1 d1 => ?_)) rfl (Nat.le_of_ble_eq_true rfl) (Nat.le_of_ble_eq_true rfl) dX2_goOn_12
      show V G 6 X 15 [(0, .ref 60), (1, .ref 1), (2, .ref 33), (3, .int (nI m_))] [] μ1
      refine V_vret hX rfl dX2_goOn_15 ?_
      exact hR _ _ (hQ μ1 ⟨fun a ha => a1 a (by omega) (by omega), l1, fun i hi => by rw [a1 61 (by omega) (by omega)], fun k hk => by rw [a1 63 (by omega) (by omega)]; exact (hI.2.2.2.2 k hk).1, d1⟩ r1)
  | succ j ihj =>
    intro m_ T_ c_ a_ μ Q hm hB hI hr hQ
    intro X hX hR
    show V G 6 X 0 [(0, .ref 60), (1, .ref 1), (2, .ref 33), (3, .int (nI m_))] [] μ
    refine V_iload_n hX dX2_goOn_0 3 rfl ?_
    refine V_aload_n hX dX2_goOn_1 0 rfl ?_
    refine V_getN (x := nI L) hX fX2_21_1 rfl hI.2.2.1 dX2_goOn_2 ?_
    refine V_icmp_ltN (tgt := 16) hX dX2_goOn_5 (by decide) (by omega) (by omega) (fun c5 => ?_) (fun c5 => ?_)
    · refine V_iconst (v := nI 0) hX dX2_goOn_16 (by decide) ?_
      refine V_istore (ls' := [(0, .ref 60), (1, .ref 1), (2, .ref 33), (3, .int (nI m_)), (4, .int (nI 0))]) hX dX2_goOn_17 (by decide) rfl ?_
      exact lp_go1 (a_ := a_) hX hR hok hL7 hm hI (fun T c b {μ Q} z1 z2 z3 z4 => ihj (m_ + 1) T c b (by omega) z1 z2 z3 z4) hQ 8 0 μ a_ (by omega) (by omega) ⟨fun _ _ => rfl, rfl, fun _ _ => rfl, fun k hk => (hI.2.2.2.2 k hk).1, rfl⟩ hr rfl (by rw [Nat.pow_succ] at hB; omega)
    · exact absurd c5 (by omega)
set_option maxRecDepth 100000 in
set_option maxHeartbeats 4000000 in
theorem lp_wip0 {G : VG} {d : Nat} {μ : VS} {X : VX} (hX : Cx G d yX2_goThrough cX2_goThrough 6 none X) (hF : ∀ μ1, (∀ a, a ≠ 59 → μ1.1 a = μ.1 a) → (∀ q, q < 7 → μ1.1 59 q = nI 0) → μ1.2 = μ.2 → V G 6 X 24 [(0, .ref 56), (1, .ref 1), (2, .ref 31), (3, .ref 33), (4, .int (nI 7))] [] μ1) : ∀ (j k_ : Nat) (μ1 : VS), k_ ≤ 7 → 8 ≤ k_ + j → (∀ a, a ≠ 59 → μ1.1 a = μ.1 a) → (∀ q, q < k_ → μ1.1 59 q = nI 0) → μ1.2 = μ.2 → V G 6 X 3 [(0, .ref 56), (1, .ref 1), (2, .ref 31), (3, .ref 33), (4, .int (nI k_))] [] μ1 := by
  intro j
  induction j with
  | zero =>
    intro k_ μ1 h1 h2
    exact absurd h2 (by omega)
  | succ j ih =>
    intro k_ μ1 h1 h2 he hz hJ
    refine V_iload hX dX2_goThrough_3 4 rfl ?_
    refine V_bipush (v := nI 7) hX dX2_goThrough_5 (by decide) ?_
    refine V_icmp_geN (tgt := 24) hX dX2_goThrough_7 (by decide) (by omega) (by omega) (fun c7 => ?_) (fun c7 => ?_)
    · obtain rfl : k_ = 7 := by omega
      exact hF μ1 he hz hJ
    · refine V_aload_n hX dX2_goThrough_10 0 rfl ?_
      refine V_getr (j := 59) hX fX2_18_0 rfl rfl dX2_goThrough_11 ?_
      refine V_iload hX dX2_goThrough_14 4 rfl ?_
      refine V_iconst (v := nI 0) hX dX2_goThrough_16 (by decide) ?_
      refine V_iastN hX rfl (by omega) (by decide) dX2_goThrough_17 ?_
      show V G 6 X 18 [(0, .ref 56), (1, .ref 1), (2, .ref 31), (3, .ref 33), (4, .int (nI k_))] [] (vup μ1.1 59 k_ (nI 0), μ1.2)
      refine V_iincN (n := 1) (ls' := [(0, .ref 56), (1, .ref 1), (2, .ref 31), (3, .ref 33), (4, .int (nI (k_ + 1)))]) hX dX2_goThrough_18 4 rfl (by decide) rfl ?_
      refine V_goto (tgt := 3) hX dX2_goThrough_21 (by decide) ?_
      refine ih (k_ + 1) _ (by omega) (by omega) (fun a ha => by dsimp only; rw [vup_row _ _ _ ha]; exact he a ha) (fun q hq => ?_) hJ
      dsimp only
      by_cases e : q = k_
      · rw [e]; exact vup_same _ _ _ _
      · rw [vup_ne e]; exact hz q (by omega)
set_option maxRecDepth 100000 in
set_option maxHeartbeats 4000000 in
theorem lp_cnt0 {G : VG} {d : Nat} {μ : VS} {X : VX} {L : Nat} {S : Nat → Nat} (hX : Cx G (d + 1) yX2_goThrough cX2_goThrough 6 none X) (hL7 : L ≤ 7) (hl : μ.1 56 3 = nI L) (hS : ∀ i, i < L → μ.1 32 i = nI (S i)) (hg : sgs S L) (hF : ∀ μ1, (∀ a, a ≠ 59 → μ1.1 a = μ.1 a) → (∀ q, q < 7 → μ1.1 59 q = nI (cv S (kc q) 0 L)) → μ1.2 = μ.2 → V G 6 X 85 [(0, .ref 56), (1, .ref 1), (2, .ref 31), (3, .ref 33), (4, .int (nI L))] [] μ1) : ∀ (j k_ : Nat) (μ1 : VS), k_ ≤ L → L + 1 ≤ k_ + j → (∀ a, a ≠ 59 → μ1.1 a = μ.1 a) → (∀ q, q < 7 → μ1.1 59 q = nI (cv S (kc q) 0 k_)) → μ1.2 = μ.2 → V G 6 X 40 [(0, .ref 56), (1, .ref 1), (2, .ref 31), (3, .ref 33), (4, .int (nI k_))] [] μ1 := by
  intro j
  induction j with
  | zero =>
    intro k_ μ1 h1 h2
    exact absurd h2 (by omega)
  | succ j ih =>
    intro k_ μ1 h1 h2 he hz hJ
    refine V_iload hX dX2_goThrough_40 4 rfl ?_
    refine V_aload_n hX dX2_goThrough_42 0 rfl ?_
    refine V_getN (x := nI L) hX fX2_21_0 rfl ((congrFun (he 56 (by decide)) 3).trans hl) dX2_goThrough_43 ?_
    refine V_icmp_geN (tgt := 85) hX dX2_goThrough_46 (by decide) (by omega) (by omega) (fun c46 => ?_) (fun c46 => ?_)
    · obtain rfl : k_ = L := by omega
      exact hF μ1 he hz hJ
    · obtain ⟨q_, hq7, hqk, hqI⟩ := kc_sg (hg k_ (by omega))
      refine V_aload_n hX dX2_goThrough_49 2 rfl ?_
      refine V_getr (j := 32) hX fX2_34 rfl rfl dX2_goThrough_50 ?_
      refine V_iload hX dX2_goThrough_53 4 rfl ?_
      refine V_ialdN (x := nI (S k_)) hX rfl (by omega) (by decide) (by rw [he 32 (by decide)]; exact hS k_ (by omega)) dX2_goThrough_55 ?_
      refine V_callS (As := [.int (nI (S k_))]) (st := []) hX mX2_37 (k_kindOf (sg_lt (hg k_ (by omega))) ?_) rfl (Nat.le_of_ble_eq_true rfl) (Nat.le_of_ble_eq_true rfl) dX2_goThrough_56
      show V G 6 X 59 [(0, .ref 56), (1, .ref 1), (2, .ref 31), (3, .ref 33), (4, .int (nI k_))] [.int (kindI (S k_))] μ1
      rw [hqI]
      show V G 6 X 59 [(0, .ref 56), (1, .ref 1), (2, .ref 31), (3, .ref 33), (4, .int (nI k_))] [.int (nI q_)] μ1
      refine V_istore (ls' := [(0, .ref 56), (1, .ref 1), (2, .ref 31), (3, .ref 33), (4, .int (nI k_)), (5, .int (nI q_))]) hX dX2_goThrough_59 (by decide) rfl ?_
      refine V_iload hX dX2_goThrough_61 5 rfl ?_
      refine V_bipush (v := (-6)) hX dX2_goThrough_63 (by decide) ?_
      refine V_icmp_eq (tgt := 79) hX dX2_goThrough_65 (by decide) (fun c65 => ?_) (fun c65 => ?_)
      · exact absurd c65 (nI_n6 (by omega))
      · refine V_aload_n hX dX2_goThrough_68 0 rfl ?_
        refine V_getr (j := 59) hX fX2_18_0 rfl rfl dX2_goThrough_69 ?_
        refine V_iload hX dX2_goThrough_72 5 rfl ?_
        refine V_dup2 hX dX2_goThrough_74 rfl rfl ?_
        refine V_ialdN (x := nI (cv S (kc q_) 0 k_)) hX rfl (by omega) (by decide) (hz q_ hq7) dX2_goThrough_75 ?_
        refine V_iconst (v := nI 1) hX dX2_goThrough_76 (by decide) ?_
        refine V_iaddN hX dX2_goThrough_77 ?_
        refine V_iastN hX rfl (by omega) (by decide) dX2_goThrough_78 ?_
        show V G 6 X 79 [(0, .ref 56), (1, .ref 1), (2, .ref 31), (3, .ref 33), (4, .int (nI k_)), (5, .int (nI q_))] [] (vup μ1.1 59 q_ (nI ((cv S (kc q_) 0 k_) + 1)), μ1.2)
        refine V_iincN (n := 1) (ls' := [(0, .ref 56), (1, .ref 1), (2, .ref 31), (3, .ref 33), (4, .int (nI (k_ + 1))), (5, .int (nI q_))]) hX dX2_goThrough_79 4 rfl (by decide) rfl ?_
        refine V_goto (tgt := 40) hX dX2_goThrough_82 (by decide) ?_
        refine V_sub [0, 1, 2, 3, 4] rfl (ih (k_ + 1) _ (by omega) (by omega) (fun a ha => by dsimp only; rw [vup_row _ _ _ ha]; exact he a ha) (fun q hq => ?_) hJ)
        dsimp only
        rw [cv_last]
        by_cases e : q = q_
        · rw [e, if_pos hqk]; exact vup_same _ _ _ _
        · rw [if_neg (fun z => e (kc_eq hq hq7 (z.symm.trans hqk))), vup_ne e]; exact hz q hq
set_option maxRecDepth 100000 in
set_option maxHeartbeats 4000000 in
theorem k_thru0 {G : VG} {d : Nat} {μ : VS} {Q : Option Value → VS → Prop} {P : PC} {L : Nat} {S κ : Nat → Nat} {I : Nat → PC} {w_ : Nat} {a_ : CA} (hRC : RC μ P L S κ I) (hok : okP P) (hL7 : L ≤ 7) (hw : w_ ≤ 1) (hg : sgs S L) (hB : True) (hr : cRel P L w_ μ a_) (hQ : ∀ μ', (∀ a, a < 34 ∨ 64 ≤ a → μ'.1 a = μ.1 a) → μ'.1 56 3 = nI L → cRel P L w_ μ' (dfs (cMay P w_) (cArr P w_ L) L 0 S (fun k => cv S (kc k) 0 L) a_) → Q none μ') : Call G (d + L + 5) yX2_goThrough cX2_goThrough 6 none [.ref 56, .ref 1, .ref 31, .ref 33] μ Q := by
  intro X hX hR
  show V G 6 X 0 [(0, .ref 56), (1, .ref 1), (2, .ref 31), (3, .ref 33)] [] μ
  refine V_iconst (v := nI 0) hX dX2_goThrough_0 (by decide) ?_
  refine V_istore (ls' := [(0, .ref 56), (1, .ref 1), (2, .ref 31), (3, .ref 33), (4, .int (nI 0))]) hX dX2_goThrough_1 (by decide) rfl ?_
  refine lp_wip0 hX (fun μ1 e1 z1 d1 => ?_) 8 0 μ (by omega) (by omega) (fun _ _ => rfl) (fun q hq => absurd hq (by omega)) rfl
  show V G 6 X 24 [(0, .ref 56), (1, .ref 1), (2, .ref 31), (3, .ref 33), (4, .int (nI 7))] [] μ1
  refine V_aload_n hX dX2_goThrough_24 0 rfl ?_
  refine V_aload_n hX dX2_goThrough_25 2 rfl ?_
  refine V_getN (x := nI L) hX fX2_25 rfl (by rw [e1 31 (by decide)]; exact hRC.2.1.1) dX2_goThrough_26 ?_
  refine V_bipush (v := nI 7) hX dX2_goThrough_29 (by decide) ?_
  refine V_mmin hX mX2_28 mmin1 mmath2 mmin3 (Nat.le_of_ble_eq_true rfl) dX2_goThrough_31 ?_
  rw [show (if (nI 7) < (nI L) then (nI 7) else (nI L)) = nI L from if_neg (fun z => absurd ((nI_ltI (by omega) (by omega)).mp z) (by omega))]
  refine V_puti hX fX2_21_0 fw_0_3 rfl dX2_goThrough_34 ?_
  show V G 6 X 37 [(0, .ref 56), (1, .ref 1), (2, .ref 31), (3, .ref 33), (4, .int (nI 7))] [] (vup μ1.1 56 3 (nI L), μ1.2)
  generalize hE2 : ((vup μ1.1 56 3 (nI L), μ1.2) : VS) = μ2
  have e2 : ∀ a, a ≠ 56 → μ2.1 a = μ1.1 a := fun a ha => by rw [← hE2]; dsimp only; exact vup_row _ _ _ ha
  have l2 : μ2.1 56 3 = nI L := by rw [← hE2]; dsimp only; exact vup_same _ _ _ _
  have g2 : ∀ q, q ≠ 3 → μ2.1 56 q = μ1.1 56 q := fun q hq => by rw [← hE2]; dsimp only; exact vup_ne hq
  have d2 : μ2.2 = μ1.2 := by rw [← hE2]
  refine V_iconst (v := nI 0) hX dX2_goThrough_37 (by decide) ?_
  refine V_istore (ls' := [(0, .ref 56), (1, .ref 1), (2, .ref 31), (3, .ref 33), (4, .int (nI 0))]) hX dX2_goThrough_38 (by decide) rfl ?_
  refine V_sub [0, 1, 2, 3, 4] rfl (lp_cnt0 (L := L) (S := S) hX hL7 l2 (fun i hi => by rw [e2 32 (by decide), e1 32 (by decide)]; exact hRC.2.1.2 i hi) hg (fun μ3 e3 z3 d3 => ?_) (L + 1) 0 μ2 (by omega) (by omega) (fun _ _ => rfl) (fun q hq => by rw [e2 59 (by decide)]; exact z1 q hq) rfl)
  show V G 6 X 85 [(0, .ref 56), (1, .ref 1), (2, .ref 31), (3, .ref 33), (4, .int (nI L))] [] μ3
  have hR3 : RC μ3 P L S κ I := hRC.frame (fun a ha => by rw [e3 a (by omega), e2 a (by omega), e1 a (by omega)])
  refine V_aload_n hX dX2_goThrough_85 3 rfl ?_
  refine V_iconst (v := nI 0) hX dX2_goThrough_86 (by decide) ?_
  refine V_waldN (r := 34) hX rfl (by omega) (by decide) rfl dX2_goThrough_87 ?_
  refine V_aload_n hX dX2_goThrough_88 1 rfl ?_
  refine V_callV (As := [.ref 1]) (st := []) hX mX2_41 rfl (k_begin (P := P) rfl rfl hR3.1 (fun μ4 a4 b4 d4 => ?_)) rfl (Nat.le_of_ble_eq_true rfl) (Nat.le_of_ble_eq_true rfl) dX2_goThrough_89
  show V G 6 X 92 [(0, .ref 56), (1, .ref 1), (2, .ref 31), (3, .ref 33), (4, .int (nI L))] [] μ4
  have f4 : ∀ a, a < 34 ∨ 64 ≤ a → μ4.1 a = μ.1 a := fun a ha => by rw [a4 a (by omega) (by omega), e3 a (by omega), e2 a (by omega), e1 a (by omega)]
  have hI4 : goI0 P L S κ I μ4 0 S (fun k => cv S (kc k) 0 L) := ⟨hRC.frame (fun a ha => f4 a (by omega)), b4, by rw [a4 56 (by decide) (by decide), e3 56 (by decide)]; exact l2, fun i hi => absurd hi (by omega), fun k hk => ⟨by rw [a4 59 (by decide) (by decide)]; exact z3 k hk, Nat.le_trans (cv_le _ _ _ _) hL7⟩⟩
  have hr4 : cRel P L w_ μ4 a_ := by
    refine ⟨?_, ?_, hr.2.2.1, fun z => ⟨?_, fun i hi => ?_⟩⟩
    · rw [a4 56 (by decide) (by decide), e3 56 (by decide), g2 5 (by decide), e1 56 (by decide)]; exact hr.1
    · rw [a4 56 (by decide) (by decide), e3 56 (by decide), g2 6 (by decide), e1 56 (by decide)]; exact hr.2.1
    · rw [a4 56 (by decide) (by decide), e3 56 (by decide), g2 4 (by decide), e1 56 (by decide)]; exact (hr.2.2.2 z).1
    · rw [a4 58 (by decide) (by decide), e3 58 (by decide), e2 58 (by decide), e1 58 (by decide)]; exact (hr.2.2.2 z).2 i hi
  refine V_aload_n hX dX2_goThrough_92 0 rfl ?_
  refine V_aload_n hX dX2_goThrough_93 1 rfl ?_
  refine V_aload_n hX dX2_goThrough_94 3 rfl ?_
  refine V_iconst (v := nI 0) hX dX2_goThrough_95 (by decide) ?_
  refine V_callU (As := [.ref 1, .ref 33, .int (nI 0)]) (st := []) hX mX2_47_0 rfl (k_go0 (P := P) (L := L) (S := S) (κ := κ) (I := I) hok hL7 hw L 0 S (fun k => cv S (kc k) 0 L) a_ (by omega) hB hI4 hr4 (fun μ5 p5 r5 => ?_)) rfl (Nat.le_of_ble_eq_true rfl) (Nat.le_of_ble_eq_true rfl) dX2_goThrough_96
  show V G 6 X 99 [(0, .ref 56), (1, .ref 1), (2, .ref 31), (3, .ref 33), (4, .int (nI L))] [] μ5
  refine V_vret hX rfl dX2_goThrough_99 ?_
  exact hR _ _ (hQ μ5 (fun a ha => by rw [p5.1 a (by omega)]; exact f4 a ha) (by rw [p5.2.1]; exact hI4.2.2.1) r5)
set_option maxRecDepth 100000 in
set_option maxHeartbeats 4000000 in
theorem lp_wip1 {G : VG} {d : Nat} {μ : VS} {X : VX} (hX : Cx G d yX2_goThrough cX2_goThrough 6 none X) (hF : ∀ μ1, (∀ a, a ≠ 63 → μ1.1 a = μ.1 a) → (∀ q, q < 7 → μ1.1 63 q = nI 0) → μ1.2 = μ.2 → V G 6 X 24 [(0, .ref 60), (1, .ref 1), (2, .ref 31), (3, .ref 33), (4, .int (nI 7))] [] μ1) : ∀ (j k_ : Nat) (μ1 : VS), k_ ≤ 7 → 8 ≤ k_ + j → (∀ a, a ≠ 63 → μ1.1 a = μ.1 a) → (∀ q, q < k_ → μ1.1 63 q = nI 0) → μ1.2 = μ.2 → V G 6 X 3 [(0, .ref 60), (1, .ref 1), (2, .ref 31), (3, .ref 33), (4, .int (nI k_))] [] μ1 := by
  intro j
  induction j with
  | zero =>
    intro k_ μ1 h1 h2
    exact absurd h2 (by omega)
  | succ j ih =>
    intro k_ μ1 h1 h2 he hz hJ
    refine V_iload hX dX2_goThrough_3 4 rfl ?_
    refine V_bipush (v := nI 7) hX dX2_goThrough_5 (by decide) ?_
    refine V_icmp_geN (tgt := 24) hX dX2_goThrough_7 (by decide) (by omega) (by omega) (fun c7 => ?_) (fun c7 => ?_)
    · obtain rfl : k_ = 7 := by omega
      exact hF μ1 he hz hJ
    · refine V_aload_n hX dX2_goThrough_10 0 rfl ?_
      refine V_getr (j := 63) hX fX2_18_1 rfl rfl dX2_goThrough_11 ?_
      refine V_iload hX dX2_goThrough_14 4 rfl ?_
      refine V_iconst (v := nI 0) hX dX2_goThrough_16 (by decide) ?_
      refine V_iastN hX rfl (by omega) (by decide) dX2_goThrough_17 ?_
      show V G 6 X 18 [(0, .ref 60), (1, .ref 1), (2, .ref 31), (3, .ref 33), (4, .int (nI k_))] [] (vup μ1.1 63 k_ (nI 0), μ1.2)
      refine V_iincN (n := 1) (ls' := [(0, .ref 60), (1, .ref 1), (2, .ref 31), (3, .ref 33), (4, .int (nI (k_ + 1)))]) hX dX2_goThrough_18 4 rfl (by decide) rfl ?_
      refine V_goto (tgt := 3) hX dX2_goThrough_21 (by decide) ?_
      refine ih (k_ + 1) _ (by omega) (by omega) (fun a ha => by dsimp only; rw [vup_row _ _ _ ha]; exact he a ha) (fun q hq => ?_) hJ
      dsimp only
      by_cases e : q = k_
      · rw [e]; exact vup_same _ _ _ _
      · rw [vup_ne e]; exact hz q (by omega)
set_option maxRecDepth 100000 in
set_option maxHeartbeats 4000000 in
theorem lp_cnt1 {G : VG} {d : Nat} {μ : VS} {X : VX} {L : Nat} {S : Nat → Nat} (hX : Cx G (d + 1) yX2_goThrough cX2_goThrough 6 none X) (hL7 : L ≤ 7) (hl : μ.1 60 3 = nI L) (hS : ∀ i, i < L → μ.1 32 i = nI (S i)) (hg : sgs S L) (hF : ∀ μ1, (∀ a, a ≠ 63 → μ1.1 a = μ.1 a) → (∀ q, q < 7 → μ1.1 63 q = nI (cv S (kc q) 0 L)) → μ1.2 = μ.2 → V G 6 X 85 [(0, .ref 60), (1, .ref 1), (2, .ref 31), (3, .ref 33), (4, .int (nI L))] [] μ1) : ∀ (j k_ : Nat) (μ1 : VS), k_ ≤ L → L + 1 ≤ k_ + j → (∀ a, a ≠ 63 → μ1.1 a = μ.1 a) → (∀ q, q < 7 → μ1.1 63 q = nI (cv S (kc q) 0 k_)) → μ1.2 = μ.2 → V G 6 X 40 [(0, .ref 60), (1, .ref 1), (2, .ref 31), (3, .ref 33), (4, .int (nI k_))] [] μ1 := by
  intro j
  induction j with
  | zero =>
    intro k_ μ1 h1 h2
    exact absurd h2 (by omega)
  | succ j ih =>
    intro k_ μ1 h1 h2 he hz hJ
    refine V_iload hX dX2_goThrough_40 4 rfl ?_
    refine V_aload_n hX dX2_goThrough_42 0 rfl ?_
    refine V_getN (x := nI L) hX fX2_21_1 rfl ((congrFun (he 60 (by decide)) 3).trans hl) dX2_goThrough_43 ?_
    refine V_icmp_geN (tgt := 85) hX dX2_goThrough_46 (by decide) (by omega) (by omega) (fun c46 => ?_) (fun c46 => ?_)
    · obtain rfl : k_ = L := by omega
      exact hF μ1 he hz hJ
    · obtain ⟨q_, hq7, hqk, hqI⟩ := kc_sg (hg k_ (by omega))
      refine V_aload_n hX dX2_goThrough_49 2 rfl ?_
      refine V_getr (j := 32) hX fX2_34 rfl rfl dX2_goThrough_50 ?_
      refine V_iload hX dX2_goThrough_53 4 rfl ?_
      refine V_ialdN (x := nI (S k_)) hX rfl (by omega) (by decide) (by rw [he 32 (by decide)]; exact hS k_ (by omega)) dX2_goThrough_55 ?_
      refine V_callS (As := [.int (nI (S k_))]) (st := []) hX mX2_37 (k_kindOf (sg_lt (hg k_ (by omega))) ?_) rfl (Nat.le_of_ble_eq_true rfl) (Nat.le_of_ble_eq_true rfl) dX2_goThrough_56
      show V G 6 X 59 [(0, .ref 60), (1, .ref 1), (2, .ref 31), (3, .ref 33), (4, .int (nI k_))] [.int (kindI (S k_))] μ1
      rw [hqI]
      show V G 6 X 59 [(0, .ref 60), (1, .ref 1), (2, .ref 31), (3, .ref 33), (4, .int (nI k_))] [.int (nI q_)] μ1
      refine V_istore (ls' := [(0, .ref 60), (1, .ref 1), (2, .ref 31), (3, .ref 33), (4, .int (nI k_)), (5, .int (nI q_))]) hX dX2_goThrough_59 (by decide) rfl ?_
      refine V_iload hX dX2_goThrough_61 5 rfl ?_
      refine V_bipush (v := (-6)) hX dX2_goThrough_63 (by decide) ?_
      refine V_icmp_eq (tgt := 79) hX dX2_goThrough_65 (by decide) (fun c65 => ?_) (fun c65 => ?_)
      · exact absurd c65 (nI_n6 (by omega))
      · refine V_aload_n hX dX2_goThrough_68 0 rfl ?_
        refine V_getr (j := 63) hX fX2_18_1 rfl rfl dX2_goThrough_69 ?_
        refine V_iload hX dX2_goThrough_72 5 rfl ?_
        refine V_dup2 hX dX2_goThrough_74 rfl rfl ?_
        refine V_ialdN (x := nI (cv S (kc q_) 0 k_)) hX rfl (by omega) (by decide) (hz q_ hq7) dX2_goThrough_75 ?_
        refine V_iconst (v := nI 1) hX dX2_goThrough_76 (by decide) ?_
        refine V_iaddN hX dX2_goThrough_77 ?_
        refine V_iastN hX rfl (by omega) (by decide) dX2_goThrough_78 ?_
        show V G 6 X 79 [(0, .ref 60), (1, .ref 1), (2, .ref 31), (3, .ref 33), (4, .int (nI k_)), (5, .int (nI q_))] [] (vup μ1.1 63 q_ (nI ((cv S (kc q_) 0 k_) + 1)), μ1.2)
        refine V_iincN (n := 1) (ls' := [(0, .ref 60), (1, .ref 1), (2, .ref 31), (3, .ref 33), (4, .int (nI (k_ + 1))), (5, .int (nI q_))]) hX dX2_goThrough_79 4 rfl (by decide) rfl ?_
        refine V_goto (tgt := 40) hX dX2_goThrough_82 (by decide) ?_
        refine V_sub [0, 1, 2, 3, 4] rfl (ih (k_ + 1) _ (by omega) (by omega) (fun a ha => by dsimp only; rw [vup_row _ _ _ ha]; exact he a ha) (fun q hq => ?_) hJ)
        dsimp only
        rw [cv_last]
        by_cases e : q = q_
        · rw [e, if_pos hqk]; exact vup_same _ _ _ _
        · rw [if_neg (fun z => e (kc_eq hq hq7 (z.symm.trans hqk))), vup_ne e]; exact hz q hq
set_option maxRecDepth 100000 in
set_option maxHeartbeats 4000000 in
theorem k_thru1 {G : VG} {d : Nat} {μ : VS} {Q : Option Value → VS → Prop} {P : PC} {L : Nat} {S κ : Nat → Nat} {I : Nat → PC}  {a_ : FA} (hRC : RC μ P L S κ I) (hok : okP P) (hL7 : L ≤ 7) (hg : sgs S L) (hB : a_.1 + 7 ^ L ≤ 1000000) (hr : fRel L μ a_) (hQ : ∀ μ', (∀ a, a < 34 ∨ 64 ≤ a → μ'.1 a = μ.1 a) → μ'.1 60 3 = nI L → fRel L μ' (dfs (fMay P) fitA L 0 S (fun k => cv S (kc k) 0 L) a_) → Q none μ') : Call G (d + L + 5) yX2_goThrough cX2_goThrough 6 none [.ref 60, .ref 1, .ref 31, .ref 33] μ Q := by
  intro X hX hR
  show V G 6 X 0 [(0, .ref 60), (1, .ref 1), (2, .ref 31), (3, .ref 33)] [] μ
  refine V_iconst (v := nI 0) hX dX2_goThrough_0 (by decide) ?_
  refine V_istore (ls' := [(0, .ref 60), (1, .ref 1), (2, .ref 31), (3, .ref 33), (4, .int (nI 0))]) hX dX2_goThrough_1 (by decide) rfl ?_
  refine lp_wip1 hX (fun μ1 e1 z1 d1 => ?_) 8 0 μ (by omega) (by omega) (fun _ _ => rfl) (fun q hq => absurd hq (by omega)) rfl
  show V G 6 X 24 [(0, .ref 60), (1, .ref 1), (2, .ref 31), (3, .ref 33), (4, .int (nI 7))] [] μ1
  refine V_aload_n hX dX2_goThrough_24 0 rfl ?_
  refine V_aload_n hX dX2_goThrough_25 2 rfl ?_
  refine V_getN (x := nI L) hX fX2_25 rfl (by rw [e1 31 (by decide)]; exact hRC.2.1.1) dX2_goThrough_26 ?_
  refine V_bipush (v := nI 7) hX dX2_goThrough_29 (by decide) ?_
  refine V_mmin hX mX2_28 mmin1 mmath2 mmin3 (Nat.le_of_ble_eq_true rfl) dX2_goThrough_31 ?_
  rw [show (if (nI 7) < (nI L) then (nI 7) else (nI L)) = nI L from if_neg (fun z => absurd ((nI_ltI (by omega) (by omega)).mp z) (by omega))]
  refine V_puti hX fX2_21_1 fw_1_3 rfl dX2_goThrough_34 ?_
  show V G 6 X 37 [(0, .ref 60), (1, .ref 1), (2, .ref 31), (3, .ref 33), (4, .int (nI 7))] [] (vup μ1.1 60 3 (nI L), μ1.2)
  generalize hE2 : ((vup μ1.1 60 3 (nI L), μ1.2) : VS) = μ2
  have e2 : ∀ a, a ≠ 60 → μ2.1 a = μ1.1 a := fun a ha => by rw [← hE2]; dsimp only; exact vup_row _ _ _ ha
  have l2 : μ2.1 60 3 = nI L := by rw [← hE2]; dsimp only; exact vup_same _ _ _ _
  have g2 : ∀ q, q ≠ 3 → μ2.1 60 q = μ1.1 60 q := fun q hq => by rw [← hE2]; dsimp only; exact vup_ne hq
  have d2 : μ2.2 = μ1.2 := by rw [← hE2]
  refine V_iconst (v := nI 0) hX dX2_goThrough_37 (by decide) ?_
  refine V_istore (ls' := [(0, .ref 60), (1, .ref 1), (2, .ref 31), (3, .ref 33), (4, .int (nI 0))]) hX dX2_goThrough_38 (by decide) rfl ?_
  refine V_sub [0, 1, 2, 3, 4] rfl (lp_cnt1 (L := L) (S := S) hX hL7 l2 (fun i hi => by rw [e2 32 (by decide), e1 32 (by decide)]; exact hRC.2.1.2 i hi) hg (fun μ3 e3 z3 d3 => ?_) (L + 1) 0 μ2 (by omega) (by omega) (fun _ _ => rfl) (fun q hq => by rw [e2 63 (by decide)]; exact z1 q hq) rfl)
  show V G 6 X 85 [(0, .ref 60), (1, .ref 1), (2, .ref 31), (3, .ref 33), (4, .int (nI L))] [] μ3
  have hR3 : RC μ3 P L S κ I := hRC.frame (fun a ha => by rw [e3 a (by omega), e2 a (by omega), e1 a (by omega)])
  refine V_aload_n hX dX2_goThrough_85 3 rfl ?_
  refine V_iconst (v := nI 0) hX dX2_goThrough_86 (by decide) ?_
  refine V_waldN (r := 34) hX rfl (by omega) (by decide) rfl dX2_goThrough_87 ?_
  refine V_aload_n hX dX2_goThrough_88 1 rfl ?_
  refine V_callV (As := [.ref 1]) (st := []) hX mX2_41 rfl (k_begin (P := P) rfl rfl hR3.1 (fun μ4 a4 b4 d4 => ?_)) rfl (Nat.le_of_ble_eq_true rfl) (Nat.le_of_ble_eq_true rfl) dX2_goThrough_89
  show V G 6 X 92 [(0, .ref 60), (1, .ref 1), (2, .ref 31), (3, .ref 33), (4, .int (nI L))] [] μ4
  have f4 : ∀ a, a < 34 ∨ 64 ≤ a → μ4.1 a = μ.1 a := fun a ha => by rw [a4 a (by omega) (by omega), e3 a (by omega), e2 a (by omega), e1 a (by omega)]
  have hI4 : goI1 P L S κ I μ4 0 S (fun k => cv S (kc k) 0 L) := ⟨hRC.frame (fun a ha => f4 a (by omega)), b4, by rw [a4 60 (by decide) (by decide), e3 60 (by decide)]; exact l2, fun i hi => absurd hi (by omega), fun k hk => ⟨by rw [a4 63 (by decide) (by decide)]; exact z3 k hk, Nat.le_trans (cv_le _ _ _ _) hL7⟩⟩
  have hr4 : fRel L μ4 a_ := by
    refine ⟨?_, ?_, fun z i hi => ⟨?_, (hr.2.2 z i hi).2⟩⟩
    · rw [a4 60 (by decide) (by decide), e3 60 (by decide), g2 4 (by decide), e1 60 (by decide)]; exact hr.1
    · rw [a4 60 (by decide) (by decide), e3 60 (by decide), g2 5 (by decide), e1 60 (by decide)]; exact hr.2.1
    · rw [a4 62 (by decide) (by decide), e3 62 (by decide), e2 62 (by decide), e1 62 (by decide)]; exact (hr.2.2 z i hi).1
  refine V_aload_n hX dX2_goThrough_92 0 rfl ?_
  refine V_aload_n hX dX2_goThrough_93 1 rfl ?_
  refine V_aload_n hX dX2_goThrough_94 3 rfl ?_
  refine V_iconst (v := nI 0) hX dX2_goThrough_95 (by decide) ?_
  refine V_callU (As := [.ref 1, .ref 33, .int (nI 0)]) (st := []) hX mX2_47_1 rfl (k_go1 (P := P) (L := L) (S := S) (κ := κ) (I := I) hok hL7 L 0 S (fun k => cv S (kc k) 0 L) a_ (by omega) hB hI4 hr4 (fun μ5 p5 r5 => ?_)) rfl (Nat.le_of_ble_eq_true rfl) (Nat.le_of_ble_eq_true rfl) dX2_goThrough_96
  show V G 6 X 99 [(0, .ref 60), (1, .ref 1), (2, .ref 31), (3, .ref 33), (4, .int (nI L))] [] μ5
  refine V_vret hX rfl dX2_goThrough_99 ?_
  exact hR _ _ (hQ μ5 (fun a ha => by rw [p5.1 a (by omega)]; exact f4 a ha) (by rw [p5.2.1]; exact hI4.2.2.1) r5)
