theorem rt_ok {P : PC} {v : Nat} (hok : okP P) (hv : v ≤ 9) : okP (vup P 0 2 v) := ⟨hok.1, hok.2.1, hv, hok.2.2.2⟩
theorem rt_l1 {P : PC} {v sg : Nat} {cold : Bool} {u w : MW} (a : u.1 = w.1) (b : u.2.1 = w.2.1) (e : u.2.2.1 = w.2.2.1) : mwL1 (vup P 0 2 v) sg cold u = mwL1 P sg cold w := by
  unfold mwL1
  rw [a, b, e]
  rfl
theorem rt_mw {P : PC} {v : Nat} {S : Nat → Nat} {co : Nat → Bool} : ∀ k, (mwR (vup P 0 2 v) S co (mw0 (vup P 0 2 v)) k).1 = (mwR P S co (mw0 P) k).1 ∧ (mwR (vup P 0 2 v) S co (mw0 (vup P 0 2 v)) k).2.1 = (mwR P S co (mw0 P) k).2.1 ∧ (mwR (vup P 0 2 v) S co (mw0 (vup P 0 2 v)) k).2.2.1 = (mwR P S co (mw0 P) k).2.2.1
  | 0 => ⟨rfl, rfl, rfl⟩
  | k + 1 => by
    obtain ⟨a, b, e⟩ := rt_mw (P := P) (v := v) (S := S) (co := co) k
    have hl := rt_l1 (P := P) (v := v) (sg := S k) (cold := co k) a b e
    refine ⟨?_, ?_, ?_⟩
    · show lev2 (vup P 0 2 v) (nodF (vup P 0 2 v) (mwL1 (vup P 0 2 v) (S k) (co k) _)) (mwL1 (vup P 0 2 v) (S k) (co k) _) = lev2 P (nodF P (mwL1 P (S k) (co k) _)) (mwL1 P (S k) (co k) _)
      rw [hl]
      rfl
    · show _ + _ = _ + _
      rw [b]
    · show _ + _ = _ + _
      rw [e]
theorem gift_le (sg : Nat) : giftN sg ≤ 2 := by unfold giftN; split <;> (try split) <;> omega
theorem tot_bd {P : PC} (h : P 0 2 ≤ 9) {S : Nat → Nat} {co : Nat → Bool} : ∀ k, (mwR P S co (mw0 P) k).2.2.2 7 ≤ 8 * k ∧ (mwR P S co (mw0 P) k).2.2.2 9 ≤ 72 * k ∧ (mwR P S co (mw0 P) k).2.2.2 10 ≤ 16 * k ∧ (mwR P S co (mw0 P) k).2.2.2 11 ≤ 16 * k
  | 0 => ⟨Nat.le_refl _, Nat.le_refl _, Nat.le_refl _, Nat.le_refl _⟩
  | k + 1 => by
    obtain ⟨a, b, e, f⟩ := tot_bd h (S := S) (co := co) k
    have g0 : ∀ f : Nat → Bool, cnt f 8 ≤ 8 := fun f => cnt_le f 8
    refine ⟨?_, ?_, ?_, ?_⟩
    · show _ + cnt _ 8 ≤ _
      have := g0 (nodF P (mwL1 P (S k) (co k) (mwR P S co (mw0 P) k)))
      omega
    · show _ + P 0 2 * cnt _ 8 ≤ _
      have := Nat.mul_le_mul h (g0 (seenF P (S k) (mwL1 P (S k) (co k) (mwR P S co (mw0 P) k))))
      omega
    · show _ + giftN (S k) * cnt _ 8 ≤ _
      have := Nat.mul_le_mul (gift_le (S k)) (g0 (othF P (nodF P (mwL1 P (S k) (co k) (mwR P S co (mw0 P) k)))))
      omega
    · show _ + giftN (S k) * cnt _ 8 ≤ _
      have := Nat.mul_le_mul (gift_le (S k)) (g0 (nodF P (mwL1 P (S k) (co k) (mwR P S co (mw0 P) k))))
      omega
def leD (P : PC) (S : Nat → Nat) (L : Nat) : Nat := cnt (seenF P 104 (mwL1 P 104 false (uAt P S L))) 8
def leG (P : PC) (S : Nat → Nat) (L : Nat) : Nat := cnt (othF P (nodF P (mwL1 P 104 false (uAt P S L)))) 8
def leF (P : PC) (S : Nat → Nat) (L v : Nat) : Bool := decide (1 ≤ v) && decide (leG P S L ≤ v * leD P S L)
def leastS (P : PC) (L : Nat) (S : Nat → Nat) : Int32 := if fltU S L = -6 then (if 60 ≤ L then -4 else fstU (leF P S L) 10) else -5
theorem le_t9 {P : PC} {S : Nat → Nat} {L v : Nat} : (mwStep (vup P 0 2 v) 104 false (uAt (vup P 0 2 v) S L)).2.2.2 9 = (uAt (vup P 0 2 v) S L).2.2.2 9 + v * leD P S L := by
  have z := rt_mw (P := P) (v := v) (S := S) (co := noC) L
  show _ + v * cnt (seenF (vup P 0 2 v) 104 (mwL1 (vup P 0 2 v) 104 false _)) 8 = _
  rw [rt_l1 z.1 z.2.1 z.2.2]
  rfl
theorem le_t10 {P : PC} {S : Nat → Nat} {L v : Nat} : (mwStep (vup P 0 2 v) 104 false (uAt (vup P 0 2 v) S L)).2.2.2 10 = (uAt (vup P 0 2 v) S L).2.2.2 10 + leG P S L := by
  have z := rt_mw (P := P) (v := v) (S := S) (co := noC) L
  show _ + giftN 104 * cnt (othF (vup P 0 2 v) (nodF (vup P 0 2 v) (mwL1 (vup P 0 2 v) 104 false _))) 8 = _
  rw [rt_l1 z.1 z.2.1 z.2.2, show giftN 104 = 1 from rfl, Nat.one_mul]
  rfl
theorem le_d8 (P : PC) (S : Nat → Nat) (L : Nat) : leD P S L ≤ 8 := cnt_le _ 8
theorem le_g8 (P : PC) (S : Nat → Nat) (L : Nat) : leG P S L ≤ 8 := cnt_le _ 8
theorem leF_y {P : PC} {S : Nat → Nat} {L v : Nat} (h1 : 1 ≤ v) (h : leG P S L ≤ v * leD P S L) : leF P S L v = true := by unfold leF; rw [decide_eq_true h1, decide_eq_true h]; rfl
theorem leF_n {P : PC} {S : Nat → Nat} {L v : Nat} (h : v * leD P S L < leG P S L) : ¬ leF P S L v = true := by unfold leF; rw [decide_eq_false (by omega : ¬ leG P S L ≤ v * leD P S L), Bool.and_false]; decide
def apS (S : Nat → Nat) (L x : Nat) : Nat → Nat := fun i => if i = L then x else S i
theorem le_cmp {P : PC} (hok : okP P) {S : Nat → Nat} {L v : Nat} (hL : L ≤ 60) (hv : v ≤ 9) : (nI ((uAt (vup P 0 2 v) S L).2.2.2 10) - nI ((uAt (vup P 0 2 v) S L).2.2.2 9) < nI ((uAt (vup P 0 2 v) (apS S L 104) (L + 1)).2.2.2 10) - nI ((uAt (vup P 0 2 v) (apS S L 104) (L + 1)).2.2.2 9)) ↔ v * leD P S L < leG P S L := by
  have e0 : uAt (vup P 0 2 v) (apS S L 104) (L + 1) = mwStep (vup P 0 2 v) 104 false (uAt (vup P 0 2 v) S L) := by
    show mwStep (vup P 0 2 v) (apS S L 104 L) false (mwR (vup P 0 2 v) (apS S L 104) noC (mw0 (vup P 0 2 v)) L) = _
    rw [show apS S L 104 L = 104 from if_pos rfl, mwR_congr L (fun i hi => show apS S L 104 i = S i from if_neg (by omega)) (fun _ _ => rfl)]
  rw [e0, le_t9, le_t10]
  have b := tot_bd (P := vup P 0 2 v) hv (S := S) (co := noC) L
  have b9 : (uAt (vup P 0 2 v) S L).2.2.2 9 ≤ 72 * L := b.2.1
  have b10 : (uAt (vup P 0 2 v) S L).2.2.2 10 ≤ 16 * L := b.2.2.1
  have d8 := Nat.mul_le_mul hv (le_d8 P S L)
  have g8 := le_g8 P S L
  rw [zI_nat, zI_nat, zI_nat, zI_nat, zI_sub, zI_sub, zI_lt (by omega) (by omega)]
  omega
theorem isE.rate {μ : VS} {P : PC} (h : isE μ P) (v : Nat) : isE (vup μ.1 69 18 (nI v), μ.2) (vup P 0 2 v) := ⟨⟨h.1.1, h.1.2.1, rfl, h.1.2.2.2.1, h.1.2.2.2.2⟩, h.2.1, h.2.2.1, h.2.2.2.1, h.2.2.2.2⟩
theorem mKeep.put {μ : VS} {a k : Nat} {x : Int32} (h : mAll a k) : mKeep μ (vup μ.1 a k x, μ.2) := ⟨fun b q hq => by dsimp only; rw [vup_get, if_neg (by rintro ⟨rfl, rfl⟩; exact hq h)], rfl⟩
set_option maxRecDepth 100000 in
set_option maxHeartbeats 4000000 in
theorem lpC_least {G : VG} {d : Nat} {μ : VS} {Q : Option Value → VS → Prop} {X : VX} {P : PC} {L b_ c_ : Nat} {S : Nat → Nat} (hX : Cx G (d + 4) yX8_rateAgainstHell cX8_rateAgainstHell 7 (some .int) X) (hR : ∀ r μ', Q r μ' → Ret G X r μ') (hQ : Q (some (.int (fstU (leF P S L) 10))) μ) : ∀ (j k_ : Nat), 1 ≤ k_ ∧ k_ ≤ 10 → 11 ≤ k_ + j → (∀ i, i < k_ → ¬ leF P S L i = true) → V G 7 X 94 [(0, .ref 0), (1, .ref 34), (2, .int (nI b_)), (3, .int (nI c_)), (4, .int (nI (leD P S L))), (5, .int (nI (leG P S L))), (6, .int (nI k_))] [] μ := by
  intro j
  induction j with
  | zero =>
    intro k_ h1 h2
    exact absurd h2 (by omega)
  | succ j ih =>
    intro k_ h1 h2 hno
    refine V_iload hX dX8_rateAgainstHell_94 6 rfl ?_
    refine V_bipush (v := nI 9) hX dX8_rateAgainstHell_96 (by decide) ?_
    refine V_icmp_gtN (tgt := 120) hX dX8_rateAgainstHell_98 (by decide) (by first | omega | (have := Nat.mul_le_mul (show k_ ≤ 9 by omega) (le_d8 P S L); have := le_g8 P S L; omega)) (by first | omega | (have := Nat.mul_le_mul (show k_ ≤ 9 by omega) (le_d8 P S L); have := le_g8 P S L; omega)) (fun c98 => ?_) (fun c98 => ?_)
    · refine V_bipush (v := (-6)) hX dX8_rateAgainstHell_120 (by decide) ?_
      refine V_iret hX rfl dX8_rateAgainstHell_122 ?_
      exact hR _ _ (by rw [fst_none 10 (fun i hi => hno i (by omega))] at hQ; exact hQ)
    · refine V_iload hX dX8_rateAgainstHell_101 5 rfl ?_
      refine V_iload hX dX8_rateAgainstHell_103 6 rfl ?_
      refine V_iload hX dX8_rateAgainstHell_105 4 rfl ?_
      refine V_imulN hX dX8_rateAgainstHell_107 ?_
      refine V_icmp_gtN (tgt := 114) hX dX8_rateAgainstHell_108 (by decide) (by first | omega | (have := Nat.mul_le_mul (show k_ ≤ 9 by omega) (le_d8 P S L); have := le_g8 P S L; omega)) (by first | omega | (have := Nat.mul_le_mul (show k_ ≤ 9 by omega) (le_d8 P S L); have := le_g8 P S L; omega)) (fun c108 => ?_) (fun c108 => ?_)
      · refine V_iincN (n := 1) (ls' := [(0, .ref 0), (1, .ref 34), (2, .int (nI b_)), (3, .int (nI c_)), (4, .int (nI (leD P S L))), (5, .int (nI (leG P S L))), (6, .int (nI (k_ + 1)))]) hX dX8_rateAgainstHell_114 6 rfl (by decide) rfl ?_
        refine V_goto (tgt := 94) hX dX8_rateAgainstHell_117 (by decide) ?_
        exact ih (k_ + 1) (by omega) (by omega) (lt_s hno (leF_n c108))
      · refine V_iload hX dX8_rateAgainstHell_111 6 rfl ?_
        refine V_iret hX rfl dX8_rateAgainstHell_113 ?_
        exact hR _ _ (by rw [fst_at 10 (by omega) (by decide) hno (leF_y (by omega) c108)] at hQ; exact hQ)
set_option maxRecDepth 100000 in
set_option maxHeartbeats 4000000 in
theorem k_rate {G : VG} {d : Nat} {μ : VS} {Q : Option Value → VS → Prop} {P : PC} {L : Nat} {S κ : Nat → Nat} {I : Nat → PC} (hRC : RC μ P L S κ I) (hok : okP P) (hpd : okPad L S) (hL59 : L ≤ 59) (hQ : ∀ μ', RC μ' P L S κ I → keepM μ μ' → Q (some (.int (fstU (leF P S L) 10))) μ') : Call G (d + 6) yX8_rateAgainstHell cX8_rateAgainstHell 7 (some .int) [.ref 0] μ Q := by
  intro X hX hR
  have hP := hRC.1
  have hL := hRC.2.1
  have hS := hpd.2
  have hL60 := hpd.1
  have hP4 := hok.2.2.2.2.1
  have hok1 := rt_ok hok (show 1 ≤ 9 by decide)
  show V G 7 X 0 [(0, .ref 0)] [] μ
  refine V_aload_n hX dX8_rateAgainstHell_0 0 rfl ?_
  refine V_getr (j := 8) hX fX8_16 rfl rfl dX8_rateAgainstHell_1 ?_
  refine V_aload_n hX dX8_rateAgainstHell_4 0 rfl ?_
  refine V_getr (j := 1) hX fX8_10 rfl rfl dX8_rateAgainstHell_5 ?_
  refine V_callV (As := [.ref 1]) (st := []) hX mX8_272 rfl (kC_become rfl rfl (by decide) hP (fun μ1 q1 q2 q3 => ?_)) rfl (Nat.le_of_ble_eq_true rfl) (Nat.le_of_ble_eq_true rfl) dX8_rateAgainstHell_8
  show V G 7 X 11 [(0, .ref 0)] [] μ1
  refine V_aload_n hX dX8_rateAgainstHell_11 0 rfl ?_
  refine V_getr (j := 8) hX fX8_16 rfl rfl dX8_rateAgainstHell_12 ?_
  refine V_iconst (v := nI 1) hX dX8_rateAgainstHell_15 (by decide) ?_
  refine V_puti hX fX8_278 fw_3_2 rfl dX8_rateAgainstHell_16 ?_
  show V G 7 X 19 [(0, .ref 0)] [] (vup μ1.1 8 2 (nI 1), μ1.2)
  have hT : isP (vup μ1.1 8 2 (nI 1), μ1.2) 8 (vup P 0 2 1) := q1.put 1
  have hL1 : isPad (vup μ1.1 8 2 (nI 1), μ1.2) L S := ⟨by dsimp only; rw [vup_row _ _ _ (by decide), q2 31 (by decide)]; exact hL.1, fun i hi => by dsimp only; rw [vup_row _ _ _ (by decide), q2 32 (by decide)]; exact hL.2 i hi⟩
  refine V_aload_n hX dX8_rateAgainstHell_19 0 rfl ?_
  refine V_getr (j := 33) hX fX8_36 rfl rfl dX8_rateAgainstHell_20 ?_
  refine V_iconst (v := nI 0) hX dX8_rateAgainstHell_23 (by decide) ?_
  refine V_waldN (r := 34) hX rfl (by omega) (by decide) rfl dX8_rateAgainstHell_24 ?_
  refine V_astore_n (ls' := [(0, .ref 0), (1, .ref 34)]) hX dX8_rateAgainstHell_25 (by decide) rfl ?_
  refine V_aload_n hX dX8_rateAgainstHell_26 1 rfl ?_
  refine V_aload_n hX dX8_rateAgainstHell_27 0 rfl ?_
  refine V_getr (j := 8) hX fX8_16 rfl rfl dX8_rateAgainstHell_28 ?_
  refine V_callV (As := [.ref 8]) (st := []) hX mX8_287 rfl (k_begin rfl rfl hT (fun μ2 a2 b2 d2 => ?_)) rfl (Nat.le_of_ble_eq_true rfl) (Nat.le_of_ble_eq_true rfl) dX8_rateAgainstHell_31
  show V G 7 X 34 [(0, .ref 0), (1, .ref 34)] [] μ2
  have hT2 : isP μ2 8 (vup P 0 2 1) := hT.frame (fun j hj => a2 _ (by omega) (by omega))
  have hL2 : isPad μ2 L S := ⟨by rw [a2 31 (by omega) (by omega)]; exact hL1.1, fun i hi => by rw [a2 32 (by omega) (by omega)]; exact hL1.2 i hi⟩
  refine V_aload_n hX dX8_rateAgainstHell_34 1 rfl ?_
  refine V_aload_n hX dX8_rateAgainstHell_35 0 rfl ?_
  refine V_getr (j := 8) hX fX8_16 rfl rfl dX8_rateAgainstHell_36 ?_
  refine V_aload_n hX dX8_rateAgainstHell_39 0 rfl ?_
  refine V_getr (j := 31) hX fX8_30 rfl rfl dX8_rateAgainstHell_40 ?_
  refine V_iconst (v := nI 0) hX dX8_rateAgainstHell_43 (by decide) ?_
  refine V_aload_n hX dX8_rateAgainstHell_44 0 rfl ?_
  refine V_getr (j := 31) hX fX8_30 rfl rfl dX8_rateAgainstHell_45 ?_
  refine V_getN (x := nI L) hX fX8_128 rfl hL2.1 dX8_rateAgainstHell_48 ?_
  refine V_callV (As := [.ref 8, .ref 31, .int (nI 0), .int (nI L)]) (st := []) hX mX8_290 rfl (k_passAll (P := vup P 0 2 1) (n_ := 0) rfl rfl hT2 hok1 hL2 hS hL60 (mw0_ok hok1) (Nat.le_refl L) (Nat.zero_le _) (by omega) b2 (fun μ3 a3 b3 c3 d3 => ?_)) rfl (Nat.le_of_ble_eq_true rfl) (Nat.le_of_ble_eq_true rfl) dX8_rateAgainstHell_51
  show V G 7 X 54 [(0, .ref 0), (1, .ref 34)] [] μ3
  have hT3 : isP μ3 8 (vup P 0 2 1) := hT2.frame (fun j hj => a3 _ (by omega) (by omega))
  simp only [Nat.zero_add, Nat.sub_zero] at b3
  refine V_aload_n hX dX8_rateAgainstHell_54 1 rfl ?_
  refine V_getN (x := nI ((uAt (vup P 0 2 1) S L).2.2.2 9)) hX fX8_318 rfl (b3.2.2.2 9 (by decide) (by decide)) dX8_rateAgainstHell_55 ?_
  refine V_istore_n (ls' := [(0, .ref 0), (1, .ref 34), (2, .int (nI ((uAt (vup P 0 2 1) S L).2.2.2 9)))]) hX dX8_rateAgainstHell_58 (by decide) rfl ?_
  refine V_aload_n hX dX8_rateAgainstHell_59 1 rfl ?_
  refine V_getN (x := nI ((uAt (vup P 0 2 1) S L).2.2.2 10)) hX fX8_321 rfl (b3.2.2.2 10 (by decide) (by decide)) dX8_rateAgainstHell_60 ?_
  refine V_istore_n (ls' := [(0, .ref 0), (1, .ref 34), (2, .int (nI ((uAt (vup P 0 2 1) S L).2.2.2 9))), (3, .int (nI ((uAt (vup P 0 2 1) S L).2.2.2 10)))]) hX dX8_rateAgainstHell_63 (by decide) rfl ?_
  refine V_aload_n hX dX8_rateAgainstHell_64 1 rfl ?_
  refine V_aload_n hX dX8_rateAgainstHell_65 0 rfl ?_
  refine V_getr (j := 8) hX fX8_16 rfl rfl dX8_rateAgainstHell_66 ?_
  refine V_bipush (v := nI 104) hX dX8_rateAgainstHell_69 (by decide) ?_
  refine V_iconst (v := nI 0) hX dX8_rateAgainstHell_71 (by decide) ?_
  show V G 7 X 72 [(0, .ref 0), (1, .ref 34), (2, .int (nI ((uAt (vup P 0 2 1) S L).2.2.2 9))), (3, .int (nI ((uAt (vup P 0 2 1) S L).2.2.2 10)))] [.int (bI (false = true)), .int (nI 104), .ref 8, .ref 34] μ3
  refine V_callV (As := [.ref 8, .int (nI 104), .int (bI (false = true))]) (st := []) hX mX8_155 rfl (k_pass (cold_ := false) (P := vup P 0 2 1) rfl rfl hT3 hok1 (by decide) b3 (mwR_ok hok1 (mw0_ok hok1) L) (by omega) (fun μ4 a4 b4 c4 d4 => ?_)) rfl (Nat.le_of_ble_eq_true rfl) (Nat.le_of_ble_eq_true rfl) dX8_rateAgainstHell_72
  show V G 7 X 75 [(0, .ref 0), (1, .ref 34), (2, .int (nI ((uAt (vup P 0 2 1) S L).2.2.2 9))), (3, .int (nI ((uAt (vup P 0 2 1) S L).2.2.2 10)))] [] μ4
  have hRC4 : RC μ4 P L S κ I := hRC.frame (fun a ha => by rw [a4 a (by omega) (by omega), a3 a (by omega) (by omega), a2 a (by omega) (by omega)]; dsimp only; rw [vup_row _ _ _ (by omega), q2 a (by omega)])
  have hkM : keepM μ μ4 := fun a ha => by rw [a4 a (by omega) (by omega), a3 a (by omega) (by omega), a2 a (by omega) (by omega)]; dsimp only; rw [vup_row _ _ _ (by omega), q2 a (by omega)]
  refine V_aload_n hX dX8_rateAgainstHell_75 1 rfl ?_
  refine V_getN (x := nI ((mwStep (vup P 0 2 1) 104 false (uAt (vup P 0 2 1) S L)).2.2.2 9)) hX fX8_318 rfl (b4.2.2.2 9 (by decide) (by decide)) dX8_rateAgainstHell_76 ?_
  refine V_iload_n hX dX8_rateAgainstHell_79 2 rfl ?_
  refine V_isubN hX dX8_rateAgainstHell_80 (by rw [le_t9]; omega) ?_
  rw [show ((mwStep (vup P 0 2 1) 104 false (uAt (vup P 0 2 1) S L)).2.2.2 9) - ((uAt (vup P 0 2 1) S L).2.2.2 9) = leD P S L from by rw [le_t9]; omega]
  refine V_istore (ls' := [(0, .ref 0), (1, .ref 34), (2, .int (nI ((uAt (vup P 0 2 1) S L).2.2.2 9))), (3, .int (nI ((uAt (vup P 0 2 1) S L).2.2.2 10))), (4, .int (nI (leD P S L)))]) hX dX8_rateAgainstHell_81 (by decide) rfl ?_
  refine V_aload_n hX dX8_rateAgainstHell_83 1 rfl ?_
  refine V_getN (x := nI ((mwStep (vup P 0 2 1) 104 false (uAt (vup P 0 2 1) S L)).2.2.2 10)) hX fX8_321 rfl (b4.2.2.2 10 (by decide) (by decide)) dX8_rateAgainstHell_84 ?_
  refine V_iload_n hX dX8_rateAgainstHell_87 3 rfl ?_
  refine V_isubN hX dX8_rateAgainstHell_88 (by rw [le_t10]; omega) ?_
  rw [show ((mwStep (vup P 0 2 1) 104 false (uAt (vup P 0 2 1) S L)).2.2.2 10) - ((uAt (vup P 0 2 1) S L).2.2.2 10) = leG P S L from by rw [le_t10]; omega]
  refine V_istore (ls' := [(0, .ref 0), (1, .ref 34), (2, .int (nI ((uAt (vup P 0 2 1) S L).2.2.2 9))), (3, .int (nI ((uAt (vup P 0 2 1) S L).2.2.2 10))), (4, .int (nI (leD P S L))), (5, .int (nI (leG P S L)))]) hX dX8_rateAgainstHell_89 (by decide) rfl ?_
  refine V_iconst (v := nI 1) hX dX8_rateAgainstHell_91 (by decide) ?_
  refine V_istore (ls' := [(0, .ref 0), (1, .ref 34), (2, .int (nI ((uAt (vup P 0 2 1) S L).2.2.2 9))), (3, .int (nI ((uAt (vup P 0 2 1) S L).2.2.2 10))), (4, .int (nI (leD P S L))), (5, .int (nI (leG P S L))), (6, .int (nI 1))]) hX dX8_rateAgainstHell_92 (by decide) rfl ?_
  refine lpC_least (P := P) (L := L) (S := S) hX hR (hQ μ4 hRC4 hkM) 10 1 (by decide) (by decide) (fun i hi => ?_)
  obtain rfl : i = 0 := by omega
  unfold leF
  rw [show decide (1 ≤ 0) = false from rfl, Bool.false_and]
  decide
set_option maxRecDepth 100000 in
set_option maxHeartbeats 4000000 in
theorem kC_least {G : VG} {d : Nat} {μ : VS} {Q : Option Value → VS → Prop} {P : PC} {L : Nat} {S κ : Nat → Nat} {I : Nat → PC} (hRC : RC μ P L S κ I) (hok : okP P) (hpd : okPad L S) (hQ : ∀ μ', RC μ' P L S κ I → keepM μ μ' → Q (some (.int (leastS P L S))) μ') : Call G (d + 7) yX8_least cX8_least 1 (some .int) [.ref 0] μ Q := by
  intro X hX hR
  have hP := hRC.1
  have hL := hRC.2.1
  have hS := hpd.2
  have hL60 := hpd.1
  have hP4 := hok.2.2.2.2.1
  show V G 1 X 0 [(0, .ref 0)] [] μ
  refine V_aload_n hX dX8_least_0 0 rfl ?_
  refine V_getr (j := 31) hX fX8_30 rfl rfl dX8_least_1 ?_
  refine V_callV (As := []) (st := []) hX mX8_137 rfl (kC_hasFault hL hS hL60 ?_) rfl (Nat.le_of_ble_eq_true rfl) (Nat.le_of_ble_eq_true rfl) dX8_least_4
  show V G 1 X 7 [(0, .ref 0)] [.int (bI (¬ fltU S L = -6))] μ
  refine V_if_eqB (tgt := 13) hX dX8_least_7 (by decide) (fun c7 => ?_) (fun c7 => ?_)
  · refine V_aload_n hX dX8_least_13 0 rfl ?_
    refine V_getr (j := 31) hX fX8_30 rfl rfl dX8_least_14 ?_
    refine V_getN (x := nI L) hX fX8_128 rfl hL.1 dX8_least_17 ?_
    refine V_bipush (v := nI 60) hX dX8_least_20 (by decide) ?_
    refine V_icmp_ltN (tgt := 30) hX dX8_least_22 (by decide) (by omega) (by omega) (fun c22 => ?_) (fun c22 => ?_)
    · refine V_aload_n hX dX8_least_30 0 rfl ?_
      refine V_callV (As := []) (st := []) hX mX8_197 rfl (k_rate hRC hok hpd (by omega) (fun μ2 hRC2 hkM => ?_)) rfl (Nat.le_of_ble_eq_true rfl) (Nat.le_of_ble_eq_true rfl) dX8_least_31
      show V G 1 X 34 [(0, .ref 0)] [.int (fstU (leF P S L) 10)] μ2
      refine V_iret hX rfl dX8_least_34 ?_
      have h9 := hQ μ2
      rw [show leastS P L S = _ from (if_pos (Decidable.not_not.mp c7)).trans (if_neg (by omega))] at h9
      exact hR _ _ (h9 hRC2 hkM)
    · refine V_bipush (v := (-4)) hX dX8_least_25 (by decide) ?_
      refine V_goto (tgt := 34) hX dX8_least_27 (by decide) ?_
      refine V_iret hX rfl dX8_least_34 ?_
      have h9 := hQ μ
      rw [show leastS P L S = -4 from (if_pos (Decidable.not_not.mp c7)).trans (if_pos (by omega))] at h9
      exact hR _ _ (h9 hRC (keepM.rf μ))
  · refine V_bipush (v := (-5)) hX dX8_least_10 (by decide) ?_
    refine V_iret hX rfl dX8_least_12 ?_
    have h9 := hQ μ
    rw [show leastS P L S = -5 from if_neg c7] at h9
    exact hR _ _ (h9 hRC (keepM.rf μ))
set_option maxRecDepth 100000 in
set_option maxHeartbeats 4000000 in
theorem lpM_least {G : VG} {d : Nat} {μ : VS} {Q : Option Value → VS → Prop} {X : VX} {P : PC} {L : Nat} {S κ : Nat → Nat} {I : Nat → PC} (hX : Cx G (d + 6) yX9_least cX9_least 3 (some .int) X) (hR : ∀ r μ', Q r μ' → Ret G X r μ') (hok : okP P) (hpd : okPad L S) (hL59 : L ≤ 59) (hQ : ∀ μ', RM μ' P L S κ I → keepC μ μ' → Q (some (.int (fstU (leF P S L) 10))) μ') : ∀ (j k_ : Nat) (μ0 : VS), 1 ≤ k_ ∧ k_ ≤ 10 → 11 ≤ k_ + j → RM μ0 P L S κ I → keepC μ μ0 → (∀ i, i < k_ → ¬ leF P S L i = true) → V G 3 X 24 [(0, .ref 69), (1, .int (nI k_))] [] μ0 := by
  have hL60 := hpd.1
  have hS := hpd.2
  intro j
  induction j with
  | zero =>
    intro k_ μ0 h1 h2
    exact absurd h2 (by omega)
  | succ j ih =>
    intro k_ μ0 h1 h2 hR0 hC0 hno
    refine V_iload_n hX dX9_least_24 1 rfl ?_
    refine V_bipush (v := nI 10) hX dX9_least_25 (by decide) ?_
    refine V_icmp_geN (tgt := 81) hX dX9_least_27 (by decide) (by omega) (by omega) (fun c27 => ?_) (fun c27 => ?_)
    · refine V_bipush (v := (-6)) hX dX9_least_81 (by decide) ?_
      refine V_iret hX rfl dX9_least_83 ?_
      exact hR _ _ (by have h9 := hQ μ0 hR0 hC0; rw [fst_none 10 (fun i hi => hno i (by omega))] at h9; exact h9)
    · have hok1 := rt_ok hok (show k_ ≤ 9 by omega)
      refine V_aload_n hX dX9_least_30 0 rfl ?_
      refine V_callV (As := []) (st := []) hX mX9_160 rfl (kM_lay hR0.1 hR0.2.1 hL60 (fun μ1 hLy hK1 => ?_)) rfl (Nat.le_of_ble_eq_true rfl) (Nat.le_of_ble_eq_true rfl) dX9_least_31
      show V G 3 X 34 [(0, .ref 69), (1, .int (nI k_))] [] μ1
      have hR1 := hR0.keep hK1
      refine V_aload_n hX dX9_least_34 0 rfl ?_
      refine V_iload_n hX dX9_least_35 1 rfl ?_
      refine V_puti hX fX9_119 fw_8_18 rfl dX9_least_36 ?_
      show V G 3 X 39 [(0, .ref 69), (1, .int (nI k_))] [] (vup μ1.1 69 18 (nI k_), μ1.2)
      have hRa := hR1.keep (mKeep.put (a := 69) (k := 18) (x := nI k_) (Or.inr (by decide)))
      have hEa := hLy.1.rate k_
      refine V_aload_n hX dX9_least_39 0 rfl ?_
      refine V_callV (As := []) (st := []) hX mX9_169 rfl (kM_gainOf (E := (vup P 0 2 k_)) (sg_ := S) (cb_ := noC) (cm_ := 0) (M_ := L) hLy.2.1 hEa hok1 hLy.2.2.2 (by omega) (fun i hi => hLy.2.2.1 i hi) (fun i hi => by have := hS i hi; omega) (fun i _ => Or.inr ⟨rfl, rfl⟩) (fun μ2 hp => ?_)) rfl (Nat.le_of_ble_eq_true rfl) (Nat.le_of_ble_eq_true rfl) dX9_least_40
      show V G 3 X 43 [(0, .ref 69), (1, .int (nI k_))] [.int (nI ((uAt (vup P 0 2 k_) S L).2.2.2 10) - nI ((uAt (vup P 0 2 k_) S L).2.2.2 9))] μ2
      have hR2 := hRa.keep hp.1.keep
      have hC2 : keepC μ μ2 := hC0.tr ((hK1.tr (mKeep.put (a := 69) (k := 18) (x := nI k_) (Or.inr (by decide)))).tr hp.1.keep).C
      have hE2 := hEa.same hp.1
      refine V_istore_n (ls' := [(0, .ref 69), (1, .int (nI k_)), (2, .int (nI ((uAt (vup P 0 2 k_) S L).2.2.2 10) - nI ((uAt (vup P 0 2 k_) S L).2.2.2 9)))]) hX dX9_least_43 (by decide) rfl ?_
      refine V_aload_n hX dX9_least_44 0 rfl ?_
      refine V_getr (j := 76) hX fX9_38 rfl rfl dX9_least_45 ?_
      refine V_aload_n hX dX9_least_48 0 rfl ?_
      refine V_getN (x := nI L) hX fX9_103 rfl hR2.2.1.1 dX9_least_49 ?_
      refine V_bipush (v := nI 104) hX dX9_least_52 (by decide) ?_
      refine V_iastN hX rfl (by omega) (by decide) dX9_least_54 ?_
      show V G 3 X 55 [(0, .ref 69), (1, .int (nI k_)), (2, .int (nI ((uAt (vup P 0 2 k_) S L).2.2.2 10) - nI ((uAt (vup P 0 2 k_) S L).2.2.2 9)))] [] (vup μ2.1 76 L (nI 104), μ2.2)
      refine V_aload_n hX dX9_least_55 0 rfl ?_
      refine V_aload_n hX dX9_least_56 0 rfl ?_
      refine V_getN (x := nI L) hX fX9_103 rfl hR2.2.1.1 dX9_least_57 ?_
      refine V_iconst (v := nI 1) hX dX9_least_60 (by decide) ?_
      refine V_iaddN hX dX9_least_61 ?_
      refine V_puti hX fX9_113 fw_8_15 rfl dX9_least_62 ?_
      show V G 3 X 65 [(0, .ref 69), (1, .int (nI k_)), (2, .int (nI ((uAt (vup P 0 2 k_) S L).2.2.2 10) - nI ((uAt (vup P 0 2 k_) S L).2.2.2 9)))] [] (vup (vup μ2.1 76 L (nI 104)) 69 15 (nI (L + 1)), μ2.2)
      have hKb : mKeep μ2 (vup (vup μ2.1 76 L (nI 104)) 69 15 (nI (L + 1)), μ2.2) := (mKeep.put (a := 76) (k := L) (x := nI 104) (Or.inl (by decide))).tr (mKeep.put (a := 69) (k := 15) (x := nI (L + 1)) (Or.inr (by decide)))
      have hRb := hR2.keep hKb
      have hEb : isE (vup (vup μ2.1 76 L (nI 104)) 69 15 (nI (L + 1)), μ2.2) (vup P 0 2 k_) := hE2
      have hcb : ((vup (vup μ2.1 76 L (nI 104)) 69 15 (nI (L + 1)), μ2.2) : VS).1 69 19 = nI 0 := by show μ2.1 69 19 = nI 0; rw [hp.1.1 69 19 (by unfold mScr; omega)]; exact hLy.2.2.2
      have hserb : ∀ i, i < L + 1 → ((vup (vup μ2.1 76 L (nI 104)) 69 15 (nI (L + 1)), μ2.2) : VS).1 76 i = nI (apS S L 104 i) := fun i hi => by
        show vup μ2.1 76 L (nI 104) 76 i = _
        rw [vup_get]
        unfold apS
        by_cases e : i = L
        · rw [if_pos ⟨rfl, e⟩, if_pos e]
        · rw [if_neg (by omega), if_neg e, hp.1.1 76 i (by unfold mScr; omega)]; exact hLy.2.2.1 i (by omega)
      have hsgb : ∀ i, i < L + 1 → apS S L 104 i < 1000 := fun i hi => by
        unfold apS
        by_cases e : i = L
        · rw [if_pos e]; decide
        · rw [if_neg e]; have := hS i (by omega); omega
      refine V_aload_n hX dX9_least_65 0 rfl ?_
      refine V_callV (As := []) (st := []) hX mX9_169 rfl (kM_gainOf (E := (vup P 0 2 k_)) (sg_ := apS S L 104) (cb_ := noC) (cm_ := 0) (M_ := L + 1) rfl hEb hok1 hcb (by omega) hserb hsgb (fun i _ => Or.inr ⟨rfl, rfl⟩) (fun μ3 hq => ?_)) rfl (Nat.le_of_ble_eq_true rfl) (Nat.le_of_ble_eq_true rfl) dX9_least_66
      show V G 3 X 69 [(0, .ref 69), (1, .int (nI k_)), (2, .int (nI ((uAt (vup P 0 2 k_) S L).2.2.2 10) - nI ((uAt (vup P 0 2 k_) S L).2.2.2 9)))] [.int (nI ((uAt (vup P 0 2 k_) (apS S L 104) (L + 1)).2.2.2 10) - nI ((uAt (vup P 0 2 k_) (apS S L 104) (L + 1)).2.2.2 9))] μ3
      have hR3 := hRb.keep hq.1.keep
      have hC3 : keepC μ μ3 := hC2.tr (hKb.tr hq.1.keep).C
      refine V_iload_n hX dX9_least_69 2 rfl ?_
      refine V_icmp_gt (tgt := 75) hX dX9_least_70 (by decide) (fun c70 => ?_) (fun c70 => ?_)
      · refine V_iincN (n := 1) (ls' := [(0, .ref 69), (1, .int (nI (k_ + 1))), (2, .int (nI ((uAt (vup P 0 2 k_) S L).2.2.2 10) - nI ((uAt (vup P 0 2 k_) S L).2.2.2 9)))]) hX dX9_least_75 1 rfl (by decide) rfl ?_
        refine V_goto (tgt := 24) hX dX9_least_78 (by decide) ?_
        exact V_sub [0, 1] rfl (ih (k_ + 1) μ3 (by omega) (by omega) hR3 hC3 (lt_s hno (leF_n ((le_cmp hok (by omega) (by omega)).mp c70))))
      · refine V_iload_n hX dX9_least_73 1 rfl ?_
        refine V_iret hX rfl dX9_least_74 ?_
        exact hR _ _ (by have h9 := hQ μ3 hR3 hC3; rw [fst_at 10 (by omega) (by decide) hno (leF_y (by omega) (Nat.not_lt.mp (fun z => c70 ((le_cmp hok (by omega) (by omega)).mpr z))))] at h9; exact h9)
set_option maxRecDepth 100000 in
set_option maxHeartbeats 4000000 in
theorem kM_least {G : VG} {d : Nat} {μ : VS} {Q : Option Value → VS → Prop} {P : PC} {L : Nat} {S κ : Nat → Nat} {I : Nat → PC} (hRM : RM μ P L S κ I) (hok : okP P) (hpd : okPad L S) (hQ : ∀ μ', RM μ' P L S κ I → keepC μ μ' → Q (some (.int (leastS P L S))) μ') : Call G (d + 7) yX9_least cX9_least 3 (some .int) [.ref 69] μ Q := by
  intro X hX hR
  have hM := hRM.1
  have hL := hRM.2.1
  have hS := hpd.2
  have hL60 := hpd.1
  have hP4 := hok.2.2.2.2.1
  have h4 := hP4
  show V G 3 X 0 [(0, .ref 69)] [] μ
  refine V_aload_n hX dX9_least_0 0 rfl ?_
  refine V_callV (As := []) (st := []) hX mX9_109 rfl (kM_faultOf hL hS hL60 ?_) rfl (Nat.le_of_ble_eq_true rfl) (Nat.le_of_ble_eq_true rfl) dX9_least_1
  show V G 3 X 4 [(0, .ref 69)] [.int (fltU S L)] μ
  refine V_if_lt (tgt := 10) hX dX9_least_4 (by decide) (fun c4 => ?_) (fun c4 => ?_)
  · refine V_aload_n hX dX9_least_10 0 rfl ?_
    refine V_getN (x := nI L) hX fX9_103 rfl hL.1 dX9_least_11 ?_
    refine V_bipush (v := nI 59) hX dX9_least_14 (by decide) ?_
    refine V_icmp_leN (tgt := 22) hX dX9_least_16 (by decide) (by omega) (by omega) (fun c16 => ?_) (fun c16 => ?_)
    · refine V_iconst (v := nI 1) hX dX9_least_22 (by decide) ?_
      refine V_istore_n (ls' := [(0, .ref 69), (1, .int (nI 1))]) hX dX9_least_23 (by decide) rfl ?_
      refine lpM_least (μ := μ) hX hR hok hpd (by omega) (fun μ' z1 z2 => ?_) 10 1 μ (by decide) (by decide) hRM (keepC.rf μ) (fun i hi => ?_)
      · have h9 := hQ μ' z1 z2
        rw [show leastS P L S = _ from (if_pos (flt_neg L (by omega) c4)).trans (if_neg (by omega))] at h9
        exact h9
      · obtain rfl : i = 0 := by omega
        unfold leF
        rw [show decide (1 ≤ 0) = false from rfl, Bool.false_and]
        decide
    · refine V_bipush (v := (-4)) hX dX9_least_19 (by decide) ?_
      refine V_iret hX rfl dX9_least_21 ?_
      have h9 := hQ μ
      rw [show leastS P L S = -4 from (if_pos (flt_neg L (by omega) c4)).trans (if_pos (by omega))] at h9
      exact hR _ _ (h9 hRM (keepC.rf μ))
  · refine V_bipush (v := (-5)) hX dX9_least_7 (by decide) ?_
    refine V_iret hX rfl dX9_least_9 ?_
    have h9 := hQ μ
    rw [show leastS P L S = -5 from if_neg (flt_ge hL60 c4)] at h9
    exact hR _ _ (h9 hRM (keepC.rf μ))
