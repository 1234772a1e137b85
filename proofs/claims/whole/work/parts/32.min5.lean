def mPost (E : PC) (sg m : Nat) (cold : Bool) (u : MW) (μ μ' : VS) : Prop := mSame μ μ' ∧ (∀ h, h < 8 → μ'.1 78 h = nI ((mwStep E sg cold u).1 h)) ∧ μ'.1 69 26 = nI (mwStep E sg cold u).2.1 ∧ μ'.1 69 25 = nI (mwStep E sg cold u).2.2.1 ∧ (∀ k, 27 ≤ k → k ≤ 31 → μ'.1 69 k = μ.1 69 k) ∧
  (μ'.1 79 m = nI (sm (fun h => h) (nodF E (mwL1 E sg cold u)) 8) ∧ μ'.1 80 m = nI (sm (fun h => h) (agrF E sg (mwL1 E sg cold u)) 8) ∧ μ'.1 81 m = nI (sm (fun h => h) (snoF E (nodF E (mwL1 E sg cold u))) 8)) ∧
  (∀ x, x ≠ m → μ'.1 79 x = μ.1 79 x ∧ μ'.1 80 x = μ.1 80 x ∧ μ'.1 81 x = μ.1 81 x) ∧ (∀ h, h < 8 → μ'.1 82 (8 * m + h) = nI ((mwStep E sg cold u).1 h)) ∧ ∀ x, x < 8 * m ∨ 8 * m + 8 ≤ x → μ'.1 82 x = μ.1 82 x
set_option maxRecDepth 100000 in
set_option maxHeartbeats 4000000 in
theorem kM_minute {G : VG} {d : Nat} {μ : VS} {Q : Option Value → VS → Prop} {m_ sg_ cm_ n_ : Nat} {E : PC} {cold_ : Bool} {u_ : MW} (hE : isE μ E) (hok : okP E) (hser : μ.1 76 m_ = nI sg_) (hst : μ.1 69 25 = nI u_.2.2.1) (hnm : μ.1 69 26 = nI u_.2.1) (hcm : μ.1 69 19 = nI cm_) (hl : ∀ h, h < 8 → μ.1 78 h = nI (u_.1 h)) (hu : okU u_ n_) (hn : n_ ≤ 100) (hsg : sg_ < 1000) (hcb : cbOK cm_ m_ cold_) (hm60 : m_ < 61) (hQ : ∀ μ', mPost E sg_ m_ cold_ u_ μ μ' → Q none μ') : Call G (d + 3) yX9_minute cX9_minute 11 none [.ref 69, .int (nI m_)] μ Q := by
  intro X hX hR
  show V G 11 X 0 [(0, .ref 69), (1, .int (nI m_))] [] μ
  refine V_aload_n hX dX9_minute_0 0 rfl ?_
  refine V_getr (j := 76) hX fX9_38 rfl rfl dX9_minute_1 ?_
  refine V_iload_n hX dX9_minute_4 1 rfl ?_
  refine V_ialdN (x := nI sg_) hX rfl (by omega) (by decide) hser dX9_minute_5 ?_
  refine V_istore_n (ls' := [(0, .ref 69), (1, .int (nI m_)), (2, .int (nI sg_))]) hX dX9_minute_6 (by decide) rfl ?_
  refine V_iconst (v := nI 0) hX dX9_minute_7 (by decide) ?_
  refine V_istore_n (ls' := [(0, .ref 69), (1, .int (nI m_)), (2, .int (nI sg_)), (3, .int (nI 0))]) hX dX9_minute_8 (by decide) rfl ?_
  refine V_iconst (v := nI 0) hX dX9_minute_9 (by decide) ?_
  refine V_istore (ls' := [(0, .ref 69), (1, .int (nI m_)), (2, .int (nI sg_)), (3, .int (nI 0)), (4, .int (nI 0))]) hX dX9_minute_10 (by decide) rfl ?_
  refine V_iconst (v := nI 0) hX dX9_minute_12 (by decide) ?_
  refine V_istore (ls' := [(0, .ref 69), (1, .int (nI m_)), (2, .int (nI sg_)), (3, .int (nI 0)), (4, .int (nI 0)), (5, .int (nI 0))]) hX dX9_minute_13 (by decide) rfl ?_
  refine lpM_min1 (st_ := u_.2.2.1) (nm_ := u_.2.1) (lev_ := u_.1) (cold_ := cold_) hX hE hok hst hnm hcm (by have := hu.2.2; omega) (by have := hu.2.1; omega) hsg hcb hu.1 (fun μa hA => ?_) 9 0 μ (by decide) (by decide) ⟨fun _ _ => rfl, fun h hh => by rw [hl h hh]; unfold levK; rw [if_neg (by omega)], rfl⟩
  have hEa : isE μa E := hE.same ⟨fun a k hk => by rw [hA.1 a (by intro e; subst e; exact hk (Or.inl (by omega)))], hA.2.2⟩
  refine V_iconst (v := nI 0) hX dX9_minute_212 (by decide) ?_
  refine V_istore (ls' := [(0, .ref 69), (1, .int (nI m_)), (2, .int (nI sg_)), (3, .int (nI (sm (fun h => h) (nodF E (lev1 E sg_ u_.2.2.1 (nmdN E sg_ u_.2.1) cold_ u_.1)) 8))), (4, .int (nI (sm (fun h => h) (agrF E sg_ (lev1 E sg_ u_.2.2.1 (nmdN E sg_ u_.2.1) cold_ u_.1)) 8))), (5, .int (nI 0))]) hX dX9_minute_213 (by decide) rfl ?_
  refine V_iconst (v := nI 0) hX dX9_minute_215 (by decide) ?_
  refine V_istore (ls' := [(0, .ref 69), (1, .int (nI m_)), (2, .int (nI sg_)), (3, .int (nI (sm (fun h => h) (nodF E (lev1 E sg_ u_.2.2.1 (nmdN E sg_ u_.2.1) cold_ u_.1)) 8))), (4, .int (nI (sm (fun h => h) (agrF E sg_ (lev1 E sg_ u_.2.2.1 (nmdN E sg_ u_.2.1) cold_ u_.1)) 8))), (5, .int (nI 0)), (6, .int (nI 0))]) hX dX9_minute_216 (by decide) rfl ?_
  refine lpM_min2 (l_ := mwL1 E sg_ cold_ u_) hX hEa hok hm60 (fun μ1 hB => ?_) 9 0 μa (by decide) (by decide) ⟨fun _ _ _ => rfl, fun h hh => by rw [hA.2.1 h hh]; unfold levK; rw [if_pos hh, if_neg (by omega)]; rfl, fun h hh => absurd hh (by omega), fun _ _ => rfl, rfl⟩
  have hs2 : μ1.1 69 25 = nI u_.2.2.1 := by rw [hB.1 69 (by decide) (by decide), hA.1 69 (by decide)]; exact hst
  have hn2 : μ1.1 69 26 = nI u_.2.1 := by rw [hB.1 69 (by decide) (by decide), hA.1 69 (by decide)]; exact hnm
  refine V_aload_n hX dX9_minute_409 0 rfl ?_
  refine V_getr (j := 79) hX fX9_47 rfl rfl dX9_minute_410 ?_
  refine V_iload_n hX dX9_minute_413 1 rfl ?_
  refine V_iload_n hX dX9_minute_414 3 rfl ?_
  refine V_iastN hX rfl (by omega) (by decide) dX9_minute_415 ?_
  show V G 11 X 416 [(0, .ref 69), (1, .int (nI m_)), (2, .int (nI sg_)), (3, .int (nI (sm (fun h => h) (nodF E (mwL1 E sg_ cold_ u_)) 8))), (4, .int (nI (sm (fun h => h) (agrF E sg_ (mwL1 E sg_ cold_ u_)) 8))), (5, .int (nI (sm (fun h => h) (snoF E (nodF E (mwL1 E sg_ cold_ u_))) 8))), (6, .int (nI 8))] [] (vup μ1.1 79 m_ (nI (sm (fun h => h) (nodF E (mwL1 E sg_ cold_ u_)) 8)), μ1.2)
  refine V_aload_n hX dX9_minute_416 0 rfl ?_
  refine V_getr (j := 80) hX fX9_50 rfl rfl dX9_minute_417 ?_
  refine V_iload_n hX dX9_minute_420 1 rfl ?_
  refine V_iload hX dX9_minute_421 4 rfl ?_
  refine V_iastN hX rfl (by omega) (by decide) dX9_minute_423 ?_
  show V G 11 X 424 [(0, .ref 69), (1, .int (nI m_)), (2, .int (nI sg_)), (3, .int (nI (sm (fun h => h) (nodF E (mwL1 E sg_ cold_ u_)) 8))), (4, .int (nI (sm (fun h => h) (agrF E sg_ (mwL1 E sg_ cold_ u_)) 8))), (5, .int (nI (sm (fun h => h) (snoF E (nodF E (mwL1 E sg_ cold_ u_))) 8))), (6, .int (nI 8))] [] (vup (vup μ1.1 79 m_ (nI (sm (fun h => h) (nodF E (mwL1 E sg_ cold_ u_)) 8))) 80 m_ (nI (sm (fun h => h) (agrF E sg_ (mwL1 E sg_ cold_ u_)) 8)), μ1.2)
  refine V_aload_n hX dX9_minute_424 0 rfl ?_
  refine V_getr (j := 81) hX fX9_53 rfl rfl dX9_minute_425 ?_
  refine V_iload_n hX dX9_minute_428 1 rfl ?_
  refine V_iload hX dX9_minute_429 5 rfl ?_
  refine V_iastN hX rfl (by omega) (by decide) dX9_minute_431 ?_
  show V G 11 X 432 [(0, .ref 69), (1, .int (nI m_)), (2, .int (nI sg_)), (3, .int (nI (sm (fun h => h) (nodF E (mwL1 E sg_ cold_ u_)) 8))), (4, .int (nI (sm (fun h => h) (agrF E sg_ (mwL1 E sg_ cold_ u_)) 8))), (5, .int (nI (sm (fun h => h) (snoF E (nodF E (mwL1 E sg_ cold_ u_))) 8))), (6, .int (nI 8))] [] (vup (vup (vup μ1.1 79 m_ (nI (sm (fun h => h) (nodF E (mwL1 E sg_ cold_ u_)) 8))) 80 m_ (nI (sm (fun h => h) (agrF E sg_ (mwL1 E sg_ cold_ u_)) 8))) 81 m_ (nI (sm (fun h => h) (snoF E (nodF E (mwL1 E sg_ cold_ u_))) 8)), μ1.2)
  refine V_aload_n hX dX9_minute_432 0 rfl ?_
  refine V_dup hX dX9_minute_433 rfl ?_
  refine V_getN (x := nI u_.2.2.1) hX fX9_125 rfl hs2 dX9_minute_434 ?_
  refine V_iload_n hX dX9_minute_437 2 rfl ?_
  refine V_bipush (v := nI 115) hX dX9_minute_438 (by decide) ?_
  refine V_icmp_neN (tgt := 447) hX dX9_minute_440 (by decide) (by omega) (by omega) (fun c440 => ?_) (fun c440 => ?_)
  · refine V_iconst (v := nI 0) hX dX9_minute_447 (by decide) ?_
    refine V_iaddN hX dX9_minute_448 ?_
    refine V_puti hX fX9_125 fw_8_25 rfl dX9_minute_449 ?_
    show V G 11 X 452 [(0, .ref 69), (1, .int (nI m_)), (2, .int (nI sg_)), (3, .int (nI (sm (fun h => h) (nodF E (mwL1 E sg_ cold_ u_)) 8))), (4, .int (nI (sm (fun h => h) (agrF E sg_ (mwL1 E sg_ cold_ u_)) 8))), (5, .int (nI (sm (fun h => h) (snoF E (nodF E (mwL1 E sg_ cold_ u_))) 8))), (6, .int (nI 8))] [] (vup (vup (vup (vup μ1.1 79 m_ (nI (sm (fun h => h) (nodF E (mwL1 E sg_ cold_ u_)) 8))) 80 m_ (nI (sm (fun h => h) (agrF E sg_ (mwL1 E sg_ cold_ u_)) 8))) 81 m_ (nI (sm (fun h => h) (snoF E (nodF E (mwL1 E sg_ cold_ u_))) 8))) 69 25 (nI (u_.2.2.1 + 0)), μ1.2)
    refine V_aload_n hX dX9_minute_452 0 rfl ?_
    refine V_dup hX dX9_minute_453 rfl ?_
    refine V_getN (x := nI u_.2.1) hX fX9_128 rfl hn2 dX9_minute_454 ?_
    refine V_iload_n hX dX9_minute_457 2 rfl ?_
    refine V_bipush (v := nI 110) hX dX9_minute_458 (by decide) ?_
    refine V_icmp_neN (tgt := 467) hX dX9_minute_460 (by decide) (by omega) (by omega) (fun c460 => ?_) (fun c460 => ?_)
    · refine V_iconst (v := nI 0) hX dX9_minute_467 (by decide) ?_
      refine V_iaddN hX dX9_minute_468 ?_
      refine V_puti hX fX9_128 fw_8_26 rfl dX9_minute_469 ?_
      show V G 11 X 472 [(0, .ref 69), (1, .int (nI m_)), (2, .int (nI sg_)), (3, .int (nI (sm (fun h => h) (nodF E (mwL1 E sg_ cold_ u_)) 8))), (4, .int (nI (sm (fun h => h) (agrF E sg_ (mwL1 E sg_ cold_ u_)) 8))), (5, .int (nI (sm (fun h => h) (snoF E (nodF E (mwL1 E sg_ cold_ u_))) 8))), (6, .int (nI 8))] [] (vup (vup (vup (vup (vup μ1.1 79 m_ (nI (sm (fun h => h) (nodF E (mwL1 E sg_ cold_ u_)) 8))) 80 m_ (nI (sm (fun h => h) (agrF E sg_ (mwL1 E sg_ cold_ u_)) 8))) 81 m_ (nI (sm (fun h => h) (snoF E (nodF E (mwL1 E sg_ cold_ u_))) 8))) 69 25 (nI (u_.2.2.1 + 0))) 69 26 (nI (u_.2.1 + 0)), μ1.2)
      refine V_vret hX rfl dX9_minute_472 ?_
      refine hR _ _ (hQ _ ⟨⟨fun a k hk => ?_, by dsimp only; rw [hB.2.2.2.2, hA.2.2]⟩, fun h hh => ?_, ?_, ?_, fun k h7 h8 => ?_, ⟨?_, ?_, ?_⟩, fun x hx => ⟨?_, ?_, ?_⟩, fun h hh => ?_, fun x hx => ?_⟩)
      · have g1 : ¬ (78 ≤ a ∧ a ≤ 82) := fun z => hk (Or.inl z)
        dsimp only
        have g2 : ¬ (a = 69 ∧ k = 26) := fun z => hk (Or.inr (by omega))
        have g3 : ¬ (a = 69 ∧ k = 25) := fun z => hk (Or.inr (by omega))
        rw [vup_get, if_neg g2, vup_get, if_neg g3, vup_row _ _ _ (by omega), vup_row _ _ _ (by omega), vup_row _ _ _ (by omega), hB.1 a (by omega) (by omega), hA.1 a (by omega)]
      · dsimp only; rw [vup_row _ _ _ (by decide), vup_row _ _ _ (by decide), vup_row _ _ _ (by decide), vup_row _ _ _ (by decide), vup_row _ _ _ (by decide), hB.2.1 h hh, if_pos hh]; rfl
      · show _ = nI (u_.2.1 + (if sg_ = 110 then 1 else 0)); rw [if_neg c460]; dsimp only; exact vup_same _ _ _ _
      · show _ = nI (u_.2.2.1 + (if sg_ = 115 then 1 else 0)); rw [if_neg c440]; dsimp only; rw [vup_ne (by decide)]; exact vup_same _ _ _ _
      · dsimp only; rw [vup_ne (by omega), vup_ne (by omega), vup_row _ _ _ (by decide), vup_row _ _ _ (by decide), vup_row _ _ _ (by decide), hB.1 69 (by decide) (by decide), hA.1 69 (by decide)]
      · dsimp only; rw [vup_row _ _ _ (by decide), vup_row _ _ _ (by decide), vup_row _ _ _ (by decide), vup_row _ _ _ (by decide)]; exact vup_same _ _ _ _
      · dsimp only; rw [vup_row _ _ _ (by decide), vup_row _ _ _ (by decide), vup_row _ _ _ (by decide)]; exact vup_same _ _ _ _
      · dsimp only; rw [vup_row _ _ _ (by decide), vup_row _ _ _ (by decide)]; exact vup_same _ _ _ _
      · dsimp only; rw [vup_row _ _ _ (by decide), vup_row _ _ _ (by decide), vup_row _ _ _ (by decide), vup_row _ _ _ (by decide), vup_ne hx, hB.1 79 (by decide) (by decide), hA.1 79 (by decide)]
      · dsimp only; rw [vup_row _ _ _ (by decide), vup_row _ _ _ (by decide), vup_row _ _ _ (by decide), vup_ne hx, vup_row _ _ _ (by decide), hB.1 80 (by decide) (by decide), hA.1 80 (by decide)]
      · dsimp only; rw [vup_row _ _ _ (by decide), vup_row _ _ _ (by decide), vup_ne hx, vup_row _ _ _ (by decide), vup_row _ _ _ (by decide), hB.1 81 (by decide) (by decide), hA.1 81 (by decide)]
      · dsimp only; rw [vup_row _ _ _ (by decide), vup_row _ _ _ (by decide), vup_row _ _ _ (by decide), vup_row _ _ _ (by decide), vup_row _ _ _ (by decide)]; exact hB.2.2.1 h hh
      · dsimp only; rw [vup_row _ _ _ (by decide), vup_row _ _ _ (by decide), vup_row _ _ _ (by decide), vup_row _ _ _ (by decide), vup_row _ _ _ (by decide), hB.2.2.2.1 x hx, hA.1 82 (by decide)]
    · refine V_iconst (v := nI 1) hX dX9_minute_463 (by decide) ?_
      refine V_goto (tgt := 468) hX dX9_minute_464 (by decide) ?_
      refine V_iaddN hX dX9_minute_468 ?_
      refine V_puti hX fX9_128 fw_8_26 rfl dX9_minute_469 ?_
      show V G 11 X 472 [(0, .ref 69), (1, .int (nI m_)), (2, .int (nI sg_)), (3, .int (nI (sm (fun h => h) (nodF E (mwL1 E sg_ cold_ u_)) 8))), (4, .int (nI (sm (fun h => h) (agrF E sg_ (mwL1 E sg_ cold_ u_)) 8))), (5, .int (nI (sm (fun h => h) (snoF E (nodF E (mwL1 E sg_ cold_ u_))) 8))), (6, .int (nI 8))] [] (vup (vup (vup (vup (vup μ1.1 79 m_ (nI (sm (fun h => h) (nodF E (mwL1 E sg_ cold_ u_)) 8))) 80 m_ (nI (sm (fun h => h) (agrF E sg_ (mwL1 E sg_ cold_ u_)) 8))) 81 m_ (nI (sm (fun h => h) (snoF E (nodF E (mwL1 E sg_ cold_ u_))) 8))) 69 25 (nI (u_.2.2.1 + 0))) 69 26 (nI (u_.2.1 + 1)), μ1.2)
      refine V_vret hX rfl dX9_minute_472 ?_
      refine hR _ _ (hQ _ ⟨⟨fun a k hk => ?_, by dsimp only; rw [hB.2.2.2.2, hA.2.2]⟩, fun h hh => ?_, ?_, ?_, fun k h7 h8 => ?_, ⟨?_, ?_, ?_⟩, fun x hx => ⟨?_, ?_, ?_⟩, fun h hh => ?_, fun x hx => ?_⟩)
      · have g1 : ¬ (78 ≤ a ∧ a ≤ 82) := fun z => hk (Or.inl z)
        dsimp only
        have g2 : ¬ (a = 69 ∧ k = 26) := fun z => hk (Or.inr (by omega))
        have g3 : ¬ (a = 69 ∧ k = 25) := fun z => hk (Or.inr (by omega))
        rw [vup_get, if_neg g2, vup_get, if_neg g3, vup_row _ _ _ (by omega), vup_row _ _ _ (by omega), vup_row _ _ _ (by omega), hB.1 a (by omega) (by omega), hA.1 a (by omega)]
      · dsimp only; rw [vup_row _ _ _ (by decide), vup_row _ _ _ (by decide), vup_row _ _ _ (by decide), vup_row _ _ _ (by decide), vup_row _ _ _ (by decide), hB.2.1 h hh, if_pos hh]; rfl
      · show _ = nI (u_.2.1 + (if sg_ = 110 then 1 else 0)); rw [if_pos c460]; dsimp only; exact vup_same _ _ _ _
      · show _ = nI (u_.2.2.1 + (if sg_ = 115 then 1 else 0)); rw [if_neg c440]; dsimp only; rw [vup_ne (by decide)]; exact vup_same _ _ _ _
      · dsimp only; rw [vup_ne (by omega), vup_ne (by omega), vup_row _ _ _ (by decide), vup_row _ _ _ (by decide), vup_row _ _ _ (by decide), hB.1 69 (by decide) (by decide), hA.1 69 (by decide)]
      · dsimp only; rw [vup_row _ _ _ (by decide), vup_row _ _ _ (by decide), vup_row _ _ _ (by decide), vup_row _ _ _ (by decide)]; exact vup_same _ _ _ _
      · dsimp only; rw [vup_row _ _ _ (by decide), vup_row _ _ _ (by decide), vup_row _ _ _ (by decide)]; exact vup_same _ _ _ _
      · dsimp only; rw [vup_row _ _ _ (by decide), vup_row _ _ _ (by decide)]; exact vup_same _ _ _ _
      · dsimp only; rw [vup_row _ _ _ (by decide), vup_row _ _ _ (by decide), vup_row _ _ _ (by decide), vup_row _ _ _ (by decide), vup_ne hx, hB.1 79 (by decide) (by decide), hA.1 79 (by decide)]
      · dsimp only; rw [vup_row _ _ _ (by decide), vup_row _ _ _ (by decide), vup_row _ _ _ (by decide), vup_ne hx, vup_row _ _ _ (by decide), hB.1 80 (by decide) (by decide), hA.1 80 (by decide)]
      · dsimp only; rw [vup_row _ _ _ (by decide), vup_row _ _ _ (by decide), vup_ne hx, vup_row _ _ _ (by decide), vup_row _ _ _ (by decide), hB.1 81 (by decide) (by decide), hA.1 81 (by decide)]
      · dsimp only; rw [vup_row _ _ _ (by decide), vup_row _ _ _ (by decide), vup_row _ _ _ (by decide), vup_row _ _ _ (by decide), vup_row _ _ _ (by decide)]; exact hB.2.2.1 h hh
      · dsimp only; rw [vup_row _ _ _ (by decide), vup_row _ _ _ (by decide), vup_row _ _ _ (by decide), vup_row _ _ _ (by decide), vup_row _ _ _ (by decide), hB.2.2.2.1 x hx, hA.1 82 (by decide)]
  · refine V_iconst (v := nI 1) hX dX9_minute_443 (by decide) ?_
    refine V_goto (tgt := 448) hX dX9_minute_444 (by decide) ?_
    refine V_iaddN hX dX9_minute_448 ?_
    refine V_puti hX fX9_125 fw_8_25 rfl dX9_minute_449 ?_
    show V G 11 X 452 [(0, .ref 69), (1, .int (nI m_)), (2, .int (nI sg_)), (3, .int (nI (sm (fun h => h) (nodF E (mwL1 E sg_ cold_ u_)) 8))), (4, .int (nI (sm (fun h => h) (agrF E sg_ (mwL1 E sg_ cold_ u_)) 8))), (5, .int (nI (sm (fun h => h) (snoF E (nodF E (mwL1 E sg_ cold_ u_))) 8))), (6, .int (nI 8))] [] (vup (vup (vup (vup μ1.1 79 m_ (nI (sm (fun h => h) (nodF E (mwL1 E sg_ cold_ u_)) 8))) 80 m_ (nI (sm (fun h => h) (agrF E sg_ (mwL1 E sg_ cold_ u_)) 8))) 81 m_ (nI (sm (fun h => h) (snoF E (nodF E (mwL1 E sg_ cold_ u_))) 8))) 69 25 (nI (u_.2.2.1 + 1)), μ1.2)
    refine V_aload_n hX dX9_minute_452 0 rfl ?_
    refine V_dup hX dX9_minute_453 rfl ?_
    refine V_getN (x := nI u_.2.1) hX fX9_128 rfl hn2 dX9_minute_454 ?_
    refine V_iload_n hX dX9_minute_457 2 rfl ?_
    refine V_bipush (v := nI 110) hX dX9_minute_458 (by decide) ?_
    refine V_icmp_neN (tgt := 467) hX dX9_minute_460 (by decide) (by omega) (by omega) (fun c460 => ?_) (fun c460 => ?_)
    · refine V_iconst (v := nI 0) hX dX9_minute_467 (by decide) ?_
      refine V_iaddN hX dX9_minute_468 ?_
      refine V_puti hX fX9_128 fw_8_26 rfl dX9_minute_469 ?_
      show V G 11 X 472 [(0, .ref 69), (1, .int (nI m_)), (2, .int (nI sg_)), (3, .int (nI (sm (fun h => h) (nodF E (mwL1 E sg_ cold_ u_)) 8))), (4, .int (nI (sm (fun h => h) (agrF E sg_ (mwL1 E sg_ cold_ u_)) 8))), (5, .int (nI (sm (fun h => h) (snoF E (nodF E (mwL1 E sg_ cold_ u_))) 8))), (6, .int (nI 8))] [] (vup (vup (vup (vup (vup μ1.1 79 m_ (nI (sm (fun h => h) (nodF E (mwL1 E sg_ cold_ u_)) 8))) 80 m_ (nI (sm (fun h => h) (agrF E sg_ (mwL1 E sg_ cold_ u_)) 8))) 81 m_ (nI (sm (fun h => h) (snoF E (nodF E (mwL1 E sg_ cold_ u_))) 8))) 69 25 (nI (u_.2.2.1 + 1))) 69 26 (nI (u_.2.1 + 0)), μ1.2)
      refine V_vret hX rfl dX9_minute_472 ?_
      refine hR _ _ (hQ _ ⟨⟨fun a k hk => ?_, by dsimp only; rw [hB.2.2.2.2, hA.2.2]⟩, fun h hh => ?_, ?_, ?_, fun k h7 h8 => ?_, ⟨?_, ?_, ?_⟩, fun x hx => ⟨?_, ?_, ?_⟩, fun h hh => ?_, fun x hx => ?_⟩)
      · have g1 : ¬ (78 ≤ a ∧ a ≤ 82) := fun z => hk (Or.inl z)
        dsimp only
        have g2 : ¬ (a = 69 ∧ k = 26) := fun z => hk (Or.inr (by omega))
        have g3 : ¬ (a = 69 ∧ k = 25) := fun z => hk (Or.inr (by omega))
        rw [vup_get, if_neg g2, vup_get, if_neg g3, vup_row _ _ _ (by omega), vup_row _ _ _ (by omega), vup_row _ _ _ (by omega), hB.1 a (by omega) (by omega), hA.1 a (by omega)]
      · dsimp only; rw [vup_row _ _ _ (by decide), vup_row _ _ _ (by decide), vup_row _ _ _ (by decide), vup_row _ _ _ (by decide), vup_row _ _ _ (by decide), hB.2.1 h hh, if_pos hh]; rfl
      · show _ = nI (u_.2.1 + (if sg_ = 110 then 1 else 0)); rw [if_neg c460]; dsimp only; exact vup_same _ _ _ _
      · show _ = nI (u_.2.2.1 + (if sg_ = 115 then 1 else 0)); rw [if_pos c440]; dsimp only; rw [vup_ne (by decide)]; exact vup_same _ _ _ _
      · dsimp only; rw [vup_ne (by omega), vup_ne (by omega), vup_row _ _ _ (by decide), vup_row _ _ _ (by decide), vup_row _ _ _ (by decide), hB.1 69 (by decide) (by decide), hA.1 69 (by decide)]
      · dsimp only; rw [vup_row _ _ _ (by decide), vup_row _ _ _ (by decide), vup_row _ _ _ (by decide), vup_row _ _ _ (by decide)]; exact vup_same _ _ _ _
      · dsimp only; rw [vup_row _ _ _ (by decide), vup_row _ _ _ (by decide), vup_row _ _ _ (by decide)]; exact vup_same _ _ _ _
      · dsimp only; rw [vup_row _ _ _ (by decide), vup_row _ _ _ (by decide)]; exact vup_same _ _ _ _
      · dsimp only; rw [vup_row _ _ _ (by decide), vup_row _ _ _ (by decide), vup_row _ _ _ (by decide), vup_row _ _ _ (by decide), vup_ne hx, hB.1 79 (by decide) (by decide), hA.1 79 (by decide)]
      · dsimp only; rw [vup_row _ _ _ (by decide), vup_row _ _ _ (by decide), vup_row _ _ _ (by decide), vup_ne hx, vup_row _ _ _ (by decide), hB.1 80 (by decide) (by decide), hA.1 80 (by decide)]
      · dsimp only; rw [vup_row _ _ _ (by decide), vup_row _ _ _ (by decide), vup_ne hx, vup_row _ _ _ (by decide), vup_row _ _ _ (by decide), hB.1 81 (by decide) (by decide), hA.1 81 (by decide)]
      · dsimp only; rw [vup_row _ _ _ (by decide), vup_row _ _ _ (by decide), vup_row _ _ _ (by decide), vup_row _ _ _ (by decide), vup_row _ _ _ (by decide)]; exact hB.2.2.1 h hh
      · dsimp only; rw [vup_row _ _ _ (by decide), vup_row _ _ _ (by decide), vup_row _ _ _ (by decide), vup_row _ _ _ (by decide), vup_row _ _ _ (by decide), hB.2.2.2.1 x hx, hA.1 82 (by decide)]
    · refine V_iconst (v := nI 1) hX dX9_minute_463 (by decide) ?_
      refine V_goto (tgt := 468) hX dX9_minute_464 (by decide) ?_
      refine V_iaddN hX dX9_minute_468 ?_
      refine V_puti hX fX9_128 fw_8_26 rfl dX9_minute_469 ?_
      show V G 11 X 472 [(0, .ref 69), (1, .int (nI m_)), (2, .int (nI sg_)), (3, .int (nI (sm (fun h => h) (nodF E (mwL1 E sg_ cold_ u_)) 8))), (4, .int (nI (sm (fun h => h) (agrF E sg_ (mwL1 E sg_ cold_ u_)) 8))), (5, .int (nI (sm (fun h => h) (snoF E (nodF E (mwL1 E sg_ cold_ u_))) 8))), (6, .int (nI 8))] [] (vup (vup (vup (vup (vup μ1.1 79 m_ (nI (sm (fun h => h) (nodF E (mwL1 E sg_ cold_ u_)) 8))) 80 m_ (nI (sm (fun h => h) (agrF E sg_ (mwL1 E sg_ cold_ u_)) 8))) 81 m_ (nI (sm (fun h => h) (snoF E (nodF E (mwL1 E sg_ cold_ u_))) 8))) 69 25 (nI (u_.2.2.1 + 1))) 69 26 (nI (u_.2.1 + 1)), μ1.2)
      refine V_vret hX rfl dX9_minute_472 ?_
      refine hR _ _ (hQ _ ⟨⟨fun a k hk => ?_, by dsimp only; rw [hB.2.2.2.2, hA.2.2]⟩, fun h hh => ?_, ?_, ?_, fun k h7 h8 => ?_, ⟨?_, ?_, ?_⟩, fun x hx => ⟨?_, ?_, ?_⟩, fun h hh => ?_, fun x hx => ?_⟩)
      · have g1 : ¬ (78 ≤ a ∧ a ≤ 82) := fun z => hk (Or.inl z)
        dsimp only
        have g2 : ¬ (a = 69 ∧ k = 26) := fun z => hk (Or.inr (by omega))
        have g3 : ¬ (a = 69 ∧ k = 25) := fun z => hk (Or.inr (by omega))
        rw [vup_get, if_neg g2, vup_get, if_neg g3, vup_row _ _ _ (by omega), vup_row _ _ _ (by omega), vup_row _ _ _ (by omega), hB.1 a (by omega) (by omega), hA.1 a (by omega)]
      · dsimp only; rw [vup_row _ _ _ (by decide), vup_row _ _ _ (by decide), vup_row _ _ _ (by decide), vup_row _ _ _ (by decide), vup_row _ _ _ (by decide), hB.2.1 h hh, if_pos hh]; rfl
      · show _ = nI (u_.2.1 + (if sg_ = 110 then 1 else 0)); rw [if_pos c460]; dsimp only; exact vup_same _ _ _ _
      · show _ = nI (u_.2.2.1 + (if sg_ = 115 then 1 else 0)); rw [if_pos c440]; dsimp only; rw [vup_ne (by decide)]; exact vup_same _ _ _ _
      · dsimp only; rw [vup_ne (by omega), vup_ne (by omega), vup_row _ _ _ (by decide), vup_row _ _ _ (by decide), vup_row _ _ _ (by decide), hB.1 69 (by decide) (by decide), hA.1 69 (by decide)]
      · dsimp only; rw [vup_row _ _ _ (by decide), vup_row _ _ _ (by decide), vup_row _ _ _ (by decide), vup_row _ _ _ (by decide)]; exact vup_same _ _ _ _
      · dsimp only; rw [vup_row _ _ _ (by decide), vup_row _ _ _ (by decide), vup_row _ _ _ (by decide)]; exact vup_same _ _ _ _
      · dsimp only; rw [vup_row _ _ _ (by decide), vup_row _ _ _ (by decide)]; exact vup_same _ _ _ _
      · dsimp only; rw [vup_row _ _ _ (by decide), vup_row _ _ _ (by decide), vup_row _ _ _ (by decide), vup_row _ _ _ (by decide), vup_ne hx, hB.1 79 (by decide) (by decide), hA.1 79 (by decide)]
      · dsimp only; rw [vup_row _ _ _ (by decide), vup_row _ _ _ (by decide), vup_row _ _ _ (by decide), vup_ne hx, vup_row _ _ _ (by decide), hB.1 80 (by decide) (by decide), hA.1 80 (by decide)]
      · dsimp only; rw [vup_row _ _ _ (by decide), vup_row _ _ _ (by decide), vup_ne hx, vup_row _ _ _ (by decide), vup_row _ _ _ (by decide), hB.1 81 (by decide) (by decide), hA.1 81 (by decide)]
      · dsimp only; rw [vup_row _ _ _ (by decide), vup_row _ _ _ (by decide), vup_row _ _ _ (by decide), vup_row _ _ _ (by decide), vup_row _ _ _ (by decide)]; exact hB.2.2.1 h hh
      · dsimp only; rw [vup_row _ _ _ (by decide), vup_row _ _ _ (by decide), vup_row _ _ _ (by decide), vup_row _ _ _ (by decide), vup_row _ _ _ (by decide), hB.2.2.2.1 x hx, hA.1 82 (by decide)]
