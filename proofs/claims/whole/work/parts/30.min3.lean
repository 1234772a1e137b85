theorem agr_mk {P : PC} {sg : Nat} {l : Nat → Nat} {h : Nat} (h1 : pPres P h = true) (h2 : ¬ pUpr P h = true) (h3 : ¬ l h = 0) (h4 : sg = 99) (h5 : P 4 h = 1) : agrF P sg l h = true := by
  unfold agrF
  simp [h1, h2, h3, h4, h5]
theorem clampM {z : Int} {A : Nat} (hz : -1000 ≤ z ∧ z ≤ 1000) (hA : A ≤ 1000) : (¬ 0 ≤ zI z → nI (clampN z A) = nI 0) ∧ (0 ≤ zI z → zI z ≤ nI A → nI (clampN z A) = zI z) ∧ (0 ≤ zI z → ¬ zI z ≤ nI A → nI (clampN z A) = nI A) := by
  have e0 : 0 ≤ zI z ↔ 0 ≤ z := by
    rw [show (0 : Int32) = zI 0 from rfl, Int32.le_iff_toInt_le, zI_toInt (by decide) (by decide), zI_toInt (by omega) (by omega)]
  have e1 : zI z ≤ nI A ↔ z ≤ A := by
    rw [zI_nat, Int32.le_iff_toInt_le, zI_toInt (by omega) (by omega), zI_toInt (by omega) (by omega)]
  unfold clampN
  refine ⟨fun h => ?_, fun h g => ?_, fun h g => ?_⟩
  · rw [if_pos (by have : ¬ 0 ≤ z := fun q => h (e0.mpr q); omega)]
  · have h1 := e0.mp h
    have g1 := e1.mp g
    rw [if_neg (by omega), if_neg (by omega), zI_nat, show ((z.toNat : Nat) : Int) = z by omega]
  · have h1 := e0.mp h
    have g1 : ¬ z ≤ A := fun q => g (e1.mpr q)
    rw [if_neg (by omega), if_pos (by omega)]
def cdN (E : PC) (cold : Bool) (k : Nat) : Nat := if cold = true then 0 else E 3 k
theorem dz_ch {E : PC} {sg st nm k : Nat} {cold : Bool} {a : Int} : (a + chZ E sg st nm k) - (cdN E cold k : Int) = a + dzZ E sg st nm cold k := by
  unfold chZ dzZ cdN
  by_cases hc : cold = true
  · rw [if_pos hc, if_pos hc]; omega
  · rw [if_neg hc, if_neg hc]; omega
theorem sm_step {s : Nat → Nat} {f : Nat → Bool} {k : Nat} : sm s f (k + 1) = sm s f k ||| (if f k = true then 1 <<< s k else 0) := by
  show (if f k = true then sm s f k ||| 1 <<< s k else sm s f k) = _
  split
  · rfl
  · rw [Nat.or_zero]
/-- the cold bit of a minute, as it is read -/
def cbOK (cm m : Nat) (cold : Bool) : Prop := (cm < 2 ^ 31 ∧ m < 32 ∧ cold = cm.testBit m) ∨ (cm = 0 ∧ cold = false)
theorem k_hasC {G : VG} {d : Nat} {μ : VS} {Q : Option Value → VS → Prop} {cm m : Nat} {cold : Bool} (h : cbOK cm m cold) (hQ : Q (some (.int (bI (cold = true)))) μ) : Call G d yX9_has cX9_has 2 (some .boolean) [.int (nI cm), .int (nI m)] μ Q := by
  rcases h with ⟨h1, h2, h3⟩ | ⟨h1, h2⟩
  · subst h3
    exact k_has h1 h2 hQ
  · subst h1 h2
    refine k_hasR ?_
    have e : ¬ ((nI 0 >>> (nI m &&& 31)) &&& nI 1 = nI 1) := by
      have : nI 0 >>> (nI m &&& 31) = nI 0 := by
        show (0 : Int32) >>> (nI m &&& 31) = 0
        exact Int32.zero_shiftRight
      rw [this]
      decide
    rw [bI_f e]
    rw [bI_f (by decide)] at hQ
    exact hQ
def lvM (E : PC) (sg st nm : Nat) (cold : Bool) (lev : Nat → Nat) (μ μ1 : VS) (k : Nat) : Prop := (∀ a, a ≠ 78 → μ1.1 a = μ.1 a) ∧ (∀ h, h < 8 → μ1.1 78 h = nI (levK E sg st nm cold lev k h)) ∧ μ1.2 = μ.2
theorem lvM.skip {E : PC} {sg st nm : Nat} {cold : Bool} {lev : Nat → Nat} {μ μ1 : VS} {k : Nat} (h : lvM E sg st nm cold lev μ μ1 k) (hp : ¬ pPres E k = true) : lvM E sg st nm cold lev μ μ1 (k + 1) := lvR.skip (w := 77) h hp
theorem lvM.step {E : PC} {sg st nm : Nat} {cold : Bool} {lev : Nat → Nat} {μ μ1 : VS} {k : Nat} (h : lvM E sg st nm cold lev μ μ1 k) (hp : pPres E k = true) : lvM E sg st nm cold lev μ (vup μ1.1 78 k (nI (clampN ((lev k : Int) + dzZ E sg st nm cold k) (E 2 k))), μ1.2) (k + 1) := lvR.step (w := 77) h hp
set_option maxRecDepth 100000 in
set_option maxHeartbeats 4000000 in
theorem lpM_min1 {G : VG} {d : Nat} {X : VX} {μ : VS} {m_ sg_ st_ nm_ cm_ : Nat} {E : PC} {cold_ : Bool} {lev_ : Nat → Nat} (hX : Cx G (d + 3) yX9_minute cX9_minute 11 none X) (hE0 : isE μ E) (hok : okP E) (hst : μ.1 69 25 = nI st_) (hnm : μ.1 69 26 = nI nm_) (hcm : μ.1 69 19 = nI cm_) (hs100 : st_ ≤ 100) (hn100 : nm_ ≤ 100) (hsg : sg_ < 1000) (hcb : cbOK cm_ m_ cold_) (hlev : ∀ h, h < 8 → lev_ h ≤ 20) (hF : ∀ μ1, lvM E sg_ st_ (nmdN E sg_ nm_) cold_ lev_ μ μ1 8 → V G 11 X 212 [(0, .ref 69), (1, .int (nI m_)), (2, .int (nI sg_)), (3, .int (nI (sm (fun h => h) (nodF E (lev1 E sg_ st_ (nmdN E sg_ nm_) cold_ lev_)) 8))), (4, .int (nI (sm (fun h => h) (agrF E sg_ (lev1 E sg_ st_ (nmdN E sg_ nm_) cold_ lev_)) 8))), (5, .int (nI 8))] [] μ1) : ∀ (j k_ : Nat) (μ1 : VS), k_ ≤ 8 → 9 ≤ k_ + j → lvM E sg_ st_ (nmdN E sg_ nm_) cold_ lev_ μ μ1 k_ → V G 11 X 15 [(0, .ref 69), (1, .int (nI m_)), (2, .int (nI sg_)), (3, .int (nI (sm (fun h => h) (nodF E (lev1 E sg_ st_ (nmdN E sg_ nm_) cold_ lev_)) k_))), (4, .int (nI (sm (fun h => h) (agrF E sg_ (lev1 E sg_ st_ (nmdN E sg_ nm_) cold_ lev_)) k_))), (5, .int (nI k_))] [] μ1 := by
  have h4 := hok.2.2.2.2.1
  have h5 := hok.2.2.2.2.2.1
  intro j
  induction j with
  | zero =>
    intro k_ μ1 h1 h2
    exact absurd h2 (by omega)
  | succ j ih =>
    intro k_ μ1 h1 h2 hV
    have hE : isE μ1 E := hE0.same ⟨fun a k hk => by rw [hV.1 a (by intro e; subst e; exact hk (Or.inl (by omega)))], hV.2.2⟩
    have hst1 : μ1.1 69 25 = nI st_ := by rw [hV.1 69 (by decide)]; exact hst
    have hnm1 : μ1.1 69 26 = nI nm_ := by rw [hV.1 69 (by decide)]; exact hnm
    have hcm1 : μ1.1 69 19 = nI cm_ := by rw [hV.1 69 (by decide)]; exact hcm
    refine V_iload hX dX9_minute_15 5 rfl ?_
    refine V_bipush (v := nI 8) hX dX9_minute_17 (by decide) ?_
    refine V_icmp_geN (tgt := 212) hX dX9_minute_19 (by decide) (by first | omega | exact shl8 (by omega) | (have := (hok.2.2.2.2.2.2.2.1 k_ (by omega)).2.2.2; omega) | (have := clampN_le ((lev_ k_ : Int) + dzZ E sg_ st_ (nmdN E sg_ nm_) cold_ k_) (E 2 k_); have := (hok.2.2.2.2.2.2.2.1 k_ (by omega)).2.1; omega)) (by first | omega | exact shl8 (by omega) | (have := (hok.2.2.2.2.2.2.2.1 k_ (by omega)).2.2.2; omega) | (have := clampN_le ((lev_ k_ : Int) + dzZ E sg_ st_ (nmdN E sg_ nm_) cold_ k_) (E 2 k_); have := (hok.2.2.2.2.2.2.2.1 k_ (by omega)).2.1; omega)) (fun c19 => ?_) (fun c19 => ?_)
    · obtain rfl : k_ = 8 := by omega
      exact hF μ1 hV
    · refine V_aload_n hX dX9_minute_22 0 rfl ?_
      refine V_getN (x := nI (E 0 4)) hX fX9_72 rfl hE.1.1 dX9_minute_23 ?_
      refine V_iload hX dX9_minute_26 5 rfl ?_
      refine V_callS (As := [.int (nI (E 0 4)), .int (nI k_)]) (st := []) hX mX9_79 (k_has (by first | omega | exact shl8 (by omega) | (have := (hok.2.2.2.2.2.2.2.1 k_ (by omega)).2.2.2; omega) | (have := clampN_le ((lev_ k_ : Int) + dzZ E sg_ st_ (nmdN E sg_ nm_) cold_ k_) (E 2 k_); have := (hok.2.2.2.2.2.2.2.1 k_ (by omega)).2.1; omega)) (by first | omega | exact shl8 (by omega) | (have := (hok.2.2.2.2.2.2.2.1 k_ (by omega)).2.2.2; omega) | (have := clampN_le ((lev_ k_ : Int) + dzZ E sg_ st_ (nmdN E sg_ nm_) cold_ k_) (E 2 k_); have := (hok.2.2.2.2.2.2.2.1 k_ (by omega)).2.1; omega)) ?_) rfl (Nat.le_of_ble_eq_true rfl) (Nat.le_of_ble_eq_true rfl) dX9_minute_28
      show V G 11 X 31 [(0, .ref 69), (1, .int (nI m_)), (2, .int (nI sg_)), (3, .int (nI (sm (fun h => h) (nodF E (lev1 E sg_ st_ (nmdN E sg_ nm_) cold_ lev_)) k_))), (4, .int (nI (sm (fun h => h) (agrF E sg_ (lev1 E sg_ st_ (nmdN E sg_ nm_) cold_ lev_)) k_))), (5, .int (nI k_))] [.int (bI ((E 0 4).testBit k_ = true))] μ1
      refine V_if_eqB (tgt := 206) hX dX9_minute_31 (by decide) (fun c31 => ?_) (fun c31 => ?_)
      · refine V_iincN (n := 1) (ls' := [(0, .ref 69), (1, .int (nI m_)), (2, .int (nI sg_)), (3, .int (nI (sm (fun h => h) (nodF E (lev1 E sg_ st_ (nmdN E sg_ nm_) cold_ lev_)) k_))), (4, .int (nI (sm (fun h => h) (agrF E sg_ (lev1 E sg_ st_ (nmdN E sg_ nm_) cold_ lev_)) k_))), (5, .int (nI (k_ + 1)))]) hX dX9_minute_206 5 rfl (by decide) rfl ?_
        refine V_goto (tgt := 15) hX dX9_minute_209 (by decide) ?_
        have hnp : ¬ pPres E k_ = true := c31
        have h9 := ih (k_ + 1) μ1 (by omega) (by omega) (hV.skip hnp)
        rw [sm_n (s := fun h => h) (f := nodF E (lev1 E sg_ st_ (nmdN E sg_ nm_) cold_ lev_)) (k := k_) (fun z => hnp (nod_pres z)), sm_n (s := fun h => h) (f := agrF E sg_ (lev1 E sg_ st_ (nmdN E sg_ nm_) cold_ lev_)) (k := k_) (fun z => hnp (agr_pres z))] at h9
        exact h9
      · refine V_aload_n hX dX9_minute_34 0 rfl ?_
        refine V_getr (j := 78) hX fX9_44 rfl rfl dX9_minute_35 ?_
        refine V_iload hX dX9_minute_38 5 rfl ?_
        refine V_ialdN (x := nI (lev_ k_)) hX rfl (by first | omega | exact shl8 (by omega) | (have := (hok.2.2.2.2.2.2.2.1 k_ (by omega)).2.2.2; omega) | (have := clampN_le ((lev_ k_ : Int) + dzZ E sg_ st_ (nmdN E sg_ nm_) cold_ k_) (E 2 k_); have := (hok.2.2.2.2.2.2.2.1 k_ (by omega)).2.1; omega)) (by decide) ((hV.2.1 k_ (by omega)).trans (by unfold levK; rw [if_neg (by omega)])) dX9_minute_40 ?_
        refine V_aload_n hX dX9_minute_41 0 rfl ?_
        refine V_iload hX dX9_minute_42 5 rfl ?_
        refine V_iload_n hX dX9_minute_44 2 rfl ?_
        refine V_callV (As := [.int (nI k_), .int (nI sg_)]) (st := [.int (nI (lev_ k_))]) hX mX9_134 rfl (kM_change hE hok hst1 hnm1 hs100 hn100 hsg (by omega) ?_) rfl (Nat.le_of_ble_eq_true rfl) (Nat.le_of_ble_eq_true rfl) dX9_minute_45
        show V G 11 X 48 [(0, .ref 69), (1, .int (nI m_)), (2, .int (nI sg_)), (3, .int (nI (sm (fun h => h) (nodF E (lev1 E sg_ st_ (nmdN E sg_ nm_) cold_ lev_)) k_))), (4, .int (nI (sm (fun h => h) (agrF E sg_ (lev1 E sg_ st_ (nmdN E sg_ nm_) cold_ lev_)) k_))), (5, .int (nI k_))] [.int (zI (chZ E sg_ st_ (nmdN E sg_ nm_) k_)), .int (nI (lev_ k_))] μ1
        refine V_iadd hX dX9_minute_48 ?_
        rw [show (nI (lev_ k_)) + (zI (chZ E sg_ st_ (nmdN E sg_ nm_) k_)) = zI ((lev_ k_ : Int) + chZ E sg_ st_ (nmdN E sg_ nm_) k_) from by rw [zI_nat, zI_add]]
        suffices hJ49 : V G 11 X 71 [(0, .ref 69), (1, .int (nI m_)), (2, .int (nI sg_)), (3, .int (nI (sm (fun h => h) (nodF E (lev1 E sg_ st_ (nmdN E sg_ nm_) cold_ lev_)) k_))), (4, .int (nI (sm (fun h => h) (agrF E sg_ (lev1 E sg_ st_ (nmdN E sg_ nm_) cold_ lev_)) k_))), (5, .int (nI k_))] [.int (nI (cdN E cold_ k_)), .int (zI ((lev_ k_ : Int) + chZ E sg_ st_ (nmdN E sg_ nm_) k_))] μ1 by
          refine V_aload_n hX dX9_minute_49 0 rfl ?_
          refine V_getN (x := nI cm_) hX fX9_122 rfl hcm1 dX9_minute_50 ?_
          refine V_iload_n hX dX9_minute_53 1 rfl ?_
          refine V_callS (As := [.int (nI cm_), .int (nI m_)]) (st := [.int (zI ((lev_ k_ : Int) + chZ E sg_ st_ (nmdN E sg_ nm_) k_))]) hX mX9_79 (k_hasC hcb ?_) rfl (Nat.le_of_ble_eq_true rfl) (Nat.le_of_ble_eq_true rfl) dX9_minute_54
          show V G 11 X 57 [(0, .ref 69), (1, .int (nI m_)), (2, .int (nI sg_)), (3, .int (nI (sm (fun h => h) (nodF E (lev1 E sg_ st_ (nmdN E sg_ nm_) cold_ lev_)) k_))), (4, .int (nI (sm (fun h => h) (agrF E sg_ (lev1 E sg_ st_ (nmdN E sg_ nm_) cold_ lev_)) k_))), (5, .int (nI k_))] [.int (bI (cold_ = true)), .int (zI ((lev_ k_ : Int) + chZ E sg_ st_ (nmdN E sg_ nm_) k_))] μ1
          refine V_if_eqB (tgt := 64) hX dX9_minute_57 (by decide) (fun c57 => ?_) (fun c57 => ?_)
          · refine V_aload_n hX dX9_minute_64 0 rfl ?_
            refine V_getr (j := 72) hX fX9_20 rfl rfl dX9_minute_65 ?_
            refine V_iload hX dX9_minute_68 5 rfl ?_
            refine V_ialdN (x := nI (E 3 k_)) hX rfl (by first | omega | exact shl8 (by omega) | (have := (hok.2.2.2.2.2.2.2.1 k_ (by omega)).2.2.2; omega) | (have := clampN_le ((lev_ k_ : Int) + dzZ E sg_ st_ (nmdN E sg_ nm_) cold_ k_) (E 2 k_); have := (hok.2.2.2.2.2.2.2.1 k_ (by omega)).2.1; omega)) (by decide) (hE.2.2.2.1 _ (by omega)) dX9_minute_70 ?_
            rw [show nI (cdN E cold_ k_) = nI (E 3 k_) from by unfold cdN; rw [if_neg c57]] at hJ49
            exact hJ49
          · refine V_iconst (v := nI 0) hX dX9_minute_60 (by decide) ?_
            refine V_goto (tgt := 71) hX dX9_minute_61 (by decide) ?_
            rw [show nI (cdN E cold_ k_) = nI 0 from by unfold cdN; rw [if_pos c57]] at hJ49
            exact hJ49
        refine V_isub hX dX9_minute_71 ?_
        rw [show (zI ((lev_ k_ : Int) + chZ E sg_ st_ (nmdN E sg_ nm_) k_)) - (nI (cdN E cold_ k_)) = zI ((lev_ k_ : Int) + dzZ E sg_ st_ (nmdN E sg_ nm_) cold_ k_) from by rw [zI_nat, zI_sub, dz_ch]]
        refine V_istore (ls' := [(0, .ref 69), (1, .int (nI m_)), (2, .int (nI sg_)), (3, .int (nI (sm (fun h => h) (nodF E (lev1 E sg_ st_ (nmdN E sg_ nm_) cold_ lev_)) k_))), (4, .int (nI (sm (fun h => h) (agrF E sg_ (lev1 E sg_ st_ (nmdN E sg_ nm_) cold_ lev_)) k_))), (5, .int (nI k_)), (6, .int (zI ((lev_ k_ : Int) + dzZ E sg_ st_ (nmdN E sg_ nm_) cold_ k_)))]) hX dX9_minute_72 (by decide) rfl ?_
        refine V_aload_n hX dX9_minute_74 0 rfl ?_
        refine V_getr (j := 78) hX fX9_44 rfl rfl dX9_minute_75 ?_
        refine V_iload hX dX9_minute_78 5 rfl ?_
        suffices hJ80 : V G 11 X 113 [(0, .ref 69), (1, .int (nI m_)), (2, .int (nI sg_)), (3, .int (nI (sm (fun h => h) (nodF E (lev1 E sg_ st_ (nmdN E sg_ nm_) cold_ lev_)) k_))), (4, .int (nI (sm (fun h => h) (agrF E sg_ (lev1 E sg_ st_ (nmdN E sg_ nm_) cold_ lev_)) k_))), (5, .int (nI k_)), (6, .int (zI ((lev_ k_ : Int) + dzZ E sg_ st_ (nmdN E sg_ nm_) cold_ k_)))] [.int (nI (clampN ((lev_ k_ : Int) + dzZ E sg_ st_ (nmdN E sg_ nm_) cold_ k_) (E 2 k_))), .int (nI k_), .ref 78] μ1 by
          refine V_iload hX dX9_minute_80 6 rfl ?_
          refine V_if_ge (tgt := 89) hX dX9_minute_82 (by decide) (fun c82 => ?_) (fun c82 => ?_)
          · refine V_iload hX dX9_minute_89 6 rfl ?_
            refine V_aload_n hX dX9_minute_91 0 rfl ?_
            refine V_getr (j := 71) hX fX9_17 rfl rfl dX9_minute_92 ?_
            refine V_iload hX dX9_minute_95 5 rfl ?_
            refine V_ialdN (x := nI (E 2 k_)) hX rfl (by first | omega | exact shl8 (by omega) | (have := (hok.2.2.2.2.2.2.2.1 k_ (by omega)).2.2.2; omega) | (have := clampN_le ((lev_ k_ : Int) + dzZ E sg_ st_ (nmdN E sg_ nm_) cold_ k_) (E 2 k_); have := (hok.2.2.2.2.2.2.2.1 k_ (by omega)).2.1; omega)) (by decide) (hE.2.2.1 _ (by omega)) dX9_minute_97 ?_
            refine V_icmp_le (tgt := 111) hX dX9_minute_98 (by decide) (fun c98 => ?_) (fun c98 => ?_)
            · refine V_iload hX dX9_minute_111 6 rfl ?_
              rw [show nI (clampN ((lev_ k_ : Int) + dzZ E sg_ st_ (nmdN E sg_ nm_) cold_ k_) (E 2 k_)) = zI ((lev_ k_ : Int) + dzZ E sg_ st_ (nmdN E sg_ nm_) cold_ k_) from (clampM (by have := dz_bd hok (sg := sg_) (st := st_) (nm := nmdN E sg_ nm_) (cold := cold_) (h := k_) (by omega); have := hlev k_ (by omega); omega) (by have := (hok.2.2.2.2.2.2.2.1 k_ (by omega)).2.1; omega)).2.1 c82 c98] at hJ80
              exact hJ80
            · refine V_aload_n hX dX9_minute_101 0 rfl ?_
              refine V_getr (j := 71) hX fX9_17 rfl rfl dX9_minute_102 ?_
              refine V_iload hX dX9_minute_105 5 rfl ?_
              refine V_ialdN (x := nI (E 2 k_)) hX rfl (by first | omega | exact shl8 (by omega) | (have := (hok.2.2.2.2.2.2.2.1 k_ (by omega)).2.2.2; omega) | (have := clampN_le ((lev_ k_ : Int) + dzZ E sg_ st_ (nmdN E sg_ nm_) cold_ k_) (E 2 k_); have := (hok.2.2.2.2.2.2.2.1 k_ (by omega)).2.1; omega)) (by decide) (hE.2.2.1 _ (by omega)) dX9_minute_107 ?_
              refine V_goto (tgt := 113) hX dX9_minute_108 (by decide) ?_
              rw [show nI (clampN ((lev_ k_ : Int) + dzZ E sg_ st_ (nmdN E sg_ nm_) cold_ k_) (E 2 k_)) = nI (E 2 k_) from (clampM (by have := dz_bd hok (sg := sg_) (st := st_) (nm := nmdN E sg_ nm_) (cold := cold_) (h := k_) (by omega); have := hlev k_ (by omega); omega) (by have := (hok.2.2.2.2.2.2.2.1 k_ (by omega)).2.1; omega)).2.2 c82 c98] at hJ80
              exact hJ80
          · refine V_iconst (v := nI 0) hX dX9_minute_85 (by decide) ?_
            refine V_goto (tgt := 113) hX dX9_minute_86 (by decide) ?_
            rw [show nI (clampN ((lev_ k_ : Int) + dzZ E sg_ st_ (nmdN E sg_ nm_) cold_ k_) (E 2 k_)) = nI 0 from (clampM (by have := dz_bd hok (sg := sg_) (st := st_) (nm := nmdN E sg_ nm_) (cold := cold_) (h := k_) (by omega); have := hlev k_ (by omega); omega) (by have := (hok.2.2.2.2.2.2.2.1 k_ (by omega)).2.1; omega)).1 c82] at hJ80
            exact hJ80
        refine V_iastN hX rfl (by first | omega | exact shl8 (by omega) | (have := (hok.2.2.2.2.2.2.2.1 k_ (by omega)).2.2.2; omega) | (have := clampN_le ((lev_ k_ : Int) + dzZ E sg_ st_ (nmdN E sg_ nm_) cold_ k_) (E 2 k_); have := (hok.2.2.2.2.2.2.2.1 k_ (by omega)).2.1; omega)) (by decide) dX9_minute_113 ?_
        show V G 11 X 114 [(0, .ref 69), (1, .int (nI m_)), (2, .int (nI sg_)), (3, .int (nI (sm (fun h => h) (nodF E (lev1 E sg_ st_ (nmdN E sg_ nm_) cold_ lev_)) k_))), (4, .int (nI (sm (fun h => h) (agrF E sg_ (lev1 E sg_ st_ (nmdN E sg_ nm_) cold_ lev_)) k_))), (5, .int (nI k_)), (6, .int (zI ((lev_ k_ : Int) + dzZ E sg_ st_ (nmdN E sg_ nm_) cold_ k_)))] [] (vup μ1.1 78 k_ (nI (clampN ((lev_ k_ : Int) + dzZ E sg_ st_ (nmdN E sg_ nm_) cold_ k_) (E 2 k_))), μ1.2)
        suffices hJ114 : V G 11 X 141 [(0, .ref 69), (1, .int (nI m_)), (2, .int (nI sg_)), (3, .int (nI (sm (fun h => h) (nodF E (lev1 E sg_ st_ (nmdN E sg_ nm_) cold_ lev_)) k_))), (4, .int (nI (sm (fun h => h) (agrF E sg_ (lev1 E sg_ st_ (nmdN E sg_ nm_) cold_ lev_)) k_))), (5, .int (nI k_)), (6, .int (zI ((lev_ k_ : Int) + dzZ E sg_ st_ (nmdN E sg_ nm_) cold_ k_)))] [.int (bI (nodF E (lev1 E sg_ st_ (nmdN E sg_ nm_) cold_ lev_) k_ = true))] (vup μ1.1 78 k_ (nI (clampN ((lev_ k_ : Int) + dzZ E sg_ st_ (nmdN E sg_ nm_) cold_ k_) (E 2 k_))), μ1.2) by
          refine V_aload_n hX dX9_minute_114 0 rfl ?_
          refine V_getr (j := 78) hX fX9_44 rfl rfl dX9_minute_115 ?_
          refine V_iload hX dX9_minute_118 5 rfl ?_
          refine V_ialdN (x := nI (clampN ((lev_ k_ : Int) + dzZ E sg_ st_ (nmdN E sg_ nm_) cold_ k_) (E 2 k_))) hX rfl (by first | omega | exact shl8 (by omega) | (have := (hok.2.2.2.2.2.2.2.1 k_ (by omega)).2.2.2; omega) | (have := clampN_le ((lev_ k_ : Int) + dzZ E sg_ st_ (nmdN E sg_ nm_) cold_ k_) (E 2 k_); have := (hok.2.2.2.2.2.2.2.1 k_ (by omega)).2.1; omega)) (by decide) (by dsimp only; exact vup_same _ _ _ _) dX9_minute_120 ?_
          refine V_if_neN (tgt := 140) hX dX9_minute_121 (by decide) (by first | omega | exact shl8 (by omega) | (have := (hok.2.2.2.2.2.2.2.1 k_ (by omega)).2.2.2; omega) | (have := clampN_le ((lev_ k_ : Int) + dzZ E sg_ st_ (nmdN E sg_ nm_) cold_ k_) (E 2 k_); have := (hok.2.2.2.2.2.2.2.1 k_ (by omega)).2.1; omega)) (fun c121 => ?_) (fun c121 => ?_)
          · refine V_iconst (v := nI 0) hX dX9_minute_140 (by decide) ?_
            rw [show bI (nodF E (lev1 E sg_ st_ (nmdN E sg_ nm_) cold_ lev_) k_ = true) = nI 0 from bI_f (by unfold nodF; rw [show lev1 E sg_ st_ (nmdN E sg_ nm_) cold_ lev_ k_ = clampN ((lev_ k_ : Int) + dzZ E sg_ st_ (nmdN E sg_ nm_) cold_ k_) (E 2 k_) from if_pos c31]; simp [c121])] at hJ114
            exact hJ114
          · refine V_aload_n hX dX9_minute_124 0 rfl ?_
            refine V_getN (x := nI (E 0 5)) hX fX9_116 rfl hE.1.2.1 dX9_minute_125 ?_
            refine V_iload hX dX9_minute_128 5 rfl ?_
            refine V_callS (As := [.int (nI (E 0 5)), .int (nI k_)]) (st := []) hX mX9_79 (k_has (by first | omega | exact shl8 (by omega) | (have := (hok.2.2.2.2.2.2.2.1 k_ (by omega)).2.2.2; omega) | (have := clampN_le ((lev_ k_ : Int) + dzZ E sg_ st_ (nmdN E sg_ nm_) cold_ k_) (E 2 k_); have := (hok.2.2.2.2.2.2.2.1 k_ (by omega)).2.1; omega)) (by first | omega | exact shl8 (by omega) | (have := (hok.2.2.2.2.2.2.2.1 k_ (by omega)).2.2.2; omega) | (have := clampN_le ((lev_ k_ : Int) + dzZ E sg_ st_ (nmdN E sg_ nm_) cold_ k_) (E 2 k_); have := (hok.2.2.2.2.2.2.2.1 k_ (by omega)).2.1; omega)) ?_) rfl (Nat.le_of_ble_eq_true rfl) (Nat.le_of_ble_eq_true rfl) dX9_minute_130
            show V G 11 X 133 [(0, .ref 69), (1, .int (nI m_)), (2, .int (nI sg_)), (3, .int (nI (sm (fun h => h) (nodF E (lev1 E sg_ st_ (nmdN E sg_ nm_) cold_ lev_)) k_))), (4, .int (nI (sm (fun h => h) (agrF E sg_ (lev1 E sg_ st_ (nmdN E sg_ nm_) cold_ lev_)) k_))), (5, .int (nI k_)), (6, .int (zI ((lev_ k_ : Int) + dzZ E sg_ st_ (nmdN E sg_ nm_) cold_ k_)))] [.int (bI ((E 0 5).testBit k_ = true))] (vup μ1.1 78 k_ (nI (clampN ((lev_ k_ : Int) + dzZ E sg_ st_ (nmdN E sg_ nm_) cold_ k_) (E 2 k_))), μ1.2)
            refine V_if_neB (tgt := 140) hX dX9_minute_133 (by decide) (fun c133 => ?_) (fun c133 => ?_)
            · refine V_iconst (v := nI 0) hX dX9_minute_140 (by decide) ?_
              rw [show bI (nodF E (lev1 E sg_ st_ (nmdN E sg_ nm_) cold_ lev_) k_ = true) = nI 0 from bI_f (by unfold nodF; rw [show lev1 E sg_ st_ (nmdN E sg_ nm_) cold_ lev_ k_ = clampN ((lev_ k_ : Int) + dzZ E sg_ st_ (nmdN E sg_ nm_) cold_ k_) (E 2 k_) from if_pos c31]; simp [show pUpr E k_ = true from c133])] at hJ114
              exact hJ114
            · refine V_iconst (v := nI 1) hX dX9_minute_136 (by decide) ?_
              refine V_goto (tgt := 141) hX dX9_minute_137 (by decide) ?_
              rw [show bI (nodF E (lev1 E sg_ st_ (nmdN E sg_ nm_) cold_ lev_) k_ = true) = nI 1 from bI_t (by unfold nodF; rw [show lev1 E sg_ st_ (nmdN E sg_ nm_) cold_ lev_ k_ = clampN ((lev_ k_ : Int) + dzZ E sg_ st_ (nmdN E sg_ nm_) cold_ k_) (E 2 k_) from if_pos c31]; simp [show pPres E k_ = true from c31, show ¬ pUpr E k_ = true from c133, c121])] at hJ114
              exact hJ114
        refine V_istore (ls' := [(0, .ref 69), (1, .int (nI m_)), (2, .int (nI sg_)), (3, .int (nI (sm (fun h => h) (nodF E (lev1 E sg_ st_ (nmdN E sg_ nm_) cold_ lev_)) k_))), (4, .int (nI (sm (fun h => h) (agrF E sg_ (lev1 E sg_ st_ (nmdN E sg_ nm_) cold_ lev_)) k_))), (5, .int (nI k_)), (6, .int (zI ((lev_ k_ : Int) + dzZ E sg_ st_ (nmdN E sg_ nm_) cold_ k_))), (7, .int (bI (nodF E (lev1 E sg_ st_ (nmdN E sg_ nm_) cold_ lev_) k_ = true)))]) hX dX9_minute_141 (by decide) rfl ?_
        refine V_iload_n hX dX9_minute_143 3 rfl ?_
        suffices hJ144 : V G 11 X 157 [(0, .ref 69), (1, .int (nI m_)), (2, .int (nI sg_)), (3, .int (nI (sm (fun h => h) (nodF E (lev1 E sg_ st_ (nmdN E sg_ nm_) cold_ lev_)) k_))), (4, .int (nI (sm (fun h => h) (agrF E sg_ (lev1 E sg_ st_ (nmdN E sg_ nm_) cold_ lev_)) k_))), (5, .int (nI k_)), (6, .int (zI ((lev_ k_ : Int) + dzZ E sg_ st_ (nmdN E sg_ nm_) cold_ k_))), (7, .int (bI (nodF E (lev1 E sg_ st_ (nmdN E sg_ nm_) cold_ lev_) k_ = true)))] [.int (nI (if nodF E (lev1 E sg_ st_ (nmdN E sg_ nm_) cold_ lev_) k_ = true then 1 <<< k_ else 0)), .int (nI (sm (fun h => h) (nodF E (lev1 E sg_ st_ (nmdN E sg_ nm_) cold_ lev_)) k_))] (vup μ1.1 78 k_ (nI (clampN ((lev_ k_ : Int) + dzZ E sg_ st_ (nmdN E sg_ nm_) cold_ k_) (E 2 k_))), μ1.2) by
          refine V_iload hX dX9_minute_144 7 rfl ?_
          refine V_if_eqB (tgt := 156) hX dX9_minute_146 (by decide) (fun c146 => ?_) (fun c146 => ?_)
          · refine V_iconst (v := nI 0) hX dX9_minute_156 (by decide) ?_
            rw [show nI (if nodF E (lev1 E sg_ st_ (nmdN E sg_ nm_) cold_ lev_) k_ = true then 1 <<< k_ else 0) = nI 0 from by rw [if_neg c146]] at hJ144
            exact hJ144
          · refine V_iconst (v := nI 1) hX dX9_minute_149 (by decide) ?_
            refine V_iload hX dX9_minute_150 5 rfl ?_
            refine V_ishlN hX dX9_minute_152 (by first | omega | exact shl8 (by omega) | (have := (hok.2.2.2.2.2.2.2.1 k_ (by omega)).2.2.2; omega) | (have := clampN_le ((lev_ k_ : Int) + dzZ E sg_ st_ (nmdN E sg_ nm_) cold_ k_) (E 2 k_); have := (hok.2.2.2.2.2.2.2.1 k_ (by omega)).2.1; omega)) (by first | omega | exact shl8 (by omega) | (have := (hok.2.2.2.2.2.2.2.1 k_ (by omega)).2.2.2; omega) | (have := clampN_le ((lev_ k_ : Int) + dzZ E sg_ st_ (nmdN E sg_ nm_) cold_ k_) (E 2 k_); have := (hok.2.2.2.2.2.2.2.1 k_ (by omega)).2.1; omega)) ?_
            refine V_goto (tgt := 157) hX dX9_minute_153 (by decide) ?_
            rw [show nI (if nodF E (lev1 E sg_ st_ (nmdN E sg_ nm_) cold_ lev_) k_ = true then 1 <<< k_ else 0) = nI (1 <<< k_) from by rw [if_pos c146]] at hJ144
            exact hJ144
        refine V_iorN hX dX9_minute_157 ?_
        refine V_istore_n (ls' := [(0, .ref 69), (1, .int (nI m_)), (2, .int (nI sg_)), (3, .int (nI ((sm (fun h => h) (nodF E (lev1 E sg_ st_ (nmdN E sg_ nm_) cold_ lev_)) k_) ||| (if nodF E (lev1 E sg_ st_ (nmdN E sg_ nm_) cold_ lev_) k_ = true then 1 <<< k_ else 0)))), (4, .int (nI (sm (fun h => h) (agrF E sg_ (lev1 E sg_ st_ (nmdN E sg_ nm_) cold_ lev_)) k_))), (5, .int (nI k_)), (6, .int (zI ((lev_ k_ : Int) + dzZ E sg_ st_ (nmdN E sg_ nm_) cold_ k_))), (7, .int (bI (nodF E (lev1 E sg_ st_ (nmdN E sg_ nm_) cold_ lev_) k_ = true)))]) hX dX9_minute_158 (by decide) rfl ?_
        refine V_ls (ls' := [(0, .ref 69), (1, .int (nI m_)), (2, .int (nI sg_)), (3, .int (nI (sm (fun h => h) (nodF E (lev1 E sg_ st_ (nmdN E sg_ nm_) cold_ lev_)) (k_ + 1)))), (4, .int (nI (sm (fun h => h) (agrF E sg_ (lev1 E sg_ st_ (nmdN E sg_ nm_) cold_ lev_)) k_))), (5, .int (nI k_)), (6, .int (zI ((lev_ k_ : Int) + dzZ E sg_ st_ (nmdN E sg_ nm_) cold_ k_))), (7, .int (bI (nodF E (lev1 E sg_ st_ (nmdN E sg_ nm_) cold_ lev_) k_ = true)))]) (by rw [sm_step (f := nodF E (lev1 E sg_ st_ (nmdN E sg_ nm_) cold_ lev_))]) ?_
        refine V_iload hX dX9_minute_159 4 rfl ?_
        suffices hJ161 : V G 11 X 203 [(0, .ref 69), (1, .int (nI m_)), (2, .int (nI sg_)), (3, .int (nI (sm (fun h => h) (nodF E (lev1 E sg_ st_ (nmdN E sg_ nm_) cold_ lev_)) (k_ + 1)))), (4, .int (nI (sm (fun h => h) (agrF E sg_ (lev1 E sg_ st_ (nmdN E sg_ nm_) cold_ lev_)) k_))), (5, .int (nI k_)), (6, .int (zI ((lev_ k_ : Int) + dzZ E sg_ st_ (nmdN E sg_ nm_) cold_ k_))), (7, .int (bI (nodF E (lev1 E sg_ st_ (nmdN E sg_ nm_) cold_ lev_) k_ = true)))] [.int (nI (if agrF E sg_ (lev1 E sg_ st_ (nmdN E sg_ nm_) cold_ lev_) k_ = true then 1 <<< k_ else 0)), .int (nI (sm (fun h => h) (agrF E sg_ (lev1 E sg_ st_ (nmdN E sg_ nm_) cold_ lev_)) k_))] (vup μ1.1 78 k_ (nI (clampN ((lev_ k_ : Int) + dzZ E sg_ st_ (nmdN E sg_ nm_) cold_ k_) (E 2 k_))), μ1.2) by
          refine V_iload_n hX dX9_minute_161 2 rfl ?_
          refine V_bipush (v := nI 99) hX dX9_minute_162 (by decide) ?_
          refine V_icmp_neN (tgt := 202) hX dX9_minute_164 (by decide) (by first | omega | exact shl8 (by omega) | (have := (hok.2.2.2.2.2.2.2.1 k_ (by omega)).2.2.2; omega) | (have := clampN_le ((lev_ k_ : Int) + dzZ E sg_ st_ (nmdN E sg_ nm_) cold_ k_) (E 2 k_); have := (hok.2.2.2.2.2.2.2.1 k_ (by omega)).2.1; omega)) (by first | omega | exact shl8 (by omega) | (have := (hok.2.2.2.2.2.2.2.1 k_ (by omega)).2.2.2; omega) | (have := clampN_le ((lev_ k_ : Int) + dzZ E sg_ st_ (nmdN E sg_ nm_) cold_ k_) (E 2 k_); have := (hok.2.2.2.2.2.2.2.1 k_ (by omega)).2.1; omega)) (fun c164 => ?_) (fun c164 => ?_)
          · refine V_iconst (v := nI 0) hX dX9_minute_202 (by decide) ?_
            rw [show nI (if agrF E sg_ (lev1 E sg_ st_ (nmdN E sg_ nm_) cold_ lev_) k_ = true then 1 <<< k_ else 0) = nI 0 from by rw [if_neg (by unfold agrF; simp [c164])]] at hJ161
            exact hJ161
          · refine V_aload_n hX dX9_minute_167 0 rfl ?_
            refine V_getr (j := 73) hX fX9_23 rfl rfl dX9_minute_168 ?_
            refine V_iload hX dX9_minute_171 5 rfl ?_
            refine V_ialdN (x := nI (E 4 k_)) hX rfl (by first | omega | exact shl8 (by omega) | (have := (hok.2.2.2.2.2.2.2.1 k_ (by omega)).2.2.2; omega) | (have := clampN_le ((lev_ k_ : Int) + dzZ E sg_ st_ (nmdN E sg_ nm_) cold_ k_) (E 2 k_); have := (hok.2.2.2.2.2.2.2.1 k_ (by omega)).2.1; omega)) (by decide) (hE.2.2.2.2 _ (by omega)) dX9_minute_173 ?_
            refine V_iconst (v := nI 1) hX dX9_minute_174 (by decide) ?_
            refine V_icmp_neN (tgt := 202) hX dX9_minute_175 (by decide) (by first | omega | exact shl8 (by omega) | (have := (hok.2.2.2.2.2.2.2.1 k_ (by omega)).2.2.2; omega) | (have := clampN_le ((lev_ k_ : Int) + dzZ E sg_ st_ (nmdN E sg_ nm_) cold_ k_) (E 2 k_); have := (hok.2.2.2.2.2.2.2.1 k_ (by omega)).2.1; omega)) (by first | omega | exact shl8 (by omega) | (have := (hok.2.2.2.2.2.2.2.1 k_ (by omega)).2.2.2; omega) | (have := clampN_le ((lev_ k_ : Int) + dzZ E sg_ st_ (nmdN E sg_ nm_) cold_ k_) (E 2 k_); have := (hok.2.2.2.2.2.2.2.1 k_ (by omega)).2.1; omega)) (fun c175 => ?_) (fun c175 => ?_)
            · refine V_iconst (v := nI 0) hX dX9_minute_202 (by decide) ?_
              rw [show nI (if agrF E sg_ (lev1 E sg_ st_ (nmdN E sg_ nm_) cold_ lev_) k_ = true then 1 <<< k_ else 0) = nI 0 from by rw [if_neg (by unfold agrF; simp [c175])]] at hJ161
              exact hJ161
            · refine V_aload_n hX dX9_minute_178 0 rfl ?_
              refine V_getN (x := nI (E 0 5)) hX fX9_116 rfl hE.1.2.1 dX9_minute_179 ?_
              refine V_iload hX dX9_minute_182 5 rfl ?_
              refine V_callS (As := [.int (nI (E 0 5)), .int (nI k_)]) (st := [.int (nI (sm (fun h => h) (agrF E sg_ (lev1 E sg_ st_ (nmdN E sg_ nm_) cold_ lev_)) k_))]) hX mX9_79 (k_has (by first | omega | exact shl8 (by omega) | (have := (hok.2.2.2.2.2.2.2.1 k_ (by omega)).2.2.2; omega) | (have := clampN_le ((lev_ k_ : Int) + dzZ E sg_ st_ (nmdN E sg_ nm_) cold_ k_) (E 2 k_); have := (hok.2.2.2.2.2.2.2.1 k_ (by omega)).2.1; omega)) (by first | omega | exact shl8 (by omega) | (have := (hok.2.2.2.2.2.2.2.1 k_ (by omega)).2.2.2; omega) | (have := clampN_le ((lev_ k_ : Int) + dzZ E sg_ st_ (nmdN E sg_ nm_) cold_ k_) (E 2 k_); have := (hok.2.2.2.2.2.2.2.1 k_ (by omega)).2.1; omega)) ?_) rfl (Nat.le_of_ble_eq_true rfl) (Nat.le_of_ble_eq_true rfl) dX9_minute_184
              show V G 11 X 187 [(0, .ref 69), (1, .int (nI m_)), (2, .int (nI sg_)), (3, .int (nI (sm (fun h => h) (nodF E (lev1 E sg_ st_ (nmdN E sg_ nm_) cold_ lev_)) (k_ + 1)))), (4, .int (nI (sm (fun h => h) (agrF E sg_ (lev1 E sg_ st_ (nmdN E sg_ nm_) cold_ lev_)) k_))), (5, .int (nI k_)), (6, .int (zI ((lev_ k_ : Int) + dzZ E sg_ st_ (nmdN E sg_ nm_) cold_ k_))), (7, .int (bI (nodF E (lev1 E sg_ st_ (nmdN E sg_ nm_) cold_ lev_) k_ = true)))] [.int (bI ((E 0 5).testBit k_ = true)), .int (nI (sm (fun h => h) (agrF E sg_ (lev1 E sg_ st_ (nmdN E sg_ nm_) cold_ lev_)) k_))] (vup μ1.1 78 k_ (nI (clampN ((lev_ k_ : Int) + dzZ E sg_ st_ (nmdN E sg_ nm_) cold_ k_) (E 2 k_))), μ1.2)
              refine V_if_neB (tgt := 202) hX dX9_minute_187 (by decide) (fun c187 => ?_) (fun c187 => ?_)
              · refine V_iconst (v := nI 0) hX dX9_minute_202 (by decide) ?_
                rw [show nI (if agrF E sg_ (lev1 E sg_ st_ (nmdN E sg_ nm_) cold_ lev_) k_ = true then 1 <<< k_ else 0) = nI 0 from by rw [if_neg (by unfold agrF; simp [show pUpr E k_ = true from c187])]] at hJ161
                exact hJ161
              · refine V_iload hX dX9_minute_190 7 rfl ?_
                refine V_if_neB (tgt := 202) hX dX9_minute_192 (by decide) (fun c192 => ?_) (fun c192 => ?_)
                · refine V_iconst (v := nI 0) hX dX9_minute_202 (by decide) ?_
                  rw [show nI (if agrF E sg_ (lev1 E sg_ st_ (nmdN E sg_ nm_) cold_ lev_) k_ = true then 1 <<< k_ else 0) = nI 0 from by rw [if_neg (by have z := c192; unfold nodF at z; unfold agrF; simp only [Bool.and_eq_true, decide_eq_true_eq] at z; simp [z.2])]] at hJ161
                  exact hJ161
                · refine V_iconst (v := nI 1) hX dX9_minute_195 (by decide) ?_
                  refine V_iload hX dX9_minute_196 5 rfl ?_
                  refine V_ishlN hX dX9_minute_198 (by first | omega | exact shl8 (by omega) | (have := (hok.2.2.2.2.2.2.2.1 k_ (by omega)).2.2.2; omega) | (have := clampN_le ((lev_ k_ : Int) + dzZ E sg_ st_ (nmdN E sg_ nm_) cold_ k_) (E 2 k_); have := (hok.2.2.2.2.2.2.2.1 k_ (by omega)).2.1; omega)) (by first | omega | exact shl8 (by omega) | (have := (hok.2.2.2.2.2.2.2.1 k_ (by omega)).2.2.2; omega) | (have := clampN_le ((lev_ k_ : Int) + dzZ E sg_ st_ (nmdN E sg_ nm_) cold_ k_) (E 2 k_); have := (hok.2.2.2.2.2.2.2.1 k_ (by omega)).2.1; omega)) ?_
                  refine V_goto (tgt := 203) hX dX9_minute_199 (by decide) ?_
                  rw [show nI (if agrF E sg_ (lev1 E sg_ st_ (nmdN E sg_ nm_) cold_ lev_) k_ = true then 1 <<< k_ else 0) = nI (1 <<< k_) from by have hl : ¬ (lev1 E sg_ st_ (nmdN E sg_ nm_) cold_ lev_ k_ = 0) := fun q => c192 (by unfold nodF; simp [show pPres E k_ = true from c31, show ¬ pUpr E k_ = true from c187, q]); rw [if_pos (agr_mk c31 c187 hl c164 c175)]] at hJ161
                  exact hJ161
        refine V_iorN hX dX9_minute_203 ?_
        refine V_istore (ls' := [(0, .ref 69), (1, .int (nI m_)), (2, .int (nI sg_)), (3, .int (nI (sm (fun h => h) (nodF E (lev1 E sg_ st_ (nmdN E sg_ nm_) cold_ lev_)) (k_ + 1)))), (4, .int (nI ((sm (fun h => h) (agrF E sg_ (lev1 E sg_ st_ (nmdN E sg_ nm_) cold_ lev_)) k_) ||| (if agrF E sg_ (lev1 E sg_ st_ (nmdN E sg_ nm_) cold_ lev_) k_ = true then 1 <<< k_ else 0)))), (5, .int (nI k_)), (6, .int (zI ((lev_ k_ : Int) + dzZ E sg_ st_ (nmdN E sg_ nm_) cold_ k_))), (7, .int (bI (nodF E (lev1 E sg_ st_ (nmdN E sg_ nm_) cold_ lev_) k_ = true)))]) hX dX9_minute_204 (by decide) rfl ?_
        refine V_ls (ls' := [(0, .ref 69), (1, .int (nI m_)), (2, .int (nI sg_)), (3, .int (nI (sm (fun h => h) (nodF E (lev1 E sg_ st_ (nmdN E sg_ nm_) cold_ lev_)) (k_ + 1)))), (4, .int (nI (sm (fun h => h) (agrF E sg_ (lev1 E sg_ st_ (nmdN E sg_ nm_) cold_ lev_)) (k_ + 1)))), (5, .int (nI k_)), (6, .int (zI ((lev_ k_ : Int) + dzZ E sg_ st_ (nmdN E sg_ nm_) cold_ k_))), (7, .int (bI (nodF E (lev1 E sg_ st_ (nmdN E sg_ nm_) cold_ lev_) k_ = true)))]) (by rw [sm_step (f := agrF E sg_ (lev1 E sg_ st_ (nmdN E sg_ nm_) cold_ lev_))]) ?_
        refine V_iincN (n := 1) (ls' := [(0, .ref 69), (1, .int (nI m_)), (2, .int (nI sg_)), (3, .int (nI (sm (fun h => h) (nodF E (lev1 E sg_ st_ (nmdN E sg_ nm_) cold_ lev_)) (k_ + 1)))), (4, .int (nI (sm (fun h => h) (agrF E sg_ (lev1 E sg_ st_ (nmdN E sg_ nm_) cold_ lev_)) (k_ + 1)))), (5, .int (nI (k_ + 1))), (6, .int (zI ((lev_ k_ : Int) + dzZ E sg_ st_ (nmdN E sg_ nm_) cold_ k_))), (7, .int (bI (nodF E (lev1 E sg_ st_ (nmdN E sg_ nm_) cold_ lev_) k_ = true)))]) hX dX9_minute_206 5 rfl (by decide) rfl ?_
        refine V_goto (tgt := 15) hX dX9_minute_209 (by decide) ?_
        exact V_sub [0, 1, 2, 3, 4, 5] rfl (ih (k_ + 1) _ (by omega) (by omega) (hV.step c31))
