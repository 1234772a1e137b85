def dpB (P : PC) (S : Nat → Nat) (h w m : Nat) : Bool := agrF P (S m) (lAt P S m) h || (decide (w = 0) && nodF P (lAt P S m) h)
def dipsS (P : PC) (L : Nat) (S : Nat → Nat) (h w : Int32) : Int32 := if thr P h then (if inZ w 0 1 then (if fltU S L = -6 then nI (sm (fun m => m) (dpB P S h.toNatClampNeg w.toNatClampNeg) (min L 30)) else -5) else -2) else -1
theorem dp_or0 {P : PC} {S : Nat → Nat} {h m : Nat} : (nodF P (lAt P S m) h || agrF P (S m) (lAt P S m) h) = dpB P S h 0 m := by
  unfold dpB; rw [Bool.or_comm]; rfl
theorem dp_or1 {P : PC} {S : Nat → Nat} {h m : Nat} : agrF P (S m) (lAt P S m) h = dpB P S h 1 m := by
  unfold dpB; rw [show decide (1 = 0) = false from rfl, Bool.false_and, Bool.or_false]
theorem and1_le (x : Nat) : x &&& 1 ≤ 1 := Nat.and_le_right
theorem sh1_lt {x k : Nat} (hk : k < 32) : (x &&& 1) * 2 ^ k < 2 ^ 32 := by
  have h1 := and1_le x
  have h2 : 2 ^ k ≤ 2 ^ 31 := Nat.pow_le_pow_right (by decide) (by omega)
  rcases (by omega : x &&& 1 = 0 ∨ x &&& 1 = 1) with e | e <;> rw [e] <;> omega
theorem sm_bitstep {f : Nat → Bool} {k x i : Nat} (h : x.testBit i = f k) : sm (fun m => m) f k ||| ((x >>> i &&& 1) <<< k) = sm (fun m => m) f (k + 1) := by
  have h1 := shr_test x i
  rw [h] at h1
  show _ = if f k = true then _ else _
  by_cases e : f k = true
  · rw [if_pos e, h1.mpr e]
  · rw [if_neg e]
    have h2 : ¬ x >>> i &&& 1 = 1 := fun z => e (h1.mp z)
    have h3 := and1_le (x >>> i)
    rw [(by omega : x >>> i &&& 1 = 0), Nat.zero_shiftLeft, Nat.or_zero]
theorem sm_lt30 {f : Nat → Bool} {n : Nat} (h : n ≤ 30) : sm (fun m => m) f n < 2 ^ 30 := sm_lt (fun q hq _ => by omega)
set_option maxRecDepth 100000 in
set_option maxHeartbeats 4000000 in
theorem lpC_dips0 {G : VG} {d : Nat} {μ : VS} {Q : Option Value → VS → Prop} {X : VX} {P : PC} {L : Nat} {S κ : Nat → Nat} {I : Nat → PC} {g_ : Nat} (hX : Cx G (d + 4) yX8_dipBits cX8_dipBits 7 (some .int) X) (hR : ∀ r μ', Q r μ' → Ret G X r μ') (hg : g_ < 8) (hpg : pPres P g_ = true) (hok : okP P) (hpd : okPad L S)  (hQ : ∀ μ', RC μ' P L S κ I → keepM μ μ' → Q (some (.int (nI (sm (fun m => m) (dpB P S g_ 0) (min L 30))))) μ') : ∀ (j k_ : Nat) (μ1 : VS), k_ ≤ min L 30 → min L 30 + 1 ≤ k_ + j → RC μ1 P L S κ I → keepM μ μ1 → isW μ1 34 (uAt P S k_) → V G 7 X 12 [(0, .ref 0), (1, .int (nI (P 1 g_))), (2, .int (nI 0)), (3, .ref 34), (4, .int (nI (sm (fun m => m) (dpB P S g_ 0) k_))), (5, .int (nI k_))] [] μ1 := by
  have hS := hpd.2
  have hL60 := hpd.1
  have h12 : ∀ h, h < 8 → P 1 h < 12 := fun h hh => (hok.2.2.2.2.2.2.2.1 h hh).1
  have hinj := hok.2.2.2.2.2.2.2.2.2.2
  intro j
  induction j with
  | zero =>
    intro k_ μ1 h1 h2
    exact absurd h2 (by omega)
  | succ j ih =>
    intro k_ μ1 h1 h2 hR1 hM1 hU1
    have hLx := hR1.2.1
    refine V_iload hX dX8_dipBits_12 5 rfl ?_
    refine V_aload_n hX dX8_dipBits_14 0 rfl ?_
    refine V_getr (j := 31) hX fX8_30 rfl rfl dX8_dipBits_15 ?_
    refine V_getN (x := nI L) hX fX8_128 rfl hLx.1 dX8_dipBits_18 ?_
    refine V_icmp_geN (tgt := 87) hX dX8_dipBits_21 (by decide) (by first | omega | (have := sm_lt12 h12 (nodF P (lAt P S k_)) (n := 8) (by decide); omega) | (have := sm_lt12 h12 (agrF P (S k_) (lAt P S k_)) (n := 8) (by decide); omega) | (have := h12 g_ hg; omega) | exact sh1_lt (by omega) | (rw [sm_or]; exact Nat.lt_trans (sm_lt12 h12 _ (by decide)) (by decide))) (by first | omega | (have := sm_lt12 h12 (nodF P (lAt P S k_)) (n := 8) (by decide); omega) | (have := sm_lt12 h12 (agrF P (S k_) (lAt P S k_)) (n := 8) (by decide); omega) | (have := h12 g_ hg; omega) | exact sh1_lt (by omega) | (rw [sm_or]; exact Nat.lt_trans (sm_lt12 h12 _ (by decide)) (by decide))) (fun c21 => ?_) (fun c21 => ?_)
    · refine V_iload hX dX8_dipBits_87 4 rfl ?_
      refine V_iret hX rfl dX8_dipBits_89 ?_
      obtain rfl : k_ = min L 30 := by omega
      exact hR _ _ (hQ μ1 hR1 hM1)
    · refine V_iload hX dX8_dipBits_24 5 rfl ?_
      refine V_bipush (v := nI 30) hX dX8_dipBits_26 (by decide) ?_
      refine V_icmp_geN (tgt := 87) hX dX8_dipBits_28 (by decide) (by first | omega | (have := sm_lt12 h12 (nodF P (lAt P S k_)) (n := 8) (by decide); omega) | (have := sm_lt12 h12 (agrF P (S k_) (lAt P S k_)) (n := 8) (by decide); omega) | (have := h12 g_ hg; omega) | exact sh1_lt (by omega) | (rw [sm_or]; exact Nat.lt_trans (sm_lt12 h12 _ (by decide)) (by decide))) (by first | omega | (have := sm_lt12 h12 (nodF P (lAt P S k_)) (n := 8) (by decide); omega) | (have := sm_lt12 h12 (agrF P (S k_) (lAt P S k_)) (n := 8) (by decide); omega) | (have := h12 g_ hg; omega) | exact sh1_lt (by omega) | (rw [sm_or]; exact Nat.lt_trans (sm_lt12 h12 _ (by decide)) (by decide))) (fun c28 => ?_) (fun c28 => ?_)
      · refine V_iload hX dX8_dipBits_87 4 rfl ?_
        refine V_iret hX rfl dX8_dipBits_89 ?_
        obtain rfl : k_ = min L 30 := by omega
        exact hR _ _ (hQ μ1 hR1 hM1)
      · refine V_aload_n hX dX8_dipBits_31 3 rfl ?_
        refine V_aload_n hX dX8_dipBits_32 0 rfl ?_
        refine V_getr (j := 1) hX fX8_10 rfl rfl dX8_dipBits_33 ?_
        refine V_aload_n hX dX8_dipBits_36 0 rfl ?_
        refine V_getr (j := 31) hX fX8_30 rfl rfl dX8_dipBits_37 ?_
        refine V_getr (j := 32) hX fX8_131 rfl rfl dX8_dipBits_40 ?_
        refine V_iload hX dX8_dipBits_43 5 rfl ?_
        refine V_ialdN (x := nI (S k_)) hX rfl (by first | omega | (have := sm_lt12 h12 (nodF P (lAt P S k_)) (n := 8) (by decide); omega) | (have := sm_lt12 h12 (agrF P (S k_) (lAt P S k_)) (n := 8) (by decide); omega) | (have := h12 g_ hg; omega) | exact sh1_lt (by omega) | (rw [sm_or]; exact Nat.lt_trans (sm_lt12 h12 _ (by decide)) (by decide))) (by decide) (hLx.2 _ (by omega)) dX8_dipBits_45 ?_
        refine V_iconst (v := nI 0) hX dX8_dipBits_46 (by decide) ?_
        show V G 7 X 47 [(0, .ref 0), (1, .int (nI (P 1 g_))), (2, .int (nI 0)), (3, .ref 34), (4, .int (nI (sm (fun m => m) (dpB P S g_ 0) k_))), (5, .int (nI k_))] [.int (bI (false = true)), .int (nI (S k_)), .ref 1, .ref 34] μ1
        refine V_callV (As := [.ref 1, .int (nI (S k_)), .int (bI (false = true))]) (st := []) hX mX8_155 rfl (k_pass (cold_ := false) (P := P) rfl rfl hR1.1 hok (by have := hS k_ (by omega); omega) hU1 (mwR_ok hok (mw0_ok hok) k_) (by omega) (fun μ3 a3 b3 c3 d3 => ?_)) rfl (Nat.le_of_ble_eq_true rfl) (Nat.le_of_ble_eq_true rfl) dX8_dipBits_47
        show V G 7 X 50 [(0, .ref 0), (1, .int (nI (P 1 g_))), (2, .int (nI 0)), (3, .ref 34), (4, .int (nI (sm (fun m => m) (dpB P S g_ 0) k_))), (5, .int (nI k_))] [] μ3
        have hR3 : RC μ3 P L S κ I := hR1.frame (fun a ha => a3 a (by omega) (by omega))
        have hM3 : keepM μ μ3 := hM1.tr (fun a ha => a3 a (by omega) (by omega))
        have hLx := hR3.2.1
        refine V_iload_n hX dX8_dipBits_50 2 rfl ?_
        refine V_if_eqN (tgt := 61) hX dX8_dipBits_51 (by decide) (by first | omega | (have := sm_lt12 h12 (nodF P (lAt P S k_)) (n := 8) (by decide); omega) | (have := sm_lt12 h12 (agrF P (S k_) (lAt P S k_)) (n := 8) (by decide); omega) | (have := h12 g_ hg; omega) | exact sh1_lt (by omega) | (rw [sm_or]; exact Nat.lt_trans (sm_lt12 h12 _ (by decide)) (by decide))) (fun c51 => ?_) (fun c51 => ?_)
        · refine V_aload_n hX dX8_dipBits_61 3 rfl ?_
          refine V_callV (As := []) (st := []) hX mX8_327 rfl (k_dipping rfl c3.2.1 c3.2.2.1 ?_) rfl (Nat.le_of_ble_eq_true rfl) (Nat.le_of_ble_eq_true rfl) dX8_dipBits_62
          show V G 7 X 65 [(0, .ref 0), (1, .int (nI (P 1 g_))), (2, .int (nI 0)), (3, .ref 34), (4, .int (nI (sm (fun m => m) (dpB P S g_ 0) k_))), (5, .int (nI k_))] [.int (nI (sm (P 1) (nodF P (lAt P S k_)) 8 ||| sm (P 1) (agrF P (S k_) (lAt P S k_)) 8))] μ3
          refine V_istore (ls' := [(0, .ref 0), (1, .int (nI (P 1 g_))), (2, .int (nI 0)), (3, .ref 34), (4, .int (nI (sm (fun m => m) (dpB P S g_ 0) k_))), (5, .int (nI k_)), (6, .int (nI (sm (P 1) (nodF P (lAt P S k_)) 8 ||| sm (P 1) (agrF P (S k_) (lAt P S k_)) 8)))]) hX dX8_dipBits_65 (by decide) rfl ?_
          refine V_iload hX dX8_dipBits_67 4 rfl ?_
          refine V_iload hX dX8_dipBits_69 6 rfl ?_
          refine V_iload_n hX dX8_dipBits_71 1 rfl ?_
          refine V_ishrN hX dX8_dipBits_72 (by first | omega | (have := sm_lt12 h12 (nodF P (lAt P S k_)) (n := 8) (by decide); omega) | (have := sm_lt12 h12 (agrF P (S k_) (lAt P S k_)) (n := 8) (by decide); omega) | (have := h12 g_ hg; omega) | exact sh1_lt (by omega) | (rw [sm_or]; exact Nat.lt_trans (sm_lt12 h12 _ (by decide)) (by decide))) (by first | omega | (have := sm_lt12 h12 (nodF P (lAt P S k_)) (n := 8) (by decide); omega) | (have := sm_lt12 h12 (agrF P (S k_) (lAt P S k_)) (n := 8) (by decide); omega) | (have := h12 g_ hg; omega) | exact sh1_lt (by omega) | (rw [sm_or]; exact Nat.lt_trans (sm_lt12 h12 _ (by decide)) (by decide))) ?_
          refine V_iconst (v := nI 1) hX dX8_dipBits_73 (by decide) ?_
          refine V_iandN hX dX8_dipBits_74 ?_
          refine V_iload hX dX8_dipBits_75 5 rfl ?_
          refine V_ishlN hX dX8_dipBits_77 (by first | omega | (have := sm_lt12 h12 (nodF P (lAt P S k_)) (n := 8) (by decide); omega) | (have := sm_lt12 h12 (agrF P (S k_) (lAt P S k_)) (n := 8) (by decide); omega) | (have := h12 g_ hg; omega) | exact sh1_lt (by omega) | (rw [sm_or]; exact Nat.lt_trans (sm_lt12 h12 _ (by decide)) (by decide))) (by first | omega | (have := sm_lt12 h12 (nodF P (lAt P S k_)) (n := 8) (by decide); omega) | (have := sm_lt12 h12 (agrF P (S k_) (lAt P S k_)) (n := 8) (by decide); omega) | (have := h12 g_ hg; omega) | exact sh1_lt (by omega) | (rw [sm_or]; exact Nat.lt_trans (sm_lt12 h12 _ (by decide)) (by decide))) ?_
          refine V_iorN hX dX8_dipBits_78 ?_
          refine V_istore (ls' := [(0, .ref 0), (1, .int (nI (P 1 g_))), (2, .int (nI 0)), (3, .ref 34), (4, .int (nI ((sm (fun m => m) (dpB P S g_ 0) k_) ||| ((((sm (P 1) (nodF P (lAt P S k_)) 8 ||| sm (P 1) (agrF P (S k_) (lAt P S k_)) 8) >>> (P 1 g_)) &&& 1) <<< k_)))), (5, .int (nI k_)), (6, .int (nI (sm (P 1) (nodF P (lAt P S k_)) 8 ||| sm (P 1) (agrF P (S k_) (lAt P S k_)) 8)))]) hX dX8_dipBits_79 (by decide) rfl ?_
          refine V_iincN (n := 1) (ls' := [(0, .ref 0), (1, .int (nI (P 1 g_))), (2, .int (nI 0)), (3, .ref 34), (4, .int (nI ((sm (fun m => m) (dpB P S g_ 0) k_) ||| ((((sm (P 1) (nodF P (lAt P S k_)) 8 ||| sm (P 1) (agrF P (S k_) (lAt P S k_)) 8) >>> (P 1 g_)) &&& 1) <<< k_)))), (5, .int (nI (k_ + 1))), (6, .int (nI (sm (P 1) (nodF P (lAt P S k_)) 8 ||| sm (P 1) (agrF P (S k_) (lAt P S k_)) 8)))]) hX dX8_dipBits_81 5 rfl (by decide) rfl ?_
          refine V_goto (tgt := 12) hX dX8_dipBits_84 (by decide) ?_
          rw [sm_bitstep (f := dpB P S g_ 0) (by rw [sm_or, sm_at (e := pPres P) hinj (fun g _ q => (Bool.or_eq_true_iff.mp q).elim nod_pres agr_pres) hg hpg]; exact dp_or0)]
          exact V_sub [0, 1, 2, 3, 4, 5] rfl (ih (k_ + 1) μ3 (by omega) (by omega) hR3 hM3 b3)
        · exact absurd c51 (by decide)
set_option maxRecDepth 100000 in
set_option maxHeartbeats 4000000 in
theorem k_dipBits0 {G : VG} {d : Nat} {μ : VS} {Q : Option Value → VS → Prop} {P : PC} {L : Nat} {S κ : Nat → Nat} {I : Nat → PC} {g_ : Nat} (hg : g_ < 8) (hpg : pPres P g_ = true) (hRC : RC μ P L S κ I) (hok : okP P) (hpd : okPad L S) (hQ : ∀ μ', RC μ' P L S κ I → keepM μ μ' → Q (some (.int (nI (sm (fun m => m) (dpB P S g_ 0) (min L 30))))) μ') : Call G (d + 6) yX8_dipBits cX8_dipBits 7 (some .int) [.ref 0, .int (nI (P 1 g_)), .int (nI 0)] μ Q := by
  intro X hX hR
  have hP := hRC.1
  have hL := hRC.2.1
  have hS := hpd.2
  have hL60 := hpd.1
  have hP4 := hok.2.2.2.2.1
  show V G 7 X 0 [(0, .ref 0), (1, .int (nI (P 1 g_))), (2, .int (nI 0))] [] μ
  refine V_aload_n hX dX8_dipBits_0 0 rfl ?_
  refine V_iconst (v := nI 0) hX dX8_dipBits_1 (by decide) ?_
  refine V_callV (As := [.int (nI 0)]) (st := []) hX mX8_141 rfl (k_goneThrough hP hok hL hS hL60 (by omega) (fun μ2 a2 b2 k2 d2 => ?_)) rfl (Nat.le_of_ble_eq_true rfl) (Nat.le_of_ble_eq_true rfl) dX8_dipBits_2
  show V G 7 X 5 [(0, .ref 0), (1, .int (nI (P 1 g_))), (2, .int (nI 0))] [.ref 34] μ2
  have hRC2 : RC μ2 P L S κ I := hRC.frame (fun a ha => a2 a (by omega) (by omega))
  have hkM : keepM μ μ2 := fun a ha => a2 a (by omega) (by omega)
  refine V_astore_n (ls' := [(0, .ref 0), (1, .int (nI (P 1 g_))), (2, .int (nI 0)), (3, .ref 34)]) hX dX8_dipBits_5 (by decide) rfl ?_
  refine V_iconst (v := nI 0) hX dX8_dipBits_6 (by decide) ?_
  refine V_istore (ls' := [(0, .ref 0), (1, .int (nI (P 1 g_))), (2, .int (nI 0)), (3, .ref 34), (4, .int (nI 0))]) hX dX8_dipBits_7 (by decide) rfl ?_
  refine V_iconst (v := nI 0) hX dX8_dipBits_9 (by decide) ?_
  refine V_istore (ls' := [(0, .ref 0), (1, .int (nI (P 1 g_))), (2, .int (nI 0)), (3, .ref 34), (4, .int (nI 0)), (5, .int (nI 0))]) hX dX8_dipBits_10 (by decide) rfl ?_
  exact lpC_dips0 (μ := μ) hX hR hg hpg hok hpd hQ (min L 30 + 1) 0 μ2 (by omega) (by omega) hRC2 hkM b2
set_option maxRecDepth 100000 in
set_option maxHeartbeats 4000000 in
theorem kC_dips0 {G : VG} {d : Nat} {μ : VS} {Q : Option Value → VS → Prop} {P : PC} {L : Nat} {S κ : Nat → Nat} {I : Nat → PC} {h_ : Int32} (hRC : RC μ P L S κ I) (hok : okP P) (hpd : okPad L S) (hQ : ∀ μ', RC μ' P L S κ I → keepM μ μ' → Q (some (.int (dipsS P L S h_ (nI 0)))) μ') : Call G (d + 7) yX8_dips cX8_dips 3 (some .int) [.ref 0, .int h_, .int (nI 0)] μ Q := by
  intro X hX hR
  have hP := hRC.1
  have hL := hRC.2.1
  have hS := hpd.2
  have hL60 := hpd.1
  have hP4 := hok.2.2.2.2.1
  show V G 3 X 0 [(0, .ref 0), (1, .int h_), (2, .int (nI 0))] [] μ
  refine V_aload_n hX dX8_dips_0 0 rfl ?_
  refine V_getr (j := 1) hX fX8_10 rfl rfl dX8_dips_1 ?_
  refine V_iload_n hX dX8_dips_4 1 rfl ?_
  refine V_callV (As := [.int h_]) (st := []) hX mX8_115 rfl (kC_isThere rfl hP hP4 ?_) rfl (Nat.le_of_ble_eq_true rfl) (Nat.le_of_ble_eq_true rfl) dX8_dips_5
  show V G 3 X 8 [(0, .ref 0), (1, .int h_), (2, .int (nI 0))] [.int (bI (thr P h_))] μ
  refine V_if_neB (tgt := 13) hX dX8_dips_8 (by decide) (fun c8 => ?_) (fun c8 => ?_)
  · obtain ⟨g_, hg7, rfl, hpg⟩ := thr_nat c8
    refine V_iload_n hX dX8_dips_13 2 rfl ?_
    refine V_iconst (v := nI 0) hX dX8_dips_14 (by decide) ?_
    refine V_iconst (v := nI 1) hX dX8_dips_15 (by decide) ?_
    refine V_callS (As := [.int (nI 0), .int (nI 0), .int (nI 1)]) (st := []) hX mX8_73 (k_isOutside ?_) rfl (Nat.le_of_ble_eq_true rfl) (Nat.le_of_ble_eq_true rfl) dX8_dips_16
    show V G 3 X 19 [(0, .ref 0), (1, .int (nI g_)), (2, .int (nI 0))] [.int (bI (nI 0 < nI 0 ∨ nI 1 < nI 0))] μ
    refine V_if_eqB (tgt := 25) hX dX8_dips_19 (by decide) (fun c19 => ?_) (fun c19 => ?_)
    · refine V_aload_n hX dX8_dips_25 0 rfl ?_
      refine V_getr (j := 31) hX fX8_30 rfl rfl dX8_dips_26 ?_
      refine V_callV (As := []) (st := []) hX mX8_137 rfl (kC_hasFault hL hS hL60 ?_) rfl (Nat.le_of_ble_eq_true rfl) (Nat.le_of_ble_eq_true rfl) dX8_dips_29
      show V G 3 X 32 [(0, .ref 0), (1, .int (nI g_)), (2, .int (nI 0))] [.int (bI (¬ fltU S L = -6))] μ
      refine V_if_eqB (tgt := 40) hX dX8_dips_32 (by decide) (fun c32 => ?_) (fun c32 => ?_)
      · refine V_aload_n hX dX8_dips_40 0 rfl ?_
        refine V_aload_n hX dX8_dips_41 0 rfl ?_
        refine V_getr (j := 1) hX fX8_10 rfl rfl dX8_dips_42 ?_
        refine V_getr (j := 2) hX fX8_93 rfl rfl dX8_dips_45 ?_
        refine V_iload_n hX dX8_dips_48 1 rfl ?_
        refine V_ialdN (x := nI (P 1 g_)) hX rfl (by omega) (by decide) (hP.2 0 (by decide) _ (by omega)) dX8_dips_49 ?_
        refine V_iload_n hX dX8_dips_50 2 rfl ?_
        refine V_iconst (v := nI 1) hX dX8_dips_51 (by decide) ?_
        refine V_icmp_neN (tgt := 59) hX dX8_dips_52 (by decide) (by omega) (by omega) (fun c52 => ?_) (fun c52 => ?_)
        · refine V_iconst (v := nI 0) hX dX8_dips_59 (by decide) ?_
          refine V_callV (As := [.int (nI (P 1 g_)), .int (nI 0)]) (st := []) hX mX8_221 rfl (k_dipBits0 (by omega) hpg hRC hok hpd (fun μ2 hRC2 hkM => ?_)) rfl (Nat.le_of_ble_eq_true rfl) (Nat.le_of_ble_eq_true rfl) dX8_dips_60
          show V G 3 X 63 [(0, .ref 0), (1, .int (nI g_)), (2, .int (nI 0))] [.int (nI (sm (fun m => m) (dpB P S g_ 0) (min L 30)))] μ2
          refine V_iret hX rfl dX8_dips_63 ?_
          have h9 := hQ μ2
          rw [show dipsS P L S (nI g_) (nI 0) = _ from (if_pos c8).trans ((if_pos (in_of_not_out c19)).trans (if_pos (Decidable.not_not.mp c32)))] at h9
          rw [show (nI 0).toNatClampNeg = 0 from nI_clamp (by decide), nI_clamp (by omega)] at h9
          exact hR _ _ (h9 hRC2 hkM)
        · exact absurd c52 (by decide)
      · refine V_bipush (v := (-5)) hX dX8_dips_35 (by decide) ?_
        refine V_goto (tgt := 63) hX dX8_dips_37 (by decide) ?_
        refine V_iret hX rfl dX8_dips_63 ?_
        have h9 := hQ μ
        rw [show dipsS P L S (nI g_) (nI 0) = -5 from (if_pos c8).trans ((if_pos (in_of_not_out c19)).trans (if_neg c32))] at h9
        exact hR _ _ (h9 hRC (keepM.rf μ))
    · refine V_bipush (v := (-2)) hX dX8_dips_22 (by decide) ?_
      refine V_iret hX rfl dX8_dips_24 ?_
      exact absurd c19 (by decide)
  · refine V_iconst (v := (-1)) hX dX8_dips_11 (by decide) ?_
    refine V_iret hX rfl dX8_dips_12 ?_
    have h9 := hQ μ
    rw [show dipsS P L S h_ (nI 0) = -1 from if_neg c8] at h9
    exact hR _ _ (h9 hRC (keepM.rf μ))
set_option maxRecDepth 100000 in
set_option maxHeartbeats 4000000 in
theorem lpC_dips1 {G : VG} {d : Nat} {μ : VS} {Q : Option Value → VS → Prop} {X : VX} {P : PC} {L : Nat} {S κ : Nat → Nat} {I : Nat → PC} {g_ : Nat} (hX : Cx G (d + 4) yX8_dipBits cX8_dipBits 7 (some .int) X) (hR : ∀ r μ', Q r μ' → Ret G X r μ') (hg : g_ < 8) (hpg : pPres P g_ = true) (hok : okP P) (hpd : okPad L S)  (hQ : ∀ μ', RC μ' P L S κ I → keepM μ μ' → Q (some (.int (nI (sm (fun m => m) (dpB P S g_ 1) (min L 30))))) μ') : ∀ (j k_ : Nat) (μ1 : VS), k_ ≤ min L 30 → min L 30 + 1 ≤ k_ + j → RC μ1 P L S κ I → keepM μ μ1 → isW μ1 34 (uAt P S k_) → V G 7 X 12 [(0, .ref 0), (1, .int (nI (P 1 g_))), (2, .int (nI 1)), (3, .ref 34), (4, .int (nI (sm (fun m => m) (dpB P S g_ 1) k_))), (5, .int (nI k_))] [] μ1 := by
  have hS := hpd.2
  have hL60 := hpd.1
  have h12 : ∀ h, h < 8 → P 1 h < 12 := fun h hh => (hok.2.2.2.2.2.2.2.1 h hh).1
  have hinj := hok.2.2.2.2.2.2.2.2.2.2
  intro j
  induction j with
  | zero =>
    intro k_ μ1 h1 h2
    exact absurd h2 (by omega)
  | succ j ih =>
    intro k_ μ1 h1 h2 hR1 hM1 hU1
    have hLx := hR1.2.1
    refine V_iload hX dX8_dipBits_12 5 rfl ?_
    refine V_aload_n hX dX8_dipBits_14 0 rfl ?_
    refine V_getr (j := 31) hX fX8_30 rfl rfl dX8_dipBits_15 ?_
    refine V_getN (x := nI L) hX fX8_128 rfl hLx.1 dX8_dipBits_18 ?_
    refine V_icmp_geN (tgt := 87) hX dX8_dipBits_21 (by decide) (by first | omega | (have := sm_lt12 h12 (nodF P (lAt P S k_)) (n := 8) (by decide); omega) | (have := sm_lt12 h12 (agrF P (S k_) (lAt P S k_)) (n := 8) (by decide); omega) | (have := h12 g_ hg; omega) | exact sh1_lt (by omega) | (rw [sm_or]; exact Nat.lt_trans (sm_lt12 h12 _ (by decide)) (by decide))) (by first | omega | (have := sm_lt12 h12 (nodF P (lAt P S k_)) (n := 8) (by decide); omega) | (have := sm_lt12 h12 (agrF P (S k_) (lAt P S k_)) (n := 8) (by decide); omega) | (have := h12 g_ hg; omega) | exact sh1_lt (by omega) | (rw [sm_or]; exact Nat.lt_trans (sm_lt12 h12 _ (by decide)) (by decide))) (fun c21 => ?_) (fun c21 => ?_)
    · refine V_iload hX dX8_dipBits_87 4 rfl ?_
      refine V_iret hX rfl dX8_dipBits_89 ?_
      obtain rfl : k_ = min L 30 := by omega
      exact hR _ _ (hQ μ1 hR1 hM1)
    · refine V_iload hX dX8_dipBits_24 5 rfl ?_
      refine V_bipush (v := nI 30) hX dX8_dipBits_26 (by decide) ?_
      refine V_icmp_geN (tgt := 87) hX dX8_dipBits_28 (by decide) (by first | omega | (have := sm_lt12 h12 (nodF P (lAt P S k_)) (n := 8) (by decide); omega) | (have := sm_lt12 h12 (agrF P (S k_) (lAt P S k_)) (n := 8) (by decide); omega) | (have := h12 g_ hg; omega) | exact sh1_lt (by omega) | (rw [sm_or]; exact Nat.lt_trans (sm_lt12 h12 _ (by decide)) (by decide))) (by first | omega | (have := sm_lt12 h12 (nodF P (lAt P S k_)) (n := 8) (by decide); omega) | (have := sm_lt12 h12 (agrF P (S k_) (lAt P S k_)) (n := 8) (by decide); omega) | (have := h12 g_ hg; omega) | exact sh1_lt (by omega) | (rw [sm_or]; exact Nat.lt_trans (sm_lt12 h12 _ (by decide)) (by decide))) (fun c28 => ?_) (fun c28 => ?_)
      · refine V_iload hX dX8_dipBits_87 4 rfl ?_
        refine V_iret hX rfl dX8_dipBits_89 ?_
        obtain rfl : k_ = min L 30 := by omega
        exact hR _ _ (hQ μ1 hR1 hM1)
      · refine V_aload_n hX dX8_dipBits_31 3 rfl ?_
        refine V_aload_n hX dX8_dipBits_32 0 rfl ?_
        refine V_getr (j := 1) hX fX8_10 rfl rfl dX8_dipBits_33 ?_
        refine V_aload_n hX dX8_dipBits_36 0 rfl ?_
        refine V_getr (j := 31) hX fX8_30 rfl rfl dX8_dipBits_37 ?_
        refine V_getr (j := 32) hX fX8_131 rfl rfl dX8_dipBits_40 ?_
        refine V_iload hX dX8_dipBits_43 5 rfl ?_
        refine V_ialdN (x := nI (S k_)) hX rfl (by first | omega | (have := sm_lt12 h12 (nodF P (lAt P S k_)) (n := 8) (by decide); omega) | (have := sm_lt12 h12 (agrF P (S k_) (lAt P S k_)) (n := 8) (by decide); omega) | (have := h12 g_ hg; omega) | exact sh1_lt (by omega) | (rw [sm_or]; exact Nat.lt_trans (sm_lt12 h12 _ (by decide)) (by decide))) (by decide) (hLx.2 _ (by omega)) dX8_dipBits_45 ?_
        refine V_iconst (v := nI 0) hX dX8_dipBits_46 (by decide) ?_
        show V G 7 X 47 [(0, .ref 0), (1, .int (nI (P 1 g_))), (2, .int (nI 1)), (3, .ref 34), (4, .int (nI (sm (fun m => m) (dpB P S g_ 1) k_))), (5, .int (nI k_))] [.int (bI (false = true)), .int (nI (S k_)), .ref 1, .ref 34] μ1
        refine V_callV (As := [.ref 1, .int (nI (S k_)), .int (bI (false = true))]) (st := []) hX mX8_155 rfl (k_pass (cold_ := false) (P := P) rfl rfl hR1.1 hok (by have := hS k_ (by omega); omega) hU1 (mwR_ok hok (mw0_ok hok) k_) (by omega) (fun μ3 a3 b3 c3 d3 => ?_)) rfl (Nat.le_of_ble_eq_true rfl) (Nat.le_of_ble_eq_true rfl) dX8_dipBits_47
        show V G 7 X 50 [(0, .ref 0), (1, .int (nI (P 1 g_))), (2, .int (nI 1)), (3, .ref 34), (4, .int (nI (sm (fun m => m) (dpB P S g_ 1) k_))), (5, .int (nI k_))] [] μ3
        have hR3 : RC μ3 P L S κ I := hR1.frame (fun a ha => a3 a (by omega) (by omega))
        have hM3 : keepM μ μ3 := hM1.tr (fun a ha => a3 a (by omega) (by omega))
        have hLx := hR3.2.1
        refine V_iload_n hX dX8_dipBits_50 2 rfl ?_
        refine V_if_eqN (tgt := 61) hX dX8_dipBits_51 (by decide) (by first | omega | (have := sm_lt12 h12 (nodF P (lAt P S k_)) (n := 8) (by decide); omega) | (have := sm_lt12 h12 (agrF P (S k_) (lAt P S k_)) (n := 8) (by decide); omega) | (have := h12 g_ hg; omega) | exact sh1_lt (by omega) | (rw [sm_or]; exact Nat.lt_trans (sm_lt12 h12 _ (by decide)) (by decide))) (fun c51 => ?_) (fun c51 => ?_)
        · exact absurd c51 (by decide)
        · refine V_aload_n hX dX8_dipBits_54 3 rfl ?_
          refine V_getN (x := nI (sm (P 1) (agrF P (S k_) (lAt P S k_)) 8)) hX fX8_324 rfl c3.2.2.1 dX8_dipBits_55 ?_
          refine V_goto (tgt := 65) hX dX8_dipBits_58 (by decide) ?_
          refine V_istore (ls' := [(0, .ref 0), (1, .int (nI (P 1 g_))), (2, .int (nI 1)), (3, .ref 34), (4, .int (nI (sm (fun m => m) (dpB P S g_ 1) k_))), (5, .int (nI k_)), (6, .int (nI (sm (P 1) (agrF P (S k_) (lAt P S k_)) 8)))]) hX dX8_dipBits_65 (by decide) rfl ?_
          refine V_iload hX dX8_dipBits_67 4 rfl ?_
          refine V_iload hX dX8_dipBits_69 6 rfl ?_
          refine V_iload_n hX dX8_dipBits_71 1 rfl ?_
          refine V_ishrN hX dX8_dipBits_72 (by first | omega | (have := sm_lt12 h12 (nodF P (lAt P S k_)) (n := 8) (by decide); omega) | (have := sm_lt12 h12 (agrF P (S k_) (lAt P S k_)) (n := 8) (by decide); omega) | (have := h12 g_ hg; omega) | exact sh1_lt (by omega) | (rw [sm_or]; exact Nat.lt_trans (sm_lt12 h12 _ (by decide)) (by decide))) (by first | omega | (have := sm_lt12 h12 (nodF P (lAt P S k_)) (n := 8) (by decide); omega) | (have := sm_lt12 h12 (agrF P (S k_) (lAt P S k_)) (n := 8) (by decide); omega) | (have := h12 g_ hg; omega) | exact sh1_lt (by omega) | (rw [sm_or]; exact Nat.lt_trans (sm_lt12 h12 _ (by decide)) (by decide))) ?_
          refine V_iconst (v := nI 1) hX dX8_dipBits_73 (by decide) ?_
          refine V_iandN hX dX8_dipBits_74 ?_
          refine V_iload hX dX8_dipBits_75 5 rfl ?_
          refine V_ishlN hX dX8_dipBits_77 (by first | omega | (have := sm_lt12 h12 (nodF P (lAt P S k_)) (n := 8) (by decide); omega) | (have := sm_lt12 h12 (agrF P (S k_) (lAt P S k_)) (n := 8) (by decide); omega) | (have := h12 g_ hg; omega) | exact sh1_lt (by omega) | (rw [sm_or]; exact Nat.lt_trans (sm_lt12 h12 _ (by decide)) (by decide))) (by first | omega | (have := sm_lt12 h12 (nodF P (lAt P S k_)) (n := 8) (by decide); omega) | (have := sm_lt12 h12 (agrF P (S k_) (lAt P S k_)) (n := 8) (by decide); omega) | (have := h12 g_ hg; omega) | exact sh1_lt (by omega) | (rw [sm_or]; exact Nat.lt_trans (sm_lt12 h12 _ (by decide)) (by decide))) ?_
          refine V_iorN hX dX8_dipBits_78 ?_
          refine V_istore (ls' := [(0, .ref 0), (1, .int (nI (P 1 g_))), (2, .int (nI 1)), (3, .ref 34), (4, .int (nI ((sm (fun m => m) (dpB P S g_ 1) k_) ||| ((((sm (P 1) (agrF P (S k_) (lAt P S k_)) 8) >>> (P 1 g_)) &&& 1) <<< k_)))), (5, .int (nI k_)), (6, .int (nI (sm (P 1) (agrF P (S k_) (lAt P S k_)) 8)))]) hX dX8_dipBits_79 (by decide) rfl ?_
          refine V_iincN (n := 1) (ls' := [(0, .ref 0), (1, .int (nI (P 1 g_))), (2, .int (nI 1)), (3, .ref 34), (4, .int (nI ((sm (fun m => m) (dpB P S g_ 1) k_) ||| ((((sm (P 1) (agrF P (S k_) (lAt P S k_)) 8) >>> (P 1 g_)) &&& 1) <<< k_)))), (5, .int (nI (k_ + 1))), (6, .int (nI (sm (P 1) (agrF P (S k_) (lAt P S k_)) 8)))]) hX dX8_dipBits_81 5 rfl (by decide) rfl ?_
          refine V_goto (tgt := 12) hX dX8_dipBits_84 (by decide) ?_
          rw [sm_bitstep (f := dpB P S g_ 1) (by rw [sm_at (e := pPres P) hinj (fun _ _ => agr_pres) hg hpg]; exact dp_or1)]
          exact V_sub [0, 1, 2, 3, 4, 5] rfl (ih (k_ + 1) μ3 (by omega) (by omega) hR3 hM3 b3)
set_option maxRecDepth 100000 in
set_option maxHeartbeats 4000000 in
theorem k_dipBits1 {G : VG} {d : Nat} {μ : VS} {Q : Option Value → VS → Prop} {P : PC} {L : Nat} {S κ : Nat → Nat} {I : Nat → PC} {g_ : Nat} (hg : g_ < 8) (hpg : pPres P g_ = true) (hRC : RC μ P L S κ I) (hok : okP P) (hpd : okPad L S) (hQ : ∀ μ', RC μ' P L S κ I → keepM μ μ' → Q (some (.int (nI (sm (fun m => m) (dpB P S g_ 1) (min L 30))))) μ') : Call G (d + 6) yX8_dipBits cX8_dipBits 7 (some .int) [.ref 0, .int (nI (P 1 g_)), .int (nI 1)] μ Q := by
  intro X hX hR
  have hP := hRC.1
  have hL := hRC.2.1
  have hS := hpd.2
  have hL60 := hpd.1
  have hP4 := hok.2.2.2.2.1
  show V G 7 X 0 [(0, .ref 0), (1, .int (nI (P 1 g_))), (2, .int (nI 1))] [] μ
  refine V_aload_n hX dX8_dipBits_0 0 rfl ?_
  refine V_iconst (v := nI 0) hX dX8_dipBits_1 (by decide) ?_
  refine V_callV (As := [.int (nI 0)]) (st := []) hX mX8_141 rfl (k_goneThrough hP hok hL hS hL60 (by omega) (fun μ2 a2 b2 k2 d2 => ?_)) rfl (Nat.le_of_ble_eq_true rfl) (Nat.le_of_ble_eq_true rfl) dX8_dipBits_2
  show V G 7 X 5 [(0, .ref 0), (1, .int (nI (P 1 g_))), (2, .int (nI 1))] [.ref 34] μ2
  have hRC2 : RC μ2 P L S κ I := hRC.frame (fun a ha => a2 a (by omega) (by omega))
  have hkM : keepM μ μ2 := fun a ha => a2 a (by omega) (by omega)
  refine V_astore_n (ls' := [(0, .ref 0), (1, .int (nI (P 1 g_))), (2, .int (nI 1)), (3, .ref 34)]) hX dX8_dipBits_5 (by decide) rfl ?_
  refine V_iconst (v := nI 0) hX dX8_dipBits_6 (by decide) ?_
  refine V_istore (ls' := [(0, .ref 0), (1, .int (nI (P 1 g_))), (2, .int (nI 1)), (3, .ref 34), (4, .int (nI 0))]) hX dX8_dipBits_7 (by decide) rfl ?_
  refine V_iconst (v := nI 0) hX dX8_dipBits_9 (by decide) ?_
  refine V_istore (ls' := [(0, .ref 0), (1, .int (nI (P 1 g_))), (2, .int (nI 1)), (3, .ref 34), (4, .int (nI 0)), (5, .int (nI 0))]) hX dX8_dipBits_10 (by decide) rfl ?_
  exact lpC_dips1 (μ := μ) hX hR hg hpg hok hpd hQ (min L 30 + 1) 0 μ2 (by omega) (by omega) hRC2 hkM b2
set_option maxRecDepth 100000 in
set_option maxHeartbeats 4000000 in
theorem kC_dips1 {G : VG} {d : Nat} {μ : VS} {Q : Option Value → VS → Prop} {P : PC} {L : Nat} {S κ : Nat → Nat} {I : Nat → PC} {h_ : Int32} (hRC : RC μ P L S κ I) (hok : okP P) (hpd : okPad L S) (hQ : ∀ μ', RC μ' P L S κ I → keepM μ μ' → Q (some (.int (dipsS P L S h_ (nI 1)))) μ') : Call G (d + 7) yX8_dips cX8_dips 3 (some .int) [.ref 0, .int h_, .int (nI 1)] μ Q := by
  intro X hX hR
  have hP := hRC.1
  have hL := hRC.2.1
  have hS := hpd.2
  have hL60 := hpd.1
  have hP4 := hok.2.2.2.2.1
  show V G 3 X 0 [(0, .ref 0), (1, .int h_), (2, .int (nI 1))] [] μ
  refine V_aload_n hX dX8_dips_0 0 rfl ?_
  refine V_getr (j := 1) hX fX8_10 rfl rfl dX8_dips_1 ?_
  refine V_iload_n hX dX8_dips_4 1 rfl ?_
  refine V_callV (As := [.int h_]) (st := []) hX mX8_115 rfl (kC_isThere rfl hP hP4 ?_) rfl (Nat.le_of_ble_eq_true rfl) (Nat.le_of_ble_eq_true rfl) dX8_dips_5
  show V G 3 X 8 [(0, .ref 0), (1, .int h_), (2, .int (nI 1))] [.int (bI (thr P h_))] μ
  refine V_if_neB (tgt := 13) hX dX8_dips_8 (by decide) (fun c8 => ?_) (fun c8 => ?_)
  · obtain ⟨g_, hg7, rfl, hpg⟩ := thr_nat c8
    refine V_iload_n hX dX8_dips_13 2 rfl ?_
    refine V_iconst (v := nI 0) hX dX8_dips_14 (by decide) ?_
    refine V_iconst (v := nI 1) hX dX8_dips_15 (by decide) ?_
    refine V_callS (As := [.int (nI 1), .int (nI 0), .int (nI 1)]) (st := []) hX mX8_73 (k_isOutside ?_) rfl (Nat.le_of_ble_eq_true rfl) (Nat.le_of_ble_eq_true rfl) dX8_dips_16
    show V G 3 X 19 [(0, .ref 0), (1, .int (nI g_)), (2, .int (nI 1))] [.int (bI (nI 1 < nI 0 ∨ nI 1 < nI 1))] μ
    refine V_if_eqB (tgt := 25) hX dX8_dips_19 (by decide) (fun c19 => ?_) (fun c19 => ?_)
    · refine V_aload_n hX dX8_dips_25 0 rfl ?_
      refine V_getr (j := 31) hX fX8_30 rfl rfl dX8_dips_26 ?_
      refine V_callV (As := []) (st := []) hX mX8_137 rfl (kC_hasFault hL hS hL60 ?_) rfl (Nat.le_of_ble_eq_true rfl) (Nat.le_of_ble_eq_true rfl) dX8_dips_29
      show V G 3 X 32 [(0, .ref 0), (1, .int (nI g_)), (2, .int (nI 1))] [.int (bI (¬ fltU S L = -6))] μ
      refine V_if_eqB (tgt := 40) hX dX8_dips_32 (by decide) (fun c32 => ?_) (fun c32 => ?_)
      · refine V_aload_n hX dX8_dips_40 0 rfl ?_
        refine V_aload_n hX dX8_dips_41 0 rfl ?_
        refine V_getr (j := 1) hX fX8_10 rfl rfl dX8_dips_42 ?_
        refine V_getr (j := 2) hX fX8_93 rfl rfl dX8_dips_45 ?_
        refine V_iload_n hX dX8_dips_48 1 rfl ?_
        refine V_ialdN (x := nI (P 1 g_)) hX rfl (by omega) (by decide) (hP.2 0 (by decide) _ (by omega)) dX8_dips_49 ?_
        refine V_iload_n hX dX8_dips_50 2 rfl ?_
        refine V_iconst (v := nI 1) hX dX8_dips_51 (by decide) ?_
        refine V_icmp_neN (tgt := 59) hX dX8_dips_52 (by decide) (by omega) (by omega) (fun c52 => ?_) (fun c52 => ?_)
        · exact absurd c52 (by decide)
        · refine V_iconst (v := nI 1) hX dX8_dips_55 (by decide) ?_
          refine V_goto (tgt := 60) hX dX8_dips_56 (by decide) ?_
          refine V_callV (As := [.int (nI (P 1 g_)), .int (nI 1)]) (st := []) hX mX8_221 rfl (k_dipBits1 (by omega) hpg hRC hok hpd (fun μ2 hRC2 hkM => ?_)) rfl (Nat.le_of_ble_eq_true rfl) (Nat.le_of_ble_eq_true rfl) dX8_dips_60
          show V G 3 X 63 [(0, .ref 0), (1, .int (nI g_)), (2, .int (nI 1))] [.int (nI (sm (fun m => m) (dpB P S g_ 1) (min L 30)))] μ2
          refine V_iret hX rfl dX8_dips_63 ?_
          have h9 := hQ μ2
          rw [show dipsS P L S (nI g_) (nI 1) = _ from (if_pos c8).trans ((if_pos (in_of_not_out c19)).trans (if_pos (Decidable.not_not.mp c32)))] at h9
          rw [show (nI 1).toNatClampNeg = 1 from nI_clamp (by decide), nI_clamp (by omega)] at h9
          exact hR _ _ (h9 hRC2 hkM)
      · refine V_bipush (v := (-5)) hX dX8_dips_35 (by decide) ?_
        refine V_goto (tgt := 63) hX dX8_dips_37 (by decide) ?_
        refine V_iret hX rfl dX8_dips_63 ?_
        have h9 := hQ μ
        rw [show dipsS P L S (nI g_) (nI 1) = -5 from (if_pos c8).trans ((if_pos (in_of_not_out c19)).trans (if_neg c32))] at h9
        exact hR _ _ (h9 hRC (keepM.rf μ))
    · refine V_bipush (v := (-2)) hX dX8_dips_22 (by decide) ?_
      refine V_iret hX rfl dX8_dips_24 ?_
      exact absurd c19 (by decide)
  · refine V_iconst (v := (-1)) hX dX8_dips_11 (by decide) ?_
    refine V_iret hX rfl dX8_dips_12 ?_
    have h9 := hQ μ
    rw [show dipsS P L S h_ (nI 1) = -1 from if_neg c8] at h9
    exact hR _ _ (h9 hRC (keepM.rf μ))
set_option maxRecDepth 100000 in
set_option maxHeartbeats 4000000 in
theorem kC_dips2 {G : VG} {d : Nat} {μ : VS} {Q : Option Value → VS → Prop} {P : PC} {L : Nat} {S κ : Nat → Nat} {I : Nat → PC} {h_ w_ : Int32} (hw : ¬ inZ w_ 0 1) (hRC : RC μ P L S κ I) (hok : okP P) (hpd : okPad L S) (hQ : ∀ μ', RC μ' P L S κ I → keepM μ μ' → Q (some (.int (dipsS P L S h_ w_))) μ') : Call G (d + 7) yX8_dips cX8_dips 3 (some .int) [.ref 0, .int h_, .int w_] μ Q := by
  intro X hX hR
  have hP := hRC.1
  have hL := hRC.2.1
  have hS := hpd.2
  have hL60 := hpd.1
  have hP4 := hok.2.2.2.2.1
  show V G 3 X 0 [(0, .ref 0), (1, .int h_), (2, .int w_)] [] μ
  refine V_aload_n hX dX8_dips_0 0 rfl ?_
  refine V_getr (j := 1) hX fX8_10 rfl rfl dX8_dips_1 ?_
  refine V_iload_n hX dX8_dips_4 1 rfl ?_
  refine V_callV (As := [.int h_]) (st := []) hX mX8_115 rfl (kC_isThere rfl hP hP4 ?_) rfl (Nat.le_of_ble_eq_true rfl) (Nat.le_of_ble_eq_true rfl) dX8_dips_5
  show V G 3 X 8 [(0, .ref 0), (1, .int h_), (2, .int w_)] [.int (bI (thr P h_))] μ
  refine V_if_neB (tgt := 13) hX dX8_dips_8 (by decide) (fun c8 => ?_) (fun c8 => ?_)
  · refine V_iload_n hX dX8_dips_13 2 rfl ?_
    refine V_iconst (v := nI 0) hX dX8_dips_14 (by decide) ?_
    refine V_iconst (v := nI 1) hX dX8_dips_15 (by decide) ?_
    refine V_callS (As := [.int w_, .int (nI 0), .int (nI 1)]) (st := []) hX mX8_73 (k_isOutside ?_) rfl (Nat.le_of_ble_eq_true rfl) (Nat.le_of_ble_eq_true rfl) dX8_dips_16
    show V G 3 X 19 [(0, .ref 0), (1, .int h_), (2, .int w_)] [.int (bI (w_ < nI 0 ∨ nI 1 < w_))] μ
    refine V_if_eqB (tgt := 25) hX dX8_dips_19 (by decide) (fun c19 => ?_) (fun c19 => ?_)
    · exact absurd (in_of_not_out c19) hw
    · refine V_bipush (v := (-2)) hX dX8_dips_22 (by decide) ?_
      refine V_iret hX rfl dX8_dips_24 ?_
      have h9 := hQ μ
      rw [show dipsS P L S h_ w_ = -2 from (if_pos c8).trans (if_neg hw)] at h9
      exact hR _ _ (h9 hRC (keepM.rf μ))
  · refine V_iconst (v := (-1)) hX dX8_dips_11 (by decide) ?_
    refine V_iret hX rfl dX8_dips_12 ?_
    have h9 := hQ μ
    rw [show dipsS P L S h_ w_ = -1 from if_neg c8] at h9
    exact hR _ _ (h9 hRC (keepM.rf μ))
theorem kC_dips {G : VG} {d : Nat} {μ : VS} {Q : Option Value → VS → Prop} {P : PC} {L : Nat} {S κ : Nat → Nat} {I : Nat → PC} {h_ : Int32} {w_ : Int32} (hRC : RC μ P L S κ I) (hok : okP P) (hpd : okPad L S)  (hQ : ∀ μ', RC μ' P L S κ I → keepM μ μ' → Q (some (.int (dipsS P L S h_ w_))) μ') : Call G (d + 7) yX8_dips cX8_dips 3 (some .int) [.ref 0, .int h_, .int w_] μ Q := by
  by_cases hw : inZ w_ 0 1
  · obtain ⟨j, -, hj, rfl⟩ := nat_of_in (by decide) (by decide) hw
    rcases (by omega : j = 0 ∨ j = 1) with e | e <;> subst e
    · exact kC_dips0 hRC hok hpd hQ
    · exact kC_dips1 hRC hok hpd hQ
  · exact kC_dips2 hw hRC hok hpd hQ
set_option maxRecDepth 100000 in
set_option maxHeartbeats 4000000 in
theorem lpM_dips0 {G : VG} {d : Nat} {Q : Option Value → VS → Prop} {X : VX} {P : PC} {L : Nat} {S κ : Nat → Nat} {I : Nat → PC} {μ1 μ2 : VS} {g_ : Nat} (hX : Cx G (d + 5) yX9_dips cX9_dips 6 (some .int) X) (hR : ∀ r μ', Q r μ' → Ret G X r μ') (hg : g_ < 8) (hpd : okPad L S) (hR2 : RM μ2 P L S κ I) (hp : prR P S noC μ1 μ2 L) (hQ : Q (some (.int (nI (sm (fun m => m) (dpB P S g_ 0) (min L 30))))) μ2) : ∀ (j k_ : Nat), k_ ≤ min L 30 → min L 30 + 1 ≤ k_ + j → V G 6 X 49 [(0, .ref 69), (1, .int (nI g_)), (2, .int (nI 0)), (3, .int (nI (sm (fun m => m) (dpB P S g_ 0) k_))), (4, .int (nI k_))] [] μ2 := by
  have hL60 := hpd.1
  intro j
  induction j with
  | zero =>
    intro k_ h1 h2
    exact absurd h2 (by omega)
  | succ j ih =>
    intro k_ h1 h2
    refine V_iload hX dX9_dips_49 4 rfl ?_
    refine V_aload_n hX dX9_dips_51 0 rfl ?_
    refine V_getN (x := nI L) hX fX9_103 rfl hR2.2.1.1 dX9_dips_52 ?_
    refine V_icmp_geN (tgt := 126) hX dX9_dips_55 (by decide) (by first | omega | (have := sm_lt8 (nodF P (lAt P S k_)) (n := 8) (by decide); omega) | (have := sm_lt8 (agrF P (S k_) (lAt P S k_)) (n := 8) (by decide); omega) | (rw [Nat.one_mul]; exact Nat.lt_of_le_of_lt (Nat.pow_le_pow_right (by decide) (show k_ ≤ 31 by omega)) (by decide))) (by first | omega | (have := sm_lt8 (nodF P (lAt P S k_)) (n := 8) (by decide); omega) | (have := sm_lt8 (agrF P (S k_) (lAt P S k_)) (n := 8) (by decide); omega) | (rw [Nat.one_mul]; exact Nat.lt_of_le_of_lt (Nat.pow_le_pow_right (by decide) (show k_ ≤ 31 by omega)) (by decide))) (fun c55 => ?_) (fun c55 => ?_)
    · refine V_iload_n hX dX9_dips_126 3 rfl ?_
      refine V_iret hX rfl dX9_dips_127 ?_
      obtain rfl : k_ = min L 30 := by omega
      exact hR _ _ hQ
    · refine V_iload hX dX9_dips_58 4 rfl ?_
      refine V_bipush (v := nI 30) hX dX9_dips_60 (by decide) ?_
      refine V_icmp_geN (tgt := 126) hX dX9_dips_62 (by decide) (by first | omega | (have := sm_lt8 (nodF P (lAt P S k_)) (n := 8) (by decide); omega) | (have := sm_lt8 (agrF P (S k_) (lAt P S k_)) (n := 8) (by decide); omega) | (rw [Nat.one_mul]; exact Nat.lt_of_le_of_lt (Nat.pow_le_pow_right (by decide) (show k_ ≤ 31 by omega)) (by decide))) (by first | omega | (have := sm_lt8 (nodF P (lAt P S k_)) (n := 8) (by decide); omega) | (have := sm_lt8 (agrF P (S k_) (lAt P S k_)) (n := 8) (by decide); omega) | (rw [Nat.one_mul]; exact Nat.lt_of_le_of_lt (Nat.pow_le_pow_right (by decide) (show k_ ≤ 31 by omega)) (by decide))) (fun c62 => ?_) (fun c62 => ?_)
      · refine V_iload_n hX dX9_dips_126 3 rfl ?_
        refine V_iret hX rfl dX9_dips_127 ?_
        obtain rfl : k_ = min L 30 := by omega
        exact hR _ _ hQ
      · refine V_aload_n hX dX9_dips_65 0 rfl ?_
        refine V_getr (j := 80) hX fX9_50 rfl rfl dX9_dips_66 ?_
        refine V_iload hX dX9_dips_69 4 rfl ?_
        refine V_ialdN (x := nI (sm (fun h => h) (agrF P (S k_) (lAt P S k_)) 8)) hX rfl (by first | omega | (have := sm_lt8 (nodF P (lAt P S k_)) (n := 8) (by decide); omega) | (have := sm_lt8 (agrF P (S k_) (lAt P S k_)) (n := 8) (by decide); omega) | (rw [Nat.one_mul]; exact Nat.lt_of_le_of_lt (Nat.pow_le_pow_right (by decide) (show k_ ≤ 31 by omega)) (by decide))) (by decide) (hp.2.2.2.2.1 k_ (by omega)).2.1 dX9_dips_71 ?_
        refine V_iload_n hX dX9_dips_72 1 rfl ?_
        refine V_callS (As := [.int (nI (sm (fun h => h) (agrF P (S k_) (lAt P S k_)) 8)), .int (nI g_)]) (st := []) hX mX9_79 (k_has (by first | omega | (have := sm_lt8 (nodF P (lAt P S k_)) (n := 8) (by decide); omega) | (have := sm_lt8 (agrF P (S k_) (lAt P S k_)) (n := 8) (by decide); omega) | (rw [Nat.one_mul]; exact Nat.lt_of_le_of_lt (Nat.pow_le_pow_right (by decide) (show k_ ≤ 31 by omega)) (by decide))) (by first | omega | (have := sm_lt8 (nodF P (lAt P S k_)) (n := 8) (by decide); omega) | (have := sm_lt8 (agrF P (S k_) (lAt P S k_)) (n := 8) (by decide); omega) | (rw [Nat.one_mul]; exact Nat.lt_of_le_of_lt (Nat.pow_le_pow_right (by decide) (show k_ ≤ 31 by omega)) (by decide))) ?_) rfl (Nat.le_of_ble_eq_true rfl) (Nat.le_of_ble_eq_true rfl) dX9_dips_73
        show V G 6 X 76 [(0, .ref 69), (1, .int (nI g_)), (2, .int (nI 0)), (3, .int (nI (sm (fun m => m) (dpB P S g_ 0) k_))), (4, .int (nI k_))] [.int (bI ((sm (fun h => h) (agrF P (S k_) (lAt P S k_)) 8).testBit g_ = true))] μ2
        refine V_if_neB (tgt := 97) hX dX9_dips_76 (by decide) (fun c76 => ?_) (fun c76 => ?_)
        · refine V_iconst (v := nI 1) hX dX9_dips_97 (by decide) ?_
          refine V_goto (tgt := 102) hX dX9_dips_98 (by decide) ?_
          refine V_istore (ls' := [(0, .ref 69), (1, .int (nI g_)), (2, .int (nI 0)), (3, .int (nI (sm (fun m => m) (dpB P S g_ 0) k_))), (4, .int (nI k_)), (5, .int (nI 1))]) hX dX9_dips_102 (by decide) rfl ?_
          refine V_iload_n hX dX9_dips_104 3 rfl ?_
          refine V_iload hX dX9_dips_105 5 rfl ?_
          refine V_if_eqN (tgt := 117) hX dX9_dips_107 (by decide) (by first | omega | (have := sm_lt8 (nodF P (lAt P S k_)) (n := 8) (by decide); omega) | (have := sm_lt8 (agrF P (S k_) (lAt P S k_)) (n := 8) (by decide); omega) | (rw [Nat.one_mul]; exact Nat.lt_of_le_of_lt (Nat.pow_le_pow_right (by decide) (show k_ ≤ 31 by omega)) (by decide))) (fun c107 => ?_) (fun c107 => ?_)
          · exact absurd c107 (by decide)
          · refine V_iconst (v := nI 1) hX dX9_dips_110 (by decide) ?_
            refine V_iload hX dX9_dips_111 4 rfl ?_
            refine V_ishlN hX dX9_dips_113 (by first | omega | (have := sm_lt8 (nodF P (lAt P S k_)) (n := 8) (by decide); omega) | (have := sm_lt8 (agrF P (S k_) (lAt P S k_)) (n := 8) (by decide); omega) | (rw [Nat.one_mul]; exact Nat.lt_of_le_of_lt (Nat.pow_le_pow_right (by decide) (show k_ ≤ 31 by omega)) (by decide))) (by first | omega | (have := sm_lt8 (nodF P (lAt P S k_)) (n := 8) (by decide); omega) | (have := sm_lt8 (agrF P (S k_) (lAt P S k_)) (n := 8) (by decide); omega) | (rw [Nat.one_mul]; exact Nat.lt_of_le_of_lt (Nat.pow_le_pow_right (by decide) (show k_ ≤ 31 by omega)) (by decide))) ?_
            refine V_goto (tgt := 118) hX dX9_dips_114 (by decide) ?_
            refine V_iorN hX dX9_dips_118 ?_
            refine V_istore_n (ls' := [(0, .ref 69), (1, .int (nI g_)), (2, .int (nI 0)), (3, .int (nI ((sm (fun m => m) (dpB P S g_ 0) k_) ||| (1 <<< k_)))), (4, .int (nI k_)), (5, .int (nI 1))]) hX dX9_dips_119 (by decide) rfl ?_
            refine V_iincN (n := 1) (ls' := [(0, .ref 69), (1, .int (nI g_)), (2, .int (nI 0)), (3, .int (nI ((sm (fun m => m) (dpB P S g_ 0) k_) ||| (1 <<< k_)))), (4, .int (nI (k_ + 1))), (5, .int (nI 1))]) hX dX9_dips_120 4 rfl (by decide) rfl ?_
            refine V_goto (tgt := 49) hX dX9_dips_123 (by decide) ?_
            have h9 := ih (k_ + 1) (by omega) (by omega)
            rw [show sm (fun m => m) (dpB P S g_ 0) (k_ + 1) = (sm (fun m => m) (dpB P S g_ 0) k_) ||| (1 <<< k_) from if_pos (by unfold dpB; rw [show agrF P (S k_) (lAt P S k_) g_ = true from (by have z := c76; rw [sm_id hg] at z; exact z)]; rfl)] at h9
            exact V_sub [0, 1, 2, 3, 4] rfl h9
        · refine V_iload_n hX dX9_dips_79 2 rfl ?_
          refine V_if_neN (tgt := 101) hX dX9_dips_80 (by decide) (by first | omega | (have := sm_lt8 (nodF P (lAt P S k_)) (n := 8) (by decide); omega) | (have := sm_lt8 (agrF P (S k_) (lAt P S k_)) (n := 8) (by decide); omega) | (rw [Nat.one_mul]; exact Nat.lt_of_le_of_lt (Nat.pow_le_pow_right (by decide) (show k_ ≤ 31 by omega)) (by decide))) (fun c80 => ?_) (fun c80 => ?_)
          · exact absurd c80 (by decide)
          · refine V_aload_n hX dX9_dips_83 0 rfl ?_
            refine V_getr (j := 79) hX fX9_47 rfl rfl dX9_dips_84 ?_
            refine V_iload hX dX9_dips_87 4 rfl ?_
            refine V_ialdN (x := nI (sm (fun h => h) (nodF P (lAt P S k_)) 8)) hX rfl (by first | omega | (have := sm_lt8 (nodF P (lAt P S k_)) (n := 8) (by decide); omega) | (have := sm_lt8 (agrF P (S k_) (lAt P S k_)) (n := 8) (by decide); omega) | (rw [Nat.one_mul]; exact Nat.lt_of_le_of_lt (Nat.pow_le_pow_right (by decide) (show k_ ≤ 31 by omega)) (by decide))) (by decide) (hp.2.2.2.2.1 k_ (by omega)).1 dX9_dips_89 ?_
            refine V_iload_n hX dX9_dips_90 1 rfl ?_
            refine V_callS (As := [.int (nI (sm (fun h => h) (nodF P (lAt P S k_)) 8)), .int (nI g_)]) (st := []) hX mX9_79 (k_has (by first | omega | (have := sm_lt8 (nodF P (lAt P S k_)) (n := 8) (by decide); omega) | (have := sm_lt8 (agrF P (S k_) (lAt P S k_)) (n := 8) (by decide); omega) | (rw [Nat.one_mul]; exact Nat.lt_of_le_of_lt (Nat.pow_le_pow_right (by decide) (show k_ ≤ 31 by omega)) (by decide))) (by first | omega | (have := sm_lt8 (nodF P (lAt P S k_)) (n := 8) (by decide); omega) | (have := sm_lt8 (agrF P (S k_) (lAt P S k_)) (n := 8) (by decide); omega) | (rw [Nat.one_mul]; exact Nat.lt_of_le_of_lt (Nat.pow_le_pow_right (by decide) (show k_ ≤ 31 by omega)) (by decide))) ?_) rfl (Nat.le_of_ble_eq_true rfl) (Nat.le_of_ble_eq_true rfl) dX9_dips_91
            show V G 6 X 94 [(0, .ref 69), (1, .int (nI g_)), (2, .int (nI 0)), (3, .int (nI (sm (fun m => m) (dpB P S g_ 0) k_))), (4, .int (nI k_))] [.int (bI ((sm (fun h => h) (nodF P (lAt P S k_)) 8).testBit g_ = true))] μ2
            refine V_if_eqB (tgt := 101) hX dX9_dips_94 (by decide) (fun c94 => ?_) (fun c94 => ?_)
            · refine V_iconst (v := nI 0) hX dX9_dips_101 (by decide) ?_
              refine V_istore (ls' := [(0, .ref 69), (1, .int (nI g_)), (2, .int (nI 0)), (3, .int (nI (sm (fun m => m) (dpB P S g_ 0) k_))), (4, .int (nI k_)), (5, .int (nI 0))]) hX dX9_dips_102 (by decide) rfl ?_
              refine V_iload_n hX dX9_dips_104 3 rfl ?_
              refine V_iload hX dX9_dips_105 5 rfl ?_
              refine V_if_eqN (tgt := 117) hX dX9_dips_107 (by decide) (by first | omega | (have := sm_lt8 (nodF P (lAt P S k_)) (n := 8) (by decide); omega) | (have := sm_lt8 (agrF P (S k_) (lAt P S k_)) (n := 8) (by decide); omega) | (rw [Nat.one_mul]; exact Nat.lt_of_le_of_lt (Nat.pow_le_pow_right (by decide) (show k_ ≤ 31 by omega)) (by decide))) (fun c107 => ?_) (fun c107 => ?_)
              · refine V_iconst (v := nI 0) hX dX9_dips_117 (by decide) ?_
                refine V_iorN hX dX9_dips_118 ?_
                refine V_istore_n (ls' := [(0, .ref 69), (1, .int (nI g_)), (2, .int (nI 0)), (3, .int (nI ((sm (fun m => m) (dpB P S g_ 0) k_) ||| 0))), (4, .int (nI k_)), (5, .int (nI 0))]) hX dX9_dips_119 (by decide) rfl ?_
                refine V_iincN (n := 1) (ls' := [(0, .ref 69), (1, .int (nI g_)), (2, .int (nI 0)), (3, .int (nI ((sm (fun m => m) (dpB P S g_ 0) k_) ||| 0))), (4, .int (nI (k_ + 1))), (5, .int (nI 0))]) hX dX9_dips_120 4 rfl (by decide) rfl ?_
                refine V_goto (tgt := 49) hX dX9_dips_123 (by decide) ?_
                have h9 := ih (k_ + 1) (by omega) (by omega)
                rw [show sm (fun m => m) (dpB P S g_ 0) (k_ + 1) = (sm (fun m => m) (dpB P S g_ 0) k_) ||| 0 from (if_neg (by unfold dpB; rw [show agrF P (S k_) (lAt P S k_) g_ = false from (by have z := c76; rw [sm_id hg] at z; exact Bool.not_eq_true _ ▸ z), show nodF P (lAt P S k_) g_ = false from (by have z := c94; rw [sm_id hg] at z; exact Bool.not_eq_true _ ▸ z)]; decide)).trans (Nat.or_zero _).symm] at h9
                exact V_sub [0, 1, 2, 3, 4] rfl h9
              · exact absurd c107 (by decide)
            · refine V_iconst (v := nI 1) hX dX9_dips_97 (by decide) ?_
              refine V_goto (tgt := 102) hX dX9_dips_98 (by decide) ?_
              refine V_istore (ls' := [(0, .ref 69), (1, .int (nI g_)), (2, .int (nI 0)), (3, .int (nI (sm (fun m => m) (dpB P S g_ 0) k_))), (4, .int (nI k_)), (5, .int (nI 1))]) hX dX9_dips_102 (by decide) rfl ?_
              refine V_iload_n hX dX9_dips_104 3 rfl ?_
              refine V_iload hX dX9_dips_105 5 rfl ?_
              refine V_if_eqN (tgt := 117) hX dX9_dips_107 (by decide) (by first | omega | (have := sm_lt8 (nodF P (lAt P S k_)) (n := 8) (by decide); omega) | (have := sm_lt8 (agrF P (S k_) (lAt P S k_)) (n := 8) (by decide); omega) | (rw [Nat.one_mul]; exact Nat.lt_of_le_of_lt (Nat.pow_le_pow_right (by decide) (show k_ ≤ 31 by omega)) (by decide))) (fun c107 => ?_) (fun c107 => ?_)
              · exact absurd c107 (by decide)
              · refine V_iconst (v := nI 1) hX dX9_dips_110 (by decide) ?_
                refine V_iload hX dX9_dips_111 4 rfl ?_
                refine V_ishlN hX dX9_dips_113 (by first | omega | (have := sm_lt8 (nodF P (lAt P S k_)) (n := 8) (by decide); omega) | (have := sm_lt8 (agrF P (S k_) (lAt P S k_)) (n := 8) (by decide); omega) | (rw [Nat.one_mul]; exact Nat.lt_of_le_of_lt (Nat.pow_le_pow_right (by decide) (show k_ ≤ 31 by omega)) (by decide))) (by first | omega | (have := sm_lt8 (nodF P (lAt P S k_)) (n := 8) (by decide); omega) | (have := sm_lt8 (agrF P (S k_) (lAt P S k_)) (n := 8) (by decide); omega) | (rw [Nat.one_mul]; exact Nat.lt_of_le_of_lt (Nat.pow_le_pow_right (by decide) (show k_ ≤ 31 by omega)) (by decide))) ?_
                refine V_goto (tgt := 118) hX dX9_dips_114 (by decide) ?_
                refine V_iorN hX dX9_dips_118 ?_
                refine V_istore_n (ls' := [(0, .ref 69), (1, .int (nI g_)), (2, .int (nI 0)), (3, .int (nI ((sm (fun m => m) (dpB P S g_ 0) k_) ||| (1 <<< k_)))), (4, .int (nI k_)), (5, .int (nI 1))]) hX dX9_dips_119 (by decide) rfl ?_
                refine V_iincN (n := 1) (ls' := [(0, .ref 69), (1, .int (nI g_)), (2, .int (nI 0)), (3, .int (nI ((sm (fun m => m) (dpB P S g_ 0) k_) ||| (1 <<< k_)))), (4, .int (nI (k_ + 1))), (5, .int (nI 1))]) hX dX9_dips_120 4 rfl (by decide) rfl ?_
                refine V_goto (tgt := 49) hX dX9_dips_123 (by decide) ?_
                have h9 := ih (k_ + 1) (by omega) (by omega)
                rw [show sm (fun m => m) (dpB P S g_ 0) (k_ + 1) = (sm (fun m => m) (dpB P S g_ 0) k_) ||| (1 <<< k_) from if_pos (by unfold dpB; rw [show nodF P (lAt P S k_) g_ = true from (by have z := c94; rw [sm_id hg] at z; exact z), show decide (0 = 0) = true from rfl, Bool.and_self, Bool.or_true])] at h9
                exact V_sub [0, 1, 2, 3, 4] rfl h9
set_option maxRecDepth 100000 in
set_option maxHeartbeats 4000000 in
theorem kM_dips0 {G : VG} {d : Nat} {μ : VS} {Q : Option Value → VS → Prop} {P : PC} {L : Nat} {S κ : Nat → Nat} {I : Nat → PC} {h_ : Int32} (hRM : RM μ P L S κ I) (hok : okP P) (hpd : okPad L S) (hQ : ∀ μ', RM μ' P L S κ I → keepC μ μ' → Q (some (.int (dipsS P L S h_ (nI 0)))) μ') : Call G (d + 6) yX9_dips cX9_dips 6 (some .int) [.ref 69, .int h_, .int (nI 0)] μ Q := by
  intro X hX hR
  have hM := hRM.1
  have hL := hRM.2.1
  have hS := hpd.2
  have hL60 := hpd.1
  have hP4 := hok.2.2.2.2.1
  have h4 := hP4
  show V G 6 X 0 [(0, .ref 69), (1, .int h_), (2, .int (nI 0))] [] μ
  refine V_aload_n hX dX9_dips_0 0 rfl ?_
  refine V_iload_n hX dX9_dips_1 1 rfl ?_
  refine V_callV (As := [.int h_]) (st := []) hX mX9_99 rfl (kM_isThere hM hP4 ?_) rfl (Nat.le_of_ble_eq_true rfl) (Nat.le_of_ble_eq_true rfl) dX9_dips_2
  show V G 6 X 5 [(0, .ref 69), (1, .int h_), (2, .int (nI 0))] [.int (bI (thr P h_))] μ
  refine V_if_neB (tgt := 10) hX dX9_dips_5 (by decide) (fun c5 => ?_) (fun c5 => ?_)
  · obtain ⟨g_, hg7, rfl, hpg⟩ := thr_nat c5
    refine V_iload_n hX dX9_dips_10 2 rfl ?_
    refine V_iconst (v := nI 0) hX dX9_dips_11 (by decide) ?_
    refine V_iconst (v := nI 1) hX dX9_dips_12 (by decide) ?_
    refine V_callS (As := [.int (nI 0), .int (nI 0), .int (nI 1)]) (st := []) hX mX9_75 (k_in ?_) rfl (Nat.le_of_ble_eq_true rfl) (Nat.le_of_ble_eq_true rfl) dX9_dips_13
    show V G 6 X 16 [(0, .ref 69), (1, .int (nI g_)), (2, .int (nI 0))] [.int (bI (nI 0 ≤ nI 0 ∧ nI 0 ≤ nI 1))] μ
    refine V_if_neB (tgt := 22) hX dX9_dips_16 (by decide) (fun c16 => ?_) (fun c16 => ?_)
    · refine V_aload_n hX dX9_dips_22 0 rfl ?_
      refine V_callV (As := []) (st := []) hX mX9_109 rfl (kM_faultOf hL hS hL60 ?_) rfl (Nat.le_of_ble_eq_true rfl) (Nat.le_of_ble_eq_true rfl) dX9_dips_23
      show V G 6 X 26 [(0, .ref 69), (1, .int (nI g_)), (2, .int (nI 0))] [.int (fltU S L)] μ
      refine V_if_lt (tgt := 32) hX dX9_dips_26 (by decide) (fun c26 => ?_) (fun c26 => ?_)
      · refine V_aload_n hX dX9_dips_32 0 rfl ?_
        refine V_callV (As := []) (st := []) hX mX9_160 rfl (kM_lay hM hL hL60 (fun μ1 hLy hK1 => ?_)) rfl (Nat.le_of_ble_eq_true rfl) (Nat.le_of_ble_eq_true rfl) dX9_dips_33
        show V G 6 X 36 [(0, .ref 69), (1, .int (nI g_)), (2, .int (nI 0))] [] μ1
        have hR1 := hRM.keep hK1
        refine V_aload_n hX dX9_dips_36 0 rfl ?_
        refine V_aload_n hX dX9_dips_37 0 rfl ?_
        refine V_getN (x := nI L) hX fX9_103 rfl hR1.2.1.1 dX9_dips_38 ?_
        refine V_callV (As := [.int (nI L)]) (st := []) hX mX9_163 rfl (kM_preach (sg_ := S) (cb_ := noC) (cm_ := 0) hLy.1 hok hLy.2.2.2 (by omega) (fun i hi => hLy.2.2.1 i (by omega)) (fun i hi => by have := hS i (by omega); omega) (fun i _ => Or.inr ⟨rfl, rfl⟩) (fun μ2 hp => ?_)) rfl (Nat.le_of_ble_eq_true rfl) (Nat.le_of_ble_eq_true rfl) dX9_dips_41
        show V G 6 X 44 [(0, .ref 69), (1, .int (nI g_)), (2, .int (nI 0))] [] μ2
        have hR2 := hR1.keep hp.1.keep
        have hC2 : keepC μ μ2 := (hK1.tr hp.1.keep).C
        refine V_iconst (v := nI 0) hX dX9_dips_44 (by decide) ?_
        refine V_istore_n (ls' := [(0, .ref 69), (1, .int (nI g_)), (2, .int (nI 0)), (3, .int (nI 0))]) hX dX9_dips_45 (by decide) rfl ?_
        refine V_iconst (v := nI 0) hX dX9_dips_46 (by decide) ?_
        refine V_istore (ls' := [(0, .ref 69), (1, .int (nI g_)), (2, .int (nI 0)), (3, .int (nI 0)), (4, .int (nI 0))]) hX dX9_dips_47 (by decide) rfl ?_
        exact lpM_dips0 (μ1 := μ1) hX hR (by omega) hpd hR2 hp (by have h9 := hQ μ2; rw [show dipsS P L S (nI g_) (nI 0) = _ from (if_pos c5).trans ((if_pos c16).trans (if_pos (flt_neg L (by omega) c26))), show (nI 0).toNatClampNeg = 0 from nI_clamp (by decide), nI_clamp (by omega)] at h9; exact h9 hR2 hC2) (min L 30 + 1) 0 (by omega) (by omega)
      · refine V_bipush (v := (-5)) hX dX9_dips_29 (by decide) ?_
        refine V_iret hX rfl dX9_dips_31 ?_
        have h9 := hQ μ
        rw [show dipsS P L S (nI g_) (nI 0) = -5 from (if_pos c5).trans ((if_pos c16).trans (if_neg (flt_ge hL60 c26)))] at h9
        exact hR _ _ (h9 hRM (keepC.rf μ))
    · refine V_bipush (v := (-2)) hX dX9_dips_19 (by decide) ?_
      refine V_iret hX rfl dX9_dips_21 ?_
      exact absurd (by decide) c16
  · refine V_iconst (v := (-1)) hX dX9_dips_8 (by decide) ?_
    refine V_iret hX rfl dX9_dips_9 ?_
    have h9 := hQ μ
    rw [show dipsS P L S h_ (nI 0) = -1 from if_neg c5] at h9
    exact hR _ _ (h9 hRM (keepC.rf μ))
set_option maxRecDepth 100000 in
set_option maxHeartbeats 4000000 in
theorem lpM_dips1 {G : VG} {d : Nat} {Q : Option Value → VS → Prop} {X : VX} {P : PC} {L : Nat} {S κ : Nat → Nat} {I : Nat → PC} {μ1 μ2 : VS} {g_ : Nat} (hX : Cx G (d + 5) yX9_dips cX9_dips 6 (some .int) X) (hR : ∀ r μ', Q r μ' → Ret G X r μ') (hg : g_ < 8) (hpd : okPad L S) (hR2 : RM μ2 P L S κ I) (hp : prR P S noC μ1 μ2 L) (hQ : Q (some (.int (nI (sm (fun m => m) (dpB P S g_ 1) (min L 30))))) μ2) : ∀ (j k_ : Nat), k_ ≤ min L 30 → min L 30 + 1 ≤ k_ + j → V G 6 X 49 [(0, .ref 69), (1, .int (nI g_)), (2, .int (nI 1)), (3, .int (nI (sm (fun m => m) (dpB P S g_ 1) k_))), (4, .int (nI k_))] [] μ2 := by
  have hL60 := hpd.1
  intro j
  induction j with
  | zero =>
    intro k_ h1 h2
    exact absurd h2 (by omega)
  | succ j ih =>
    intro k_ h1 h2
    refine V_iload hX dX9_dips_49 4 rfl ?_
    refine V_aload_n hX dX9_dips_51 0 rfl ?_
    refine V_getN (x := nI L) hX fX9_103 rfl hR2.2.1.1 dX9_dips_52 ?_
    refine V_icmp_geN (tgt := 126) hX dX9_dips_55 (by decide) (by first | omega | (have := sm_lt8 (nodF P (lAt P S k_)) (n := 8) (by decide); omega) | (have := sm_lt8 (agrF P (S k_) (lAt P S k_)) (n := 8) (by decide); omega) | (rw [Nat.one_mul]; exact Nat.lt_of_le_of_lt (Nat.pow_le_pow_right (by decide) (show k_ ≤ 31 by omega)) (by decide))) (by first | omega | (have := sm_lt8 (nodF P (lAt P S k_)) (n := 8) (by decide); omega) | (have := sm_lt8 (agrF P (S k_) (lAt P S k_)) (n := 8) (by decide); omega) | (rw [Nat.one_mul]; exact Nat.lt_of_le_of_lt (Nat.pow_le_pow_right (by decide) (show k_ ≤ 31 by omega)) (by decide))) (fun c55 => ?_) (fun c55 => ?_)
    · refine V_iload_n hX dX9_dips_126 3 rfl ?_
      refine V_iret hX rfl dX9_dips_127 ?_
      obtain rfl : k_ = min L 30 := by omega
      exact hR _ _ hQ
    · refine V_iload hX dX9_dips_58 4 rfl ?_
      refine V_bipush (v := nI 30) hX dX9_dips_60 (by decide) ?_
      refine V_icmp_geN (tgt := 126) hX dX9_dips_62 (by decide) (by first | omega | (have := sm_lt8 (nodF P (lAt P S k_)) (n := 8) (by decide); omega) | (have := sm_lt8 (agrF P (S k_) (lAt P S k_)) (n := 8) (by decide); omega) | (rw [Nat.one_mul]; exact Nat.lt_of_le_of_lt (Nat.pow_le_pow_right (by decide) (show k_ ≤ 31 by omega)) (by decide))) (by first | omega | (have := sm_lt8 (nodF P (lAt P S k_)) (n := 8) (by decide); omega) | (have := sm_lt8 (agrF P (S k_) (lAt P S k_)) (n := 8) (by decide); omega) | (rw [Nat.one_mul]; exact Nat.lt_of_le_of_lt (Nat.pow_le_pow_right (by decide) (show k_ ≤ 31 by omega)) (by decide))) (fun c62 => ?_) (fun c62 => ?_)
      · refine V_iload_n hX dX9_dips_126 3 rfl ?_
        refine V_iret hX rfl dX9_dips_127 ?_
        obtain rfl : k_ = min L 30 := by omega
        exact hR _ _ hQ
      · refine V_aload_n hX dX9_dips_65 0 rfl ?_
        refine V_getr (j := 80) hX fX9_50 rfl rfl dX9_dips_66 ?_
        refine V_iload hX dX9_dips_69 4 rfl ?_
        refine V_ialdN (x := nI (sm (fun h => h) (agrF P (S k_) (lAt P S k_)) 8)) hX rfl (by first | omega | (have := sm_lt8 (nodF P (lAt P S k_)) (n := 8) (by decide); omega) | (have := sm_lt8 (agrF P (S k_) (lAt P S k_)) (n := 8) (by decide); omega) | (rw [Nat.one_mul]; exact Nat.lt_of_le_of_lt (Nat.pow_le_pow_right (by decide) (show k_ ≤ 31 by omega)) (by decide))) (by decide) (hp.2.2.2.2.1 k_ (by omega)).2.1 dX9_dips_71 ?_
        refine V_iload_n hX dX9_dips_72 1 rfl ?_
        refine V_callS (As := [.int (nI (sm (fun h => h) (agrF P (S k_) (lAt P S k_)) 8)), .int (nI g_)]) (st := []) hX mX9_79 (k_has (by first | omega | (have := sm_lt8 (nodF P (lAt P S k_)) (n := 8) (by decide); omega) | (have := sm_lt8 (agrF P (S k_) (lAt P S k_)) (n := 8) (by decide); omega) | (rw [Nat.one_mul]; exact Nat.lt_of_le_of_lt (Nat.pow_le_pow_right (by decide) (show k_ ≤ 31 by omega)) (by decide))) (by first | omega | (have := sm_lt8 (nodF P (lAt P S k_)) (n := 8) (by decide); omega) | (have := sm_lt8 (agrF P (S k_) (lAt P S k_)) (n := 8) (by decide); omega) | (rw [Nat.one_mul]; exact Nat.lt_of_le_of_lt (Nat.pow_le_pow_right (by decide) (show k_ ≤ 31 by omega)) (by decide))) ?_) rfl (Nat.le_of_ble_eq_true rfl) (Nat.le_of_ble_eq_true rfl) dX9_dips_73
        show V G 6 X 76 [(0, .ref 69), (1, .int (nI g_)), (2, .int (nI 1)), (3, .int (nI (sm (fun m => m) (dpB P S g_ 1) k_))), (4, .int (nI k_))] [.int (bI ((sm (fun h => h) (agrF P (S k_) (lAt P S k_)) 8).testBit g_ = true))] μ2
        refine V_if_neB (tgt := 97) hX dX9_dips_76 (by decide) (fun c76 => ?_) (fun c76 => ?_)
        · refine V_iconst (v := nI 1) hX dX9_dips_97 (by decide) ?_
          refine V_goto (tgt := 102) hX dX9_dips_98 (by decide) ?_
          refine V_istore (ls' := [(0, .ref 69), (1, .int (nI g_)), (2, .int (nI 1)), (3, .int (nI (sm (fun m => m) (dpB P S g_ 1) k_))), (4, .int (nI k_)), (5, .int (nI 1))]) hX dX9_dips_102 (by decide) rfl ?_
          refine V_iload_n hX dX9_dips_104 3 rfl ?_
          refine V_iload hX dX9_dips_105 5 rfl ?_
          refine V_if_eqN (tgt := 117) hX dX9_dips_107 (by decide) (by first | omega | (have := sm_lt8 (nodF P (lAt P S k_)) (n := 8) (by decide); omega) | (have := sm_lt8 (agrF P (S k_) (lAt P S k_)) (n := 8) (by decide); omega) | (rw [Nat.one_mul]; exact Nat.lt_of_le_of_lt (Nat.pow_le_pow_right (by decide) (show k_ ≤ 31 by omega)) (by decide))) (fun c107 => ?_) (fun c107 => ?_)
          · exact absurd c107 (by decide)
          · refine V_iconst (v := nI 1) hX dX9_dips_110 (by decide) ?_
            refine V_iload hX dX9_dips_111 4 rfl ?_
            refine V_ishlN hX dX9_dips_113 (by first | omega | (have := sm_lt8 (nodF P (lAt P S k_)) (n := 8) (by decide); omega) | (have := sm_lt8 (agrF P (S k_) (lAt P S k_)) (n := 8) (by decide); omega) | (rw [Nat.one_mul]; exact Nat.lt_of_le_of_lt (Nat.pow_le_pow_right (by decide) (show k_ ≤ 31 by omega)) (by decide))) (by first | omega | (have := sm_lt8 (nodF P (lAt P S k_)) (n := 8) (by decide); omega) | (have := sm_lt8 (agrF P (S k_) (lAt P S k_)) (n := 8) (by decide); omega) | (rw [Nat.one_mul]; exact Nat.lt_of_le_of_lt (Nat.pow_le_pow_right (by decide) (show k_ ≤ 31 by omega)) (by decide))) ?_
            refine V_goto (tgt := 118) hX dX9_dips_114 (by decide) ?_
            refine V_iorN hX dX9_dips_118 ?_
            refine V_istore_n (ls' := [(0, .ref 69), (1, .int (nI g_)), (2, .int (nI 1)), (3, .int (nI ((sm (fun m => m) (dpB P S g_ 1) k_) ||| (1 <<< k_)))), (4, .int (nI k_)), (5, .int (nI 1))]) hX dX9_dips_119 (by decide) rfl ?_
            refine V_iincN (n := 1) (ls' := [(0, .ref 69), (1, .int (nI g_)), (2, .int (nI 1)), (3, .int (nI ((sm (fun m => m) (dpB P S g_ 1) k_) ||| (1 <<< k_)))), (4, .int (nI (k_ + 1))), (5, .int (nI 1))]) hX dX9_dips_120 4 rfl (by decide) rfl ?_
            refine V_goto (tgt := 49) hX dX9_dips_123 (by decide) ?_
            have h9 := ih (k_ + 1) (by omega) (by omega)
            rw [show sm (fun m => m) (dpB P S g_ 1) (k_ + 1) = (sm (fun m => m) (dpB P S g_ 1) k_) ||| (1 <<< k_) from if_pos (by unfold dpB; rw [show agrF P (S k_) (lAt P S k_) g_ = true from (by have z := c76; rw [sm_id hg] at z; exact z)]; rfl)] at h9
            exact V_sub [0, 1, 2, 3, 4] rfl h9
        · refine V_iload_n hX dX9_dips_79 2 rfl ?_
          refine V_if_neN (tgt := 101) hX dX9_dips_80 (by decide) (by first | omega | (have := sm_lt8 (nodF P (lAt P S k_)) (n := 8) (by decide); omega) | (have := sm_lt8 (agrF P (S k_) (lAt P S k_)) (n := 8) (by decide); omega) | (rw [Nat.one_mul]; exact Nat.lt_of_le_of_lt (Nat.pow_le_pow_right (by decide) (show k_ ≤ 31 by omega)) (by decide))) (fun c80 => ?_) (fun c80 => ?_)
          · refine V_iconst (v := nI 0) hX dX9_dips_101 (by decide) ?_
            refine V_istore (ls' := [(0, .ref 69), (1, .int (nI g_)), (2, .int (nI 1)), (3, .int (nI (sm (fun m => m) (dpB P S g_ 1) k_))), (4, .int (nI k_)), (5, .int (nI 0))]) hX dX9_dips_102 (by decide) rfl ?_
            refine V_iload_n hX dX9_dips_104 3 rfl ?_
            refine V_iload hX dX9_dips_105 5 rfl ?_
            refine V_if_eqN (tgt := 117) hX dX9_dips_107 (by decide) (by first | omega | (have := sm_lt8 (nodF P (lAt P S k_)) (n := 8) (by decide); omega) | (have := sm_lt8 (agrF P (S k_) (lAt P S k_)) (n := 8) (by decide); omega) | (rw [Nat.one_mul]; exact Nat.lt_of_le_of_lt (Nat.pow_le_pow_right (by decide) (show k_ ≤ 31 by omega)) (by decide))) (fun c107 => ?_) (fun c107 => ?_)
            · refine V_iconst (v := nI 0) hX dX9_dips_117 (by decide) ?_
              refine V_iorN hX dX9_dips_118 ?_
              refine V_istore_n (ls' := [(0, .ref 69), (1, .int (nI g_)), (2, .int (nI 1)), (3, .int (nI ((sm (fun m => m) (dpB P S g_ 1) k_) ||| 0))), (4, .int (nI k_)), (5, .int (nI 0))]) hX dX9_dips_119 (by decide) rfl ?_
              refine V_iincN (n := 1) (ls' := [(0, .ref 69), (1, .int (nI g_)), (2, .int (nI 1)), (3, .int (nI ((sm (fun m => m) (dpB P S g_ 1) k_) ||| 0))), (4, .int (nI (k_ + 1))), (5, .int (nI 0))]) hX dX9_dips_120 4 rfl (by decide) rfl ?_
              refine V_goto (tgt := 49) hX dX9_dips_123 (by decide) ?_
              have h9 := ih (k_ + 1) (by omega) (by omega)
              rw [show sm (fun m => m) (dpB P S g_ 1) (k_ + 1) = (sm (fun m => m) (dpB P S g_ 1) k_) ||| 0 from (if_neg (by unfold dpB; rw [show agrF P (S k_) (lAt P S k_) g_ = false from (by have z := c76; rw [sm_id hg] at z; exact Bool.not_eq_true _ ▸ z)]; simp)).trans (Nat.or_zero _).symm] at h9
              exact V_sub [0, 1, 2, 3, 4] rfl h9
            · exact absurd c107 (by decide)
          · exact absurd c80 (by decide)
set_option maxRecDepth 100000 in
set_option maxHeartbeats 4000000 in
theorem kM_dips1 {G : VG} {d : Nat} {μ : VS} {Q : Option Value → VS → Prop} {P : PC} {L : Nat} {S κ : Nat → Nat} {I : Nat → PC} {h_ : Int32} (hRM : RM μ P L S κ I) (hok : okP P) (hpd : okPad L S) (hQ : ∀ μ', RM μ' P L S κ I → keepC μ μ' → Q (some (.int (dipsS P L S h_ (nI 1)))) μ') : Call G (d + 6) yX9_dips cX9_dips 6 (some .int) [.ref 69, .int h_, .int (nI 1)] μ Q := by
  intro X hX hR
  have hM := hRM.1
  have hL := hRM.2.1
  have hS := hpd.2
  have hL60 := hpd.1
  have hP4 := hok.2.2.2.2.1
  have h4 := hP4
  show V G 6 X 0 [(0, .ref 69), (1, .int h_), (2, .int (nI 1))] [] μ
  refine V_aload_n hX dX9_dips_0 0 rfl ?_
  refine V_iload_n hX dX9_dips_1 1 rfl ?_
  refine V_callV (As := [.int h_]) (st := []) hX mX9_99 rfl (kM_isThere hM hP4 ?_) rfl (Nat.le_of_ble_eq_true rfl) (Nat.le_of_ble_eq_true rfl) dX9_dips_2
  show V G 6 X 5 [(0, .ref 69), (1, .int h_), (2, .int (nI 1))] [.int (bI (thr P h_))] μ
  refine V_if_neB (tgt := 10) hX dX9_dips_5 (by decide) (fun c5 => ?_) (fun c5 => ?_)
  · obtain ⟨g_, hg7, rfl, hpg⟩ := thr_nat c5
    refine V_iload_n hX dX9_dips_10 2 rfl ?_
    refine V_iconst (v := nI 0) hX dX9_dips_11 (by decide) ?_
    refine V_iconst (v := nI 1) hX dX9_dips_12 (by decide) ?_
    refine V_callS (As := [.int (nI 1), .int (nI 0), .int (nI 1)]) (st := []) hX mX9_75 (k_in ?_) rfl (Nat.le_of_ble_eq_true rfl) (Nat.le_of_ble_eq_true rfl) dX9_dips_13
    show V G 6 X 16 [(0, .ref 69), (1, .int (nI g_)), (2, .int (nI 1))] [.int (bI (nI 0 ≤ nI 1 ∧ nI 1 ≤ nI 1))] μ
    refine V_if_neB (tgt := 22) hX dX9_dips_16 (by decide) (fun c16 => ?_) (fun c16 => ?_)
    · refine V_aload_n hX dX9_dips_22 0 rfl ?_
      refine V_callV (As := []) (st := []) hX mX9_109 rfl (kM_faultOf hL hS hL60 ?_) rfl (Nat.le_of_ble_eq_true rfl) (Nat.le_of_ble_eq_true rfl) dX9_dips_23
      show V G 6 X 26 [(0, .ref 69), (1, .int (nI g_)), (2, .int (nI 1))] [.int (fltU S L)] μ
      refine V_if_lt (tgt := 32) hX dX9_dips_26 (by decide) (fun c26 => ?_) (fun c26 => ?_)
      · refine V_aload_n hX dX9_dips_32 0 rfl ?_
        refine V_callV (As := []) (st := []) hX mX9_160 rfl (kM_lay hM hL hL60 (fun μ1 hLy hK1 => ?_)) rfl (Nat.le_of_ble_eq_true rfl) (Nat.le_of_ble_eq_true rfl) dX9_dips_33
        show V G 6 X 36 [(0, .ref 69), (1, .int (nI g_)), (2, .int (nI 1))] [] μ1
        have hR1 := hRM.keep hK1
        refine V_aload_n hX dX9_dips_36 0 rfl ?_
        refine V_aload_n hX dX9_dips_37 0 rfl ?_
        refine V_getN (x := nI L) hX fX9_103 rfl hR1.2.1.1 dX9_dips_38 ?_
        refine V_callV (As := [.int (nI L)]) (st := []) hX mX9_163 rfl (kM_preach (sg_ := S) (cb_ := noC) (cm_ := 0) hLy.1 hok hLy.2.2.2 (by omega) (fun i hi => hLy.2.2.1 i (by omega)) (fun i hi => by have := hS i (by omega); omega) (fun i _ => Or.inr ⟨rfl, rfl⟩) (fun μ2 hp => ?_)) rfl (Nat.le_of_ble_eq_true rfl) (Nat.le_of_ble_eq_true rfl) dX9_dips_41
        show V G 6 X 44 [(0, .ref 69), (1, .int (nI g_)), (2, .int (nI 1))] [] μ2
        have hR2 := hR1.keep hp.1.keep
        have hC2 : keepC μ μ2 := (hK1.tr hp.1.keep).C
        refine V_iconst (v := nI 0) hX dX9_dips_44 (by decide) ?_
        refine V_istore_n (ls' := [(0, .ref 69), (1, .int (nI g_)), (2, .int (nI 1)), (3, .int (nI 0))]) hX dX9_dips_45 (by decide) rfl ?_
        refine V_iconst (v := nI 0) hX dX9_dips_46 (by decide) ?_
        refine V_istore (ls' := [(0, .ref 69), (1, .int (nI g_)), (2, .int (nI 1)), (3, .int (nI 0)), (4, .int (nI 0))]) hX dX9_dips_47 (by decide) rfl ?_
        exact lpM_dips1 (μ1 := μ1) hX hR (by omega) hpd hR2 hp (by have h9 := hQ μ2; rw [show dipsS P L S (nI g_) (nI 1) = _ from (if_pos c5).trans ((if_pos c16).trans (if_pos (flt_neg L (by omega) c26))), show (nI 1).toNatClampNeg = 1 from nI_clamp (by decide), nI_clamp (by omega)] at h9; exact h9 hR2 hC2) (min L 30 + 1) 0 (by omega) (by omega)
      · refine V_bipush (v := (-5)) hX dX9_dips_29 (by decide) ?_
        refine V_iret hX rfl dX9_dips_31 ?_
        have h9 := hQ μ
        rw [show dipsS P L S (nI g_) (nI 1) = -5 from (if_pos c5).trans ((if_pos c16).trans (if_neg (flt_ge hL60 c26)))] at h9
        exact hR _ _ (h9 hRM (keepC.rf μ))
    · refine V_bipush (v := (-2)) hX dX9_dips_19 (by decide) ?_
      refine V_iret hX rfl dX9_dips_21 ?_
      exact absurd (by decide) c16
  · refine V_iconst (v := (-1)) hX dX9_dips_8 (by decide) ?_
    refine V_iret hX rfl dX9_dips_9 ?_
    have h9 := hQ μ
    rw [show dipsS P L S h_ (nI 1) = -1 from if_neg c5] at h9
    exact hR _ _ (h9 hRM (keepC.rf μ))
set_option maxRecDepth 100000 in
set_option maxHeartbeats 4000000 in
theorem kM_dips2 {G : VG} {d : Nat} {μ : VS} {Q : Option Value → VS → Prop} {P : PC} {L : Nat} {S κ : Nat → Nat} {I : Nat → PC} {h_ w_ : Int32} (hw : ¬ inZ w_ 0 1) (hRM : RM μ P L S κ I) (hok : okP P) (hpd : okPad L S) (hQ : ∀ μ', RM μ' P L S κ I → keepC μ μ' → Q (some (.int (dipsS P L S h_ w_))) μ') : Call G (d + 6) yX9_dips cX9_dips 6 (some .int) [.ref 69, .int h_, .int w_] μ Q := by
  intro X hX hR
  have hM := hRM.1
  have hL := hRM.2.1
  have hS := hpd.2
  have hL60 := hpd.1
  have hP4 := hok.2.2.2.2.1
  have h4 := hP4
  show V G 6 X 0 [(0, .ref 69), (1, .int h_), (2, .int w_)] [] μ
  refine V_aload_n hX dX9_dips_0 0 rfl ?_
  refine V_iload_n hX dX9_dips_1 1 rfl ?_
  refine V_callV (As := [.int h_]) (st := []) hX mX9_99 rfl (kM_isThere hM hP4 ?_) rfl (Nat.le_of_ble_eq_true rfl) (Nat.le_of_ble_eq_true rfl) dX9_dips_2
  show V G 6 X 5 [(0, .ref 69), (1, .int h_), (2, .int w_)] [.int (bI (thr P h_))] μ
  refine V_if_neB (tgt := 10) hX dX9_dips_5 (by decide) (fun c5 => ?_) (fun c5 => ?_)
  · refine V_iload_n hX dX9_dips_10 2 rfl ?_
    refine V_iconst (v := nI 0) hX dX9_dips_11 (by decide) ?_
    refine V_iconst (v := nI 1) hX dX9_dips_12 (by decide) ?_
    refine V_callS (As := [.int w_, .int (nI 0), .int (nI 1)]) (st := []) hX mX9_75 (k_in ?_) rfl (Nat.le_of_ble_eq_true rfl) (Nat.le_of_ble_eq_true rfl) dX9_dips_13
    show V G 6 X 16 [(0, .ref 69), (1, .int h_), (2, .int w_)] [.int (bI (nI 0 ≤ w_ ∧ w_ ≤ nI 1))] μ
    refine V_if_neB (tgt := 22) hX dX9_dips_16 (by decide) (fun c16 => ?_) (fun c16 => ?_)
    · exact absurd c16 hw
    · refine V_bipush (v := (-2)) hX dX9_dips_19 (by decide) ?_
      refine V_iret hX rfl dX9_dips_21 ?_
      have h9 := hQ μ
      rw [show dipsS P L S h_ w_ = -2 from (if_pos c5).trans (if_neg hw)] at h9
      exact hR _ _ (h9 hRM (keepC.rf μ))
  · refine V_iconst (v := (-1)) hX dX9_dips_8 (by decide) ?_
    refine V_iret hX rfl dX9_dips_9 ?_
    have h9 := hQ μ
    rw [show dipsS P L S h_ w_ = -1 from if_neg c5] at h9
    exact hR _ _ (h9 hRM (keepC.rf μ))
theorem kM_dips {G : VG} {d : Nat} {μ : VS} {Q : Option Value → VS → Prop} {P : PC} {L : Nat} {S κ : Nat → Nat} {I : Nat → PC} {h_ : Int32} {w_ : Int32} (hRM : RM μ P L S κ I) (hok : okP P) (hpd : okPad L S)  (hQ : ∀ μ', RM μ' P L S κ I → keepC μ μ' → Q (some (.int (dipsS P L S h_ w_))) μ') : Call G (d + 6) yX9_dips cX9_dips 6 (some .int) [.ref 69, .int h_, .int w_] μ Q := by
  by_cases hw : inZ w_ 0 1
  · obtain ⟨j, -, hj, rfl⟩ := nat_of_in (by decide) (by decide) hw
    rcases (by omega : j = 0 ∨ j = 1) with e | e <;> subst e
    · exact kM_dips0 hRM hok hpd hQ
    · exact kM_dips1 hRM hok hpd hQ
  · exact kM_dips2 hw hRM hok hpd hQ
