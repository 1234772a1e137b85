def seeB (E : PC) (h : Nat) : Bool := decide (E 0 3 ≤ E 1 h / 4)
theorem k_bitsM {G : VG} {d : Nat} {μ : VS} {Q : Option Value → VS → Prop} {a c : Nat} (ha : a < 256) (e : popN a 8 = c) (hQ : Q (some (.int (nI c))) μ) : Call G d yX9_bits cX9_bits 3 (some .int) [.int (nI a)] μ Q := k_bits ha (by rw [e]; exact hQ)
theorem cntI (f : Nat → Bool) : popN (sm (fun h => h) f 8) 8 = cnt f 8 := sm_pop (fun h hh _ => hh) (fun _ _ _ _ _ _ e => e)
theorem smI_and (f g : Nat → Bool) : sm (fun h => h) f 8 &&& sm (fun h => h) g 8 = sm (fun h => h) (fun h => f h && g h) 8 := by
  apply Nat.eq_of_testBit_eq
  intro i
  rw [Nat.testBit_and, Bool.eq_iff_iff, Bool.and_eq_true, sm_iff, sm_iff, sm_iff]
  constructor
  · rintro ⟨⟨h, h1, h2, h3⟩, ⟨k, k1, k2, k3⟩⟩
    obtain rfl : h = k := by omega
    exact ⟨h, h1, by rw [h2, k2]; rfl, h3⟩
  · rintro ⟨h, h1, h2, h3⟩
    rw [Bool.and_eq_true] at h2
    exact ⟨⟨h, h1, h2.1, h3⟩, ⟨h, h1, h2.2, h3⟩⟩
theorem presI {E : PC} (h : E 0 4 < 256) : E 0 4 = sm (fun h => h) (pPres E) 8 := by
  apply Nat.eq_of_testBit_eq
  intro i
  rw [Bool.eq_iff_iff, sm_iff]
  constructor
  · intro z
    refine ⟨i, ?_, z, rfl⟩
    rcases Nat.lt_or_ge i 8 with q | q
    · exact q
    · have h2 : E 0 4 < 2 ^ i := Nat.lt_of_lt_of_le h (by have : 2 ^ 8 ≤ 2 ^ i := Nat.pow_le_pow_right (by decide) q; exact this)
      rw [Nat.testBit_lt_two_pow h2] at z
      cases z
  · rintro ⟨h, h1, h2, rfl⟩
    exact h2
theorem othI {E : PC} (h : E 0 4 < 256) (f : Nat → Bool) : E 0 4 &&& (sm (fun h => h) f 8 ^^^ 4294967295) = sm (fun h => h) (othF E f) 8 := by
  have e := sm_diff (s := fun h => h) (e := fun _ => true) (f := pPres E) (g := f) (n := 8) (fun _ _ _ _ _ _ e => e) (fun _ _ _ => rfl) (fun _ _ _ => rfl) (fun h hh _ => by omega)
  rw [← presI h] at e
  exact e
theorem seenI {E : PC} {sg : Nat} {l : Nat → Nat} : cnt (fun h => dipF E sg l h && seeB E h) 8 = cnt (seenF E sg l) 8 := cnt_congr (fun i _ => by
  unfold seenF seeB
  congr 1
  rw [decide_eq_decide]
  omega)
/-- so many minutes preached -/
def prR (E : PC) (sg : Nat → Nat) (cb : Nat → Bool) (μ μ1 : VS) (k : Nat) : Prop := mSame μ μ1 ∧ (∀ h, h < 8 → μ1.1 78 h = nI ((mwR E sg cb (mw0 E) k).1 h)) ∧ (μ1.1 69 26 = nI (mwR E sg cb (mw0 E) k).2.1 ∧ μ1.1 69 25 = nI (mwR E sg cb (mw0 E) k).2.2.1) ∧
  (μ1.1 69 27 = nI ((mwR E sg cb (mw0 E) k).2.2.2 7) ∧ μ1.1 69 28 = nI ((mwR E sg cb (mw0 E) k).2.2.2 8) ∧ μ1.1 69 29 = nI ((mwR E sg cb (mw0 E) k).2.2.2 9) ∧ μ1.1 69 30 = nI ((mwR E sg cb (mw0 E) k).2.2.2 10) ∧ μ1.1 69 31 = nI ((mwR E sg cb (mw0 E) k).2.2.2 12)) ∧
  (∀ m, m < k → μ1.1 79 m = nI (sm (fun h => h) (nodF E (mwL1 E (sg m) (cb m) (mwR E sg cb (mw0 E) m))) 8) ∧ μ1.1 80 m = nI (sm (fun h => h) (agrF E (sg m) (mwL1 E (sg m) (cb m) (mwR E sg cb (mw0 E) m))) 8) ∧ μ1.1 81 m = nI (sm (fun h => h) (snoF E (nodF E (mwL1 E (sg m) (cb m) (mwR E sg cb (mw0 E) m)))) 8)) ∧
  ∀ m, m < k → ∀ h, h < 8 → μ1.1 82 (8 * m + h) = nI ((mwR E sg cb (mw0 E) (m + 1)).1 h)
set_option maxRecDepth 100000 in
set_option maxHeartbeats 4000000 in
theorem lpM_pr1 {G : VG} {d : Nat} {X : VX} {μ : VS} {M_ : Nat} {E : PC} (hX : Cx G d yX9_preach cX9_preach 6 none X) (hE0 : isE μ E) (hok : okP E) (hF : ∀ μ1 : VS, ((∀ a, a ≠ 78 → μ1.1 a = μ.1 a) ∧ (∀ h, h < 8 → μ1.1 78 h = nI (E 2 h)) ∧ μ1.2 = μ.2) → V G 6 X 88 [(0, .ref 69), (1, .int (nI M_)), (2, .int (nI (sm (fun h => h) (seeB E) 8))), (3, .int (nI 8))] [] μ1) : ∀ (j k_ : Nat) (μ1 : VS), k_ ≤ 8 → 9 ≤ k_ + j → ((∀ a, a ≠ 78 → μ1.1 a = μ.1 a) ∧ (∀ h, h < k_ → μ1.1 78 h = nI (E 2 h)) ∧ μ1.2 = μ.2) → V G 6 X 39 [(0, .ref 69), (1, .int (nI M_)), (2, .int (nI (sm (fun h => h) (seeB E) k_))), (3, .int (nI k_))] [] μ1 := by
  have h12 : ∀ h, h < 8 → E 1 h < 12 := fun h hh => (hok.2.2.2.2.2.2.2.1 h hh).1
  have hi3 := hok.2.2.2.1
  intro j
  induction j with
  | zero =>
    intro k_ μ1 h1 h2
    exact absurd h2 (by omega)
  | succ j ih =>
    intro k_ μ1 h1 h2 hV
    have hE : isE μ1 E := hE0.same ⟨fun a k hk => by rw [hV.1 a (by intro e; subst e; exact hk (Or.inl (by omega)))], hV.2.2⟩
    refine V_iload_n hX dX9_preach_39 3 rfl ?_
    refine V_bipush (v := nI 8) hX dX9_preach_40 (by decide) ?_
    refine V_icmp_geN (tgt := 88) hX dX9_preach_42 (by decide) (by first | omega | exact shl8 (by omega) | (have := h12 k_ (by omega); omega)) (by first | omega | exact shl8 (by omega) | (have := h12 k_ (by omega); omega)) (fun c42 => ?_) (fun c42 => ?_)
    · obtain rfl : k_ = 8 := by omega
      exact hF μ1 hV
    · refine V_aload_n hX dX9_preach_45 0 rfl ?_
      refine V_getr (j := 78) hX fX9_44 rfl rfl dX9_preach_46 ?_
      refine V_iload_n hX dX9_preach_49 3 rfl ?_
      refine V_aload_n hX dX9_preach_50 0 rfl ?_
      refine V_getr (j := 71) hX fX9_17 rfl rfl dX9_preach_51 ?_
      refine V_iload_n hX dX9_preach_54 3 rfl ?_
      refine V_ialdN (x := nI (E 2 k_)) hX rfl (by first | omega | exact shl8 (by omega) | (have := h12 k_ (by omega); omega)) (by decide) (hE.2.2.1 _ (by omega)) dX9_preach_55 ?_
      refine V_iastN hX rfl (by first | omega | exact shl8 (by omega) | (have := h12 k_ (by omega); omega)) (by decide) dX9_preach_56 ?_
      show V G 6 X 57 [(0, .ref 69), (1, .int (nI M_)), (2, .int (nI (sm (fun h => h) (seeB E) k_))), (3, .int (nI k_))] [] (vup μ1.1 78 k_ (nI (E 2 k_)), μ1.2)
      refine V_iload_n hX dX9_preach_57 2 rfl ?_
      suffices hJ58 : V G 6 X 80 [(0, .ref 69), (1, .int (nI M_)), (2, .int (nI (sm (fun h => h) (seeB E) k_))), (3, .int (nI k_))] [.int (nI (if seeB E k_ = true then 1 <<< k_ else 0)), .int (nI (sm (fun h => h) (seeB E) k_))] (vup μ1.1 78 k_ (nI (E 2 k_)), μ1.2) by
        refine V_aload_n hX dX9_preach_58 0 rfl ?_
        refine V_getr (j := 77) hX fX9_41 rfl rfl dX9_preach_59 ?_
        refine V_iload_n hX dX9_preach_62 3 rfl ?_
        refine V_ialdN (x := nI (E 1 k_)) hX rfl (by first | omega | exact shl8 (by omega) | (have := h12 k_ (by omega); omega)) (by decide) (hE.2.1 _ (by omega)) dX9_preach_63 ?_
        refine V_iconst (v := nI 4) hX dX9_preach_64 (by decide) ?_
        refine V_idivN hX dX9_preach_65 (by decide) (by first | omega | exact shl8 (by omega) | (have := h12 k_ (by omega); omega)) (by decide) ?_
        refine V_aload_n hX dX9_preach_66 0 rfl ?_
        refine V_getN (x := nI (E 0 3)) hX fX9_89 rfl hE.1.2.2.2.1 dX9_preach_67 ?_
        refine V_icmp_ltN (tgt := 79) hX dX9_preach_70 (by decide) (by first | omega | exact shl8 (by omega) | (have := h12 k_ (by omega); omega)) (by first | omega | exact shl8 (by omega) | (have := h12 k_ (by omega); omega)) (fun c70 => ?_) (fun c70 => ?_)
        · refine V_iconst (v := nI 0) hX dX9_preach_79 (by decide) ?_
          rw [show nI (if seeB E k_ = true then 1 <<< k_ else 0) = nI 0 from by rw [if_neg (by unfold seeB; rw [decide_eq_true_eq]; omega)]] at hJ58
          exact hJ58
        · refine V_iconst (v := nI 1) hX dX9_preach_73 (by decide) ?_
          refine V_iload_n hX dX9_preach_74 3 rfl ?_
          refine V_ishlN hX dX9_preach_75 (by first | omega | exact shl8 (by omega) | (have := h12 k_ (by omega); omega)) (by first | omega | exact shl8 (by omega) | (have := h12 k_ (by omega); omega)) ?_
          refine V_goto (tgt := 80) hX dX9_preach_76 (by decide) ?_
          rw [show nI (if seeB E k_ = true then 1 <<< k_ else 0) = nI (1 <<< k_) from by rw [if_pos (by unfold seeB; rw [decide_eq_true_eq]; exact c70)]] at hJ58
          exact hJ58
      refine V_iorN hX dX9_preach_80 ?_
      refine V_istore_n (ls' := [(0, .ref 69), (1, .int (nI M_)), (2, .int (nI ((sm (fun h => h) (seeB E) k_) ||| (if seeB E k_ = true then 1 <<< k_ else 0)))), (3, .int (nI k_))]) hX dX9_preach_81 (by decide) rfl ?_
      refine V_ls (ls' := [(0, .ref 69), (1, .int (nI M_)), (2, .int (nI (sm (fun h => h) (seeB E) (k_ + 1)))), (3, .int (nI k_))]) (by rw [sm_step (f := seeB E)]) ?_
      refine V_iincN (n := 1) (ls' := [(0, .ref 69), (1, .int (nI M_)), (2, .int (nI (sm (fun h => h) (seeB E) (k_ + 1)))), (3, .int (nI (k_ + 1)))]) hX dX9_preach_82 3 rfl (by decide) rfl ?_
      refine V_goto (tgt := 39) hX dX9_preach_85 (by decide) ?_
      refine ih (k_ + 1) _ (by omega) (by omega) ⟨fun a ha => ?_, fun h hh => ?_, hV.2.2⟩
      · dsimp only; rw [vup_row _ _ _ ha]; exact hV.1 a ha
      · dsimp only
        rw [vup_get]
        by_cases e : h = k_
        · rw [if_pos ⟨rfl, e⟩, e]
        · rw [if_neg (by omega)]; exact hV.2.1 h (by omega)
set_option maxRecDepth 100000 in
set_option maxHeartbeats 4000000 in
theorem lpM_pr2 {G : VG} {d : Nat} {X : VX} {μ : VS} {M_ cm_ : Nat} {E : PC} {sg_ : Nat → Nat} {cb_ : Nat → Bool} (hX : Cx G (d + 4) yX9_preach cX9_preach 6 none X) (hE0 : isE μ E) (hok : okP E) (hcm : μ.1 69 19 = nI cm_) (hM61 : M_ ≤ 61) (hser : ∀ i, i < M_ → μ.1 76 i = nI (sg_ i)) (hsg : ∀ i, i < M_ → sg_ i < 1000) (hcb : ∀ i, i < M_ → cbOK cm_ i (cb_ i)) (hF : ∀ μ1 : VS, prR E sg_ cb_ μ μ1 M_ → V G 6 X 253 [(0, .ref 69), (1, .int (nI M_)), (2, .int (nI (sm (fun h => h) (seeB E) 8))), (3, .int (nI M_))] [] μ1) : ∀ (j k_ : Nat) (μ1 : VS), k_ ≤ M_ → M_ + 1 ≤ k_ + j → prR E sg_ cb_ μ μ1 k_ → V G 6 X 90 [(0, .ref 69), (1, .int (nI M_)), (2, .int (nI (sm (fun h => h) (seeB E) 8))), (3, .int (nI k_))] [] μ1 := by
  have h4 := hok.2.2.2.2.1
  intro j
  induction j with
  | zero =>
    intro k_ μ1 h1 h2
    exact absurd h2 (by omega)
  | succ j ih =>
    intro k_ μ1 h1 h2 hV
    have hE : isE μ1 E := hE0.same hV.1
    have hcm1 : μ1.1 69 19 = nI cm_ := by rw [hV.1.1 69 19 (by unfold mScr; omega)]; exact hcm
    refine V_iload_n hX dX9_preach_90 3 rfl ?_
    refine V_iload_n hX dX9_preach_91 1 rfl ?_
    refine V_icmp_geN (tgt := 253) hX dX9_preach_92 (by decide) (by first | omega | (have := sm_lt8 (nodF E l_) (n := 8) (by decide); omega)) (by first | omega | (have := sm_lt8 (nodF E l_) (n := 8) (by decide); omega)) (fun c92 => ?_) (fun c92 => ?_)
    · obtain rfl : k_ = M_ := by omega
      exact hF μ1 hV
    · have hser1 : μ1.1 76 k_ = nI (sg_ k_) := by rw [hV.1.1 76 k_ (by unfold mScr; omega)]; exact hser k_ (by omega)
      refine V_aload_n hX dX9_preach_95 0 rfl ?_
      refine V_iload_n hX dX9_preach_96 3 rfl ?_
      refine V_callV (As := [.int (nI k_)]) (st := []) hX mX9_156 rfl (kM_minute (u_ := (mwR E sg_ cb_ (mw0 E) k_)) (cold_ := cb_ k_) (sg_ := sg_ k_) (n_ := k_) hE hok hser1 hV.2.2.1.2 hV.2.2.1.1 hcm1 hV.2.1 (by have z := mwR_ok hok (mw0_ok hok) (sg := sg_) (cold := cb_) k_; rw [Nat.zero_add] at z; exact z) (by omega) (hsg k_ (by omega)) (hcb k_ (by omega)) (by omega) (fun μ2 hp => ?_)) rfl (Nat.le_of_ble_eq_true rfl) (Nat.le_of_ble_eq_true rfl) dX9_preach_97
      show V G 6 X 100 [(0, .ref 69), (1, .int (nI M_)), (2, .int (nI (sm (fun h => h) (seeB E) 8))), (3, .int (nI k_))] [] μ2
      have hE1 := hE
      have hE := hE1.same hp.1
      have hser2 : μ2.1 76 k_ = nI (sg_ k_) := by rw [hp.1.1 76 k_ (by unfold mScr; omega)]; exact hser1
      have hsgk := hsg k_ (by omega)
      refine V_aload_n hX dX9_preach_100 0 rfl ?_
      refine V_getr (j := 79) hX fX9_47 rfl rfl dX9_preach_101 ?_
      refine V_iload_n hX dX9_preach_104 3 rfl ?_
      refine V_ialdN (x := nI (sm (fun h => h) (nodF E (mwL1 E (sg_ k_) (cb_ k_) (mwR E sg_ cb_ (mw0 E) k_))) 8)) hX rfl (by first | omega | (have := sm_lt8 (nodF E l_) (n := 8) (by decide); omega)) (by decide) hp.2.2.2.2.2.1.1 dX9_preach_105 ?_
      refine V_aload_n hX dX9_preach_106 0 rfl ?_
      refine V_getr (j := 80) hX fX9_50 rfl rfl dX9_preach_107 ?_
      refine V_iload_n hX dX9_preach_110 3 rfl ?_
      refine V_ialdN (x := nI (sm (fun h => h) (agrF E (sg_ k_) (mwL1 E (sg_ k_) (cb_ k_) (mwR E sg_ cb_ (mw0 E) k_))) 8)) hX rfl (by first | omega | (have := sm_lt8 (nodF E l_) (n := 8) (by decide); omega)) (by decide) hp.2.2.2.2.2.1.2.1 dX9_preach_111 ?_
      refine V_iorN hX dX9_preach_112 ?_
      rw [show (sm (fun h => h) (nodF E (mwL1 E (sg_ k_) (cb_ k_) (mwR E sg_ cb_ (mw0 E) k_))) 8) ||| (sm (fun h => h) (agrF E (sg_ k_) (mwL1 E (sg_ k_) (cb_ k_) (mwR E sg_ cb_ (mw0 E) k_))) 8) = sm (fun h => h) (dipF E (sg_ k_) (mwL1 E (sg_ k_) (cb_ k_) (mwR E sg_ cb_ (mw0 E) k_))) 8 from sm_or _ _ _ _]
      refine V_istore (ls' := [(0, .ref 69), (1, .int (nI M_)), (2, .int (nI (sm (fun h => h) (seeB E) 8))), (3, .int (nI k_)), (4, .int (nI (sm (fun h => h) (dipF E (sg_ k_) (mwL1 E (sg_ k_) (cb_ k_) (mwR E sg_ cb_ (mw0 E) k_))) 8)))]) hX dX9_preach_113 (by decide) rfl ?_
      refine V_aload_n hX dX9_preach_115 0 rfl ?_
      refine V_dup hX dX9_preach_116 rfl ?_
      refine V_getN (x := nI ((mwR E sg_ cb_ (mw0 E) k_).2.2.2 7)) hX fX9_141 rfl ((hp.2.2.2.2.1 27 (by decide) (by decide)).trans hV.2.2.2.1.1) dX9_preach_117 ?_
      refine V_aload_n hX dX9_preach_120 0 rfl ?_
      refine V_getr (j := 79) hX fX9_47 rfl rfl dX9_preach_121 ?_
      refine V_iload_n hX dX9_preach_124 3 rfl ?_
      refine V_ialdN (x := nI (sm (fun h => h) (nodF E (mwL1 E (sg_ k_) (cb_ k_) (mwR E sg_ cb_ (mw0 E) k_))) 8)) hX rfl (by first | omega | (have := sm_lt8 (nodF E l_) (n := 8) (by decide); omega)) (by decide) hp.2.2.2.2.2.1.1 dX9_preach_125 ?_
      refine V_callS (As := [.int (nI (sm (fun h => h) (nodF E (mwL1 E (sg_ k_) (cb_ k_) (mwR E sg_ cb_ (mw0 E) k_))) 8))]) (st := [.int (nI ((mwR E sg_ cb_ (mw0 E) k_).2.2.2 7)), .ref 69]) hX mX9_96 (k_bitsM (sm_lt8 _ (by decide)) (cntI _) ?_) rfl (Nat.le_of_ble_eq_true rfl) (Nat.le_of_ble_eq_true rfl) dX9_preach_126
      show V G 6 X 129 [(0, .ref 69), (1, .int (nI M_)), (2, .int (nI (sm (fun h => h) (seeB E) 8))), (3, .int (nI k_)), (4, .int (nI (sm (fun h => h) (dipF E (sg_ k_) (mwL1 E (sg_ k_) (cb_ k_) (mwR E sg_ cb_ (mw0 E) k_))) 8)))] [.int (nI (cnt (nodF E (mwL1 E (sg_ k_) (cb_ k_) (mwR E sg_ cb_ (mw0 E) k_))) 8)), .int (nI ((mwR E sg_ cb_ (mw0 E) k_).2.2.2 7)), .ref 69] μ2
      refine V_iaddN hX dX9_preach_129 ?_
      refine V_puti hX fX9_141 fw_8_27 rfl dX9_preach_130 ?_
      show V G 6 X 133 [(0, .ref 69), (1, .int (nI M_)), (2, .int (nI (sm (fun h => h) (seeB E) 8))), (3, .int (nI k_)), (4, .int (nI (sm (fun h => h) (dipF E (sg_ k_) (mwL1 E (sg_ k_) (cb_ k_) (mwR E sg_ cb_ (mw0 E) k_))) 8)))] [] (vup μ2.1 69 27 (nI (((mwR E sg_ cb_ (mw0 E) k_).2.2.2 7) + (cnt (nodF E (mwL1 E (sg_ k_) (cb_ k_) (mwR E sg_ cb_ (mw0 E) k_))) 8))), μ2.2)
      refine V_aload_n hX dX9_preach_133 0 rfl ?_
      refine V_dup hX dX9_preach_134 rfl ?_
      refine V_getN (x := nI ((mwR E sg_ cb_ (mw0 E) k_).2.2.2 8)) hX fX9_144 rfl ((hp.2.2.2.2.1 28 (by decide) (by decide)).trans hV.2.2.2.1.2.1) dX9_preach_135 ?_
      refine V_iload hX dX9_preach_138 4 rfl ?_
      refine V_callS (As := [.int (nI (sm (fun h => h) (dipF E (sg_ k_) (mwL1 E (sg_ k_) (cb_ k_) (mwR E sg_ cb_ (mw0 E) k_))) 8))]) (st := [.int (nI ((mwR E sg_ cb_ (mw0 E) k_).2.2.2 8)), .ref 69]) hX mX9_96 (k_bitsM (sm_lt8 _ (by decide)) (cntI _) ?_) rfl (Nat.le_of_ble_eq_true rfl) (Nat.le_of_ble_eq_true rfl) dX9_preach_140
      show V G 6 X 143 [(0, .ref 69), (1, .int (nI M_)), (2, .int (nI (sm (fun h => h) (seeB E) 8))), (3, .int (nI k_)), (4, .int (nI (sm (fun h => h) (dipF E (sg_ k_) (mwL1 E (sg_ k_) (cb_ k_) (mwR E sg_ cb_ (mw0 E) k_))) 8)))] [.int (nI (cnt (dipF E (sg_ k_) (mwL1 E (sg_ k_) (cb_ k_) (mwR E sg_ cb_ (mw0 E) k_))) 8)), .int (nI ((mwR E sg_ cb_ (mw0 E) k_).2.2.2 8)), .ref 69] (vup μ2.1 69 27 (nI (((mwR E sg_ cb_ (mw0 E) k_).2.2.2 7) + (cnt (nodF E (mwL1 E (sg_ k_) (cb_ k_) (mwR E sg_ cb_ (mw0 E) k_))) 8))), μ2.2)
      refine V_iaddN hX dX9_preach_143 ?_
      refine V_puti hX fX9_144 fw_8_28 rfl dX9_preach_144 ?_
      show V G 6 X 147 [(0, .ref 69), (1, .int (nI M_)), (2, .int (nI (sm (fun h => h) (seeB E) 8))), (3, .int (nI k_)), (4, .int (nI (sm (fun h => h) (dipF E (sg_ k_) (mwL1 E (sg_ k_) (cb_ k_) (mwR E sg_ cb_ (mw0 E) k_))) 8)))] [] (vup (vup μ2.1 69 27 (nI (((mwR E sg_ cb_ (mw0 E) k_).2.2.2 7) + (cnt (nodF E (mwL1 E (sg_ k_) (cb_ k_) (mwR E sg_ cb_ (mw0 E) k_))) 8)))) 69 28 (nI (((mwR E sg_ cb_ (mw0 E) k_).2.2.2 8) + (cnt (dipF E (sg_ k_) (mwL1 E (sg_ k_) (cb_ k_) (mwR E sg_ cb_ (mw0 E) k_))) 8))), μ2.2)
      refine V_aload_n hX dX9_preach_147 0 rfl ?_
      refine V_dup hX dX9_preach_148 rfl ?_
      refine V_getN (x := nI ((mwR E sg_ cb_ (mw0 E) k_).2.2.2 9)) hX fX9_147 rfl ((hp.2.2.2.2.1 29 (by decide) (by decide)).trans hV.2.2.2.1.2.2.1) dX9_preach_149 ?_
      refine V_aload_n hX dX9_preach_152 0 rfl ?_
      refine V_getN (x := nI (E 0 2)) hX fX9_119 rfl hE.1.2.2.1 dX9_preach_153 ?_
      refine V_iload hX dX9_preach_156 4 rfl ?_
      refine V_iload_n hX dX9_preach_158 2 rfl ?_
      refine V_iandN hX dX9_preach_159 ?_
      rw [show (sm (fun h => h) (dipF E (sg_ k_) (mwL1 E (sg_ k_) (cb_ k_) (mwR E sg_ cb_ (mw0 E) k_))) 8) &&& (sm (fun h => h) (seeB E) 8) = sm (fun h => h) (fun h => dipF E (sg_ k_) (mwL1 E (sg_ k_) (cb_ k_) (mwR E sg_ cb_ (mw0 E) k_)) h && seeB E h) 8 from smI_and _ _]
      refine V_callS (As := [.int (nI (sm (fun h => h) (fun h => dipF E (sg_ k_) (mwL1 E (sg_ k_) (cb_ k_) (mwR E sg_ cb_ (mw0 E) k_)) h && seeB E h) 8))]) (st := [.int (nI (E 0 2)), .int (nI ((mwR E sg_ cb_ (mw0 E) k_).2.2.2 9)), .ref 69]) hX mX9_96 (k_bitsM (sm_lt8 _ (by decide)) ((cntI _).trans seenI) ?_) rfl (Nat.le_of_ble_eq_true rfl) (Nat.le_of_ble_eq_true rfl) dX9_preach_160
      show V G 6 X 163 [(0, .ref 69), (1, .int (nI M_)), (2, .int (nI (sm (fun h => h) (seeB E) 8))), (3, .int (nI k_)), (4, .int (nI (sm (fun h => h) (dipF E (sg_ k_) (mwL1 E (sg_ k_) (cb_ k_) (mwR E sg_ cb_ (mw0 E) k_))) 8)))] [.int (nI (cnt (seenF E (sg_ k_) (mwL1 E (sg_ k_) (cb_ k_) (mwR E sg_ cb_ (mw0 E) k_))) 8)), .int (nI (E 0 2)), .int (nI ((mwR E sg_ cb_ (mw0 E) k_).2.2.2 9)), .ref 69] (vup (vup μ2.1 69 27 (nI (((mwR E sg_ cb_ (mw0 E) k_).2.2.2 7) + (cnt (nodF E (mwL1 E (sg_ k_) (cb_ k_) (mwR E sg_ cb_ (mw0 E) k_))) 8)))) 69 28 (nI (((mwR E sg_ cb_ (mw0 E) k_).2.2.2 8) + (cnt (dipF E (sg_ k_) (mwL1 E (sg_ k_) (cb_ k_) (mwR E sg_ cb_ (mw0 E) k_))) 8))), μ2.2)
      refine V_imulN hX dX9_preach_163 ?_
      refine V_iaddN hX dX9_preach_164 ?_
      refine V_puti hX fX9_147 fw_8_29 rfl dX9_preach_165 ?_
      show V G 6 X 168 [(0, .ref 69), (1, .int (nI M_)), (2, .int (nI (sm (fun h => h) (seeB E) 8))), (3, .int (nI k_)), (4, .int (nI (sm (fun h => h) (dipF E (sg_ k_) (mwL1 E (sg_ k_) (cb_ k_) (mwR E sg_ cb_ (mw0 E) k_))) 8)))] [] (vup (vup (vup μ2.1 69 27 (nI (((mwR E sg_ cb_ (mw0 E) k_).2.2.2 7) + (cnt (nodF E (mwL1 E (sg_ k_) (cb_ k_) (mwR E sg_ cb_ (mw0 E) k_))) 8)))) 69 28 (nI (((mwR E sg_ cb_ (mw0 E) k_).2.2.2 8) + (cnt (dipF E (sg_ k_) (mwL1 E (sg_ k_) (cb_ k_) (mwR E sg_ cb_ (mw0 E) k_))) 8)))) 69 29 (nI (((mwR E sg_ cb_ (mw0 E) k_).2.2.2 9) + ((E 0 2) * (cnt (seenF E (sg_ k_) (mwL1 E (sg_ k_) (cb_ k_) (mwR E sg_ cb_ (mw0 E) k_))) 8)))), μ2.2)
      refine V_aload_n hX dX9_preach_168 0 rfl ?_
      refine V_dup hX dX9_preach_169 rfl ?_
      refine V_getN (x := nI ((mwR E sg_ cb_ (mw0 E) k_).2.2.2 12)) hX fX9_153 rfl ((hp.2.2.2.2.1 31 (by decide) (by decide)).trans hV.2.2.2.1.2.2.2.2) dX9_preach_170 ?_
      refine V_aload_n hX dX9_preach_173 0 rfl ?_
      refine V_getr (j := 81) hX fX9_53 rfl rfl dX9_preach_174 ?_
      refine V_iload_n hX dX9_preach_177 3 rfl ?_
      refine V_ialdN (x := nI (sm (fun h => h) (snoF E (nodF E (mwL1 E (sg_ k_) (cb_ k_) (mwR E sg_ cb_ (mw0 E) k_)))) 8)) hX rfl (by first | omega | (have := sm_lt8 (nodF E l_) (n := 8) (by decide); omega)) (by decide) hp.2.2.2.2.2.1.2.2 dX9_preach_178 ?_
      refine V_callS (As := [.int (nI (sm (fun h => h) (snoF E (nodF E (mwL1 E (sg_ k_) (cb_ k_) (mwR E sg_ cb_ (mw0 E) k_)))) 8))]) (st := [.int (nI ((mwR E sg_ cb_ (mw0 E) k_).2.2.2 12)), .ref 69]) hX mX9_96 (k_bitsM (sm_lt8 _ (by decide)) (cntI _) ?_) rfl (Nat.le_of_ble_eq_true rfl) (Nat.le_of_ble_eq_true rfl) dX9_preach_179
      show V G 6 X 182 [(0, .ref 69), (1, .int (nI M_)), (2, .int (nI (sm (fun h => h) (seeB E) 8))), (3, .int (nI k_)), (4, .int (nI (sm (fun h => h) (dipF E (sg_ k_) (mwL1 E (sg_ k_) (cb_ k_) (mwR E sg_ cb_ (mw0 E) k_))) 8)))] [.int (nI (cnt (snoF E (nodF E (mwL1 E (sg_ k_) (cb_ k_) (mwR E sg_ cb_ (mw0 E) k_)))) 8)), .int (nI ((mwR E sg_ cb_ (mw0 E) k_).2.2.2 12)), .ref 69] (vup (vup (vup μ2.1 69 27 (nI (((mwR E sg_ cb_ (mw0 E) k_).2.2.2 7) + (cnt (nodF E (mwL1 E (sg_ k_) (cb_ k_) (mwR E sg_ cb_ (mw0 E) k_))) 8)))) 69 28 (nI (((mwR E sg_ cb_ (mw0 E) k_).2.2.2 8) + (cnt (dipF E (sg_ k_) (mwL1 E (sg_ k_) (cb_ k_) (mwR E sg_ cb_ (mw0 E) k_))) 8)))) 69 29 (nI (((mwR E sg_ cb_ (mw0 E) k_).2.2.2 9) + ((E 0 2) * (cnt (seenF E (sg_ k_) (mwL1 E (sg_ k_) (cb_ k_) (mwR E sg_ cb_ (mw0 E) k_))) 8)))), μ2.2)
      refine V_iaddN hX dX9_preach_182 ?_
      refine V_puti hX fX9_153 fw_8_31 rfl dX9_preach_183 ?_
      show V G 6 X 186 [(0, .ref 69), (1, .int (nI M_)), (2, .int (nI (sm (fun h => h) (seeB E) 8))), (3, .int (nI k_)), (4, .int (nI (sm (fun h => h) (dipF E (sg_ k_) (mwL1 E (sg_ k_) (cb_ k_) (mwR E sg_ cb_ (mw0 E) k_))) 8)))] [] (vup (vup (vup (vup μ2.1 69 27 (nI (((mwR E sg_ cb_ (mw0 E) k_).2.2.2 7) + (cnt (nodF E (mwL1 E (sg_ k_) (cb_ k_) (mwR E sg_ cb_ (mw0 E) k_))) 8)))) 69 28 (nI (((mwR E sg_ cb_ (mw0 E) k_).2.2.2 8) + (cnt (dipF E (sg_ k_) (mwL1 E (sg_ k_) (cb_ k_) (mwR E sg_ cb_ (mw0 E) k_))) 8)))) 69 29 (nI (((mwR E sg_ cb_ (mw0 E) k_).2.2.2 9) + ((E 0 2) * (cnt (seenF E (sg_ k_) (mwL1 E (sg_ k_) (cb_ k_) (mwR E sg_ cb_ (mw0 E) k_))) 8))))) 69 31 (nI (((mwR E sg_ cb_ (mw0 E) k_).2.2.2 12) + (cnt (snoF E (nodF E (mwL1 E (sg_ k_) (cb_ k_) (mwR E sg_ cb_ (mw0 E) k_)))) 8))), μ2.2)
      suffices hJ186 : V G 6 X 217 [(0, .ref 69), (1, .int (nI M_)), (2, .int (nI (sm (fun h => h) (seeB E) 8))), (3, .int (nI k_)), (4, .int (nI (sm (fun h => h) (dipF E (sg_ k_) (mwL1 E (sg_ k_) (cb_ k_) (mwR E sg_ cb_ (mw0 E) k_))) 8)))] [.int (nI (giftN (sg_ k_)))] (vup (vup (vup (vup μ2.1 69 27 (nI (((mwR E sg_ cb_ (mw0 E) k_).2.2.2 7) + (cnt (nodF E (mwL1 E (sg_ k_) (cb_ k_) (mwR E sg_ cb_ (mw0 E) k_))) 8)))) 69 28 (nI (((mwR E sg_ cb_ (mw0 E) k_).2.2.2 8) + (cnt (dipF E (sg_ k_) (mwL1 E (sg_ k_) (cb_ k_) (mwR E sg_ cb_ (mw0 E) k_))) 8)))) 69 29 (nI (((mwR E sg_ cb_ (mw0 E) k_).2.2.2 9) + ((E 0 2) * (cnt (seenF E (sg_ k_) (mwL1 E (sg_ k_) (cb_ k_) (mwR E sg_ cb_ (mw0 E) k_))) 8))))) 69 31 (nI (((mwR E sg_ cb_ (mw0 E) k_).2.2.2 12) + (cnt (snoF E (nodF E (mwL1 E (sg_ k_) (cb_ k_) (mwR E sg_ cb_ (mw0 E) k_)))) 8))), μ2.2) by
        refine V_aload_n hX dX9_preach_186 0 rfl ?_
        refine V_getr (j := 76) hX fX9_38 rfl rfl dX9_preach_187 ?_
        refine V_iload_n hX dX9_preach_190 3 rfl ?_
        refine V_ialdN (x := nI (sg_ k_)) hX rfl (by first | omega | (have := sm_lt8 (nodF E l_) (n := 8) (by decide); omega)) (by decide) hser2 dX9_preach_191 ?_
        refine V_bipush (v := nI 104) hX dX9_preach_192 (by decide) ?_
        refine V_icmp_neN (tgt := 201) hX dX9_preach_194 (by decide) (by first | omega | (have := sm_lt8 (nodF E l_) (n := 8) (by decide); omega)) (by first | omega | (have := sm_lt8 (nodF E l_) (n := 8) (by decide); omega)) (fun c194 => ?_) (fun c194 => ?_)
        · refine V_aload_n hX dX9_preach_201 0 rfl ?_
          refine V_getr (j := 76) hX fX9_38 rfl rfl dX9_preach_202 ?_
          refine V_iload_n hX dX9_preach_205 3 rfl ?_
          refine V_ialdN (x := nI (sg_ k_)) hX rfl (by first | omega | (have := sm_lt8 (nodF E l_) (n := 8) (by decide); omega)) (by decide) hser2 dX9_preach_206 ?_
          refine V_bipush (v := nI 111) hX dX9_preach_207 (by decide) ?_
          refine V_icmp_neN (tgt := 216) hX dX9_preach_209 (by decide) (by first | omega | (have := sm_lt8 (nodF E l_) (n := 8) (by decide); omega)) (by first | omega | (have := sm_lt8 (nodF E l_) (n := 8) (by decide); omega)) (fun c209 => ?_) (fun c209 => ?_)
          · refine V_iconst (v := nI 0) hX dX9_preach_216 (by decide) ?_
            rw [show nI (giftN (sg_ k_)) = nI 0 from by rw [show giftN (sg_ k_) = 0 from (if_neg c194).trans (if_neg c209)]] at hJ186
            exact hJ186
          · refine V_iconst (v := nI 2) hX dX9_preach_212 (by decide) ?_
            refine V_goto (tgt := 217) hX dX9_preach_213 (by decide) ?_
            rw [show nI (giftN (sg_ k_)) = nI 2 from by rw [show giftN (sg_ k_) = 2 from (if_neg c194).trans (if_pos c209)]] at hJ186
            exact hJ186
        · refine V_iconst (v := nI 1) hX dX9_preach_197 (by decide) ?_
          refine V_goto (tgt := 217) hX dX9_preach_198 (by decide) ?_
          rw [show nI (giftN (sg_ k_)) = nI 1 from by rw [show giftN (sg_ k_) = 1 from if_pos c194]] at hJ186
          exact hJ186
      refine V_istore (ls' := [(0, .ref 69), (1, .int (nI M_)), (2, .int (nI (sm (fun h => h) (seeB E) 8))), (3, .int (nI k_)), (4, .int (nI (sm (fun h => h) (dipF E (sg_ k_) (mwL1 E (sg_ k_) (cb_ k_) (mwR E sg_ cb_ (mw0 E) k_))) 8))), (5, .int (nI (giftN (sg_ k_))))]) hX dX9_preach_217 (by decide) rfl ?_
      refine V_aload_n hX dX9_preach_219 0 rfl ?_
      refine V_dup hX dX9_preach_220 rfl ?_
      refine V_getN (x := nI ((mwR E sg_ cb_ (mw0 E) k_).2.2.2 10)) hX fX9_150 rfl ((hp.2.2.2.2.1 30 (by decide) (by decide)).trans hV.2.2.2.1.2.2.2.1) dX9_preach_221 ?_
      refine V_iload hX dX9_preach_224 5 rfl ?_
      refine V_aload_n hX dX9_preach_226 0 rfl ?_
      refine V_getN (x := nI (E 0 4)) hX fX9_72 rfl hE.1.1 dX9_preach_227 ?_
      refine V_aload_n hX dX9_preach_230 0 rfl ?_
      refine V_getr (j := 79) hX fX9_47 rfl rfl dX9_preach_231 ?_
      refine V_iload_n hX dX9_preach_234 3 rfl ?_
      refine V_ialdN (x := nI (sm (fun h => h) (nodF E (mwL1 E (sg_ k_) (cb_ k_) (mwR E sg_ cb_ (mw0 E) k_))) 8)) hX rfl (by first | omega | (have := sm_lt8 (nodF E l_) (n := 8) (by decide); omega)) (by decide) hp.2.2.2.2.2.1.1 dX9_preach_235 ?_
      refine V_iconst (v := nI 4294967295) hX dX9_preach_236 (by decide) ?_
      refine V_ixorN hX dX9_preach_237 ?_
      refine V_iandN hX dX9_preach_238 ?_
      rw [show (E 0 4) &&& ((sm (fun h => h) (nodF E (mwL1 E (sg_ k_) (cb_ k_) (mwR E sg_ cb_ (mw0 E) k_))) 8) ^^^ 4294967295) = sm (fun h => h) (othF E (nodF E (mwL1 E (sg_ k_) (cb_ k_) (mwR E sg_ cb_ (mw0 E) k_)))) 8 from othI h4 _]
      refine V_callS (As := [.int (nI (sm (fun h => h) (othF E (nodF E (mwL1 E (sg_ k_) (cb_ k_) (mwR E sg_ cb_ (mw0 E) k_)))) 8))]) (st := [.int (nI (giftN (sg_ k_))), .int (nI ((mwR E sg_ cb_ (mw0 E) k_).2.2.2 10)), .ref 69]) hX mX9_96 (k_bitsM (sm_lt8 _ (by decide)) (cntI _) ?_) rfl (Nat.le_of_ble_eq_true rfl) (Nat.le_of_ble_eq_true rfl) dX9_preach_239
      show V G 6 X 242 [(0, .ref 69), (1, .int (nI M_)), (2, .int (nI (sm (fun h => h) (seeB E) 8))), (3, .int (nI k_)), (4, .int (nI (sm (fun h => h) (dipF E (sg_ k_) (mwL1 E (sg_ k_) (cb_ k_) (mwR E sg_ cb_ (mw0 E) k_))) 8))), (5, .int (nI (giftN (sg_ k_))))] [.int (nI (cnt (othF E (nodF E (mwL1 E (sg_ k_) (cb_ k_) (mwR E sg_ cb_ (mw0 E) k_)))) 8)), .int (nI (giftN (sg_ k_))), .int (nI ((mwR E sg_ cb_ (mw0 E) k_).2.2.2 10)), .ref 69] (vup (vup (vup (vup μ2.1 69 27 (nI (((mwR E sg_ cb_ (mw0 E) k_).2.2.2 7) + (cnt (nodF E (mwL1 E (sg_ k_) (cb_ k_) (mwR E sg_ cb_ (mw0 E) k_))) 8)))) 69 28 (nI (((mwR E sg_ cb_ (mw0 E) k_).2.2.2 8) + (cnt (dipF E (sg_ k_) (mwL1 E (sg_ k_) (cb_ k_) (mwR E sg_ cb_ (mw0 E) k_))) 8)))) 69 29 (nI (((mwR E sg_ cb_ (mw0 E) k_).2.2.2 9) + ((E 0 2) * (cnt (seenF E (sg_ k_) (mwL1 E (sg_ k_) (cb_ k_) (mwR E sg_ cb_ (mw0 E) k_))) 8))))) 69 31 (nI (((mwR E sg_ cb_ (mw0 E) k_).2.2.2 12) + (cnt (snoF E (nodF E (mwL1 E (sg_ k_) (cb_ k_) (mwR E sg_ cb_ (mw0 E) k_)))) 8))), μ2.2)
      refine V_imulN hX dX9_preach_242 ?_
      refine V_iaddN hX dX9_preach_243 ?_
      refine V_puti hX fX9_150 fw_8_30 rfl dX9_preach_244 ?_
      show V G 6 X 247 [(0, .ref 69), (1, .int (nI M_)), (2, .int (nI (sm (fun h => h) (seeB E) 8))), (3, .int (nI k_)), (4, .int (nI (sm (fun h => h) (dipF E (sg_ k_) (mwL1 E (sg_ k_) (cb_ k_) (mwR E sg_ cb_ (mw0 E) k_))) 8))), (5, .int (nI (giftN (sg_ k_))))] [] (vup (vup (vup (vup (vup μ2.1 69 27 (nI (((mwR E sg_ cb_ (mw0 E) k_).2.2.2 7) + (cnt (nodF E (mwL1 E (sg_ k_) (cb_ k_) (mwR E sg_ cb_ (mw0 E) k_))) 8)))) 69 28 (nI (((mwR E sg_ cb_ (mw0 E) k_).2.2.2 8) + (cnt (dipF E (sg_ k_) (mwL1 E (sg_ k_) (cb_ k_) (mwR E sg_ cb_ (mw0 E) k_))) 8)))) 69 29 (nI (((mwR E sg_ cb_ (mw0 E) k_).2.2.2 9) + ((E 0 2) * (cnt (seenF E (sg_ k_) (mwL1 E (sg_ k_) (cb_ k_) (mwR E sg_ cb_ (mw0 E) k_))) 8))))) 69 31 (nI (((mwR E sg_ cb_ (mw0 E) k_).2.2.2 12) + (cnt (snoF E (nodF E (mwL1 E (sg_ k_) (cb_ k_) (mwR E sg_ cb_ (mw0 E) k_)))) 8)))) 69 30 (nI (((mwR E sg_ cb_ (mw0 E) k_).2.2.2 10) + ((giftN (sg_ k_)) * (cnt (othF E (nodF E (mwL1 E (sg_ k_) (cb_ k_) (mwR E sg_ cb_ (mw0 E) k_)))) 8)))), μ2.2)
      refine V_iincN (n := 1) (ls' := [(0, .ref 69), (1, .int (nI M_)), (2, .int (nI (sm (fun h => h) (seeB E) 8))), (3, .int (nI (k_ + 1))), (4, .int (nI (sm (fun h => h) (dipF E (sg_ k_) (mwL1 E (sg_ k_) (cb_ k_) (mwR E sg_ cb_ (mw0 E) k_))) 8))), (5, .int (nI (giftN (sg_ k_))))]) hX dX9_preach_247 3 rfl (by decide) rfl ?_
      refine V_goto (tgt := 90) hX dX9_preach_250 (by decide) ?_
      have hrow := (fun a ha => by dsimp only; rw [vup_row _ _ _ ha, vup_row _ _ _ ha, vup_row _ _ _ ha, vup_row _ _ _ ha, vup_row _ _ _ ha] : ∀ a, a ≠ 69 → ((vup (vup (vup (vup (vup μ2.1 69 27 (nI (((mwR E sg_ cb_ (mw0 E) k_).2.2.2 7) + (cnt (nodF E (mwL1 E (sg_ k_) (cb_ k_) (mwR E sg_ cb_ (mw0 E) k_))) 8)))) 69 28 (nI (((mwR E sg_ cb_ (mw0 E) k_).2.2.2 8) + (cnt (dipF E (sg_ k_) (mwL1 E (sg_ k_) (cb_ k_) (mwR E sg_ cb_ (mw0 E) k_))) 8)))) 69 29 (nI (((mwR E sg_ cb_ (mw0 E) k_).2.2.2 9) + ((E 0 2) * (cnt (seenF E (sg_ k_) (mwL1 E (sg_ k_) (cb_ k_) (mwR E sg_ cb_ (mw0 E) k_))) 8))))) 69 31 (nI (((mwR E sg_ cb_ (mw0 E) k_).2.2.2 12) + (cnt (snoF E (nodF E (mwL1 E (sg_ k_) (cb_ k_) (mwR E sg_ cb_ (mw0 E) k_)))) 8)))) 69 30 (nI (((mwR E sg_ cb_ (mw0 E) k_).2.2.2 10) + ((giftN (sg_ k_)) * (cnt (othF E (nodF E (mwL1 E (sg_ k_) (cb_ k_) (mwR E sg_ cb_ (mw0 E) k_)))) 8)))), μ2.2) : VS).1 a = μ2.1 a)
      have hslot : ∀ q, q < 27 ∨ 31 < q → ((vup (vup (vup (vup (vup μ2.1 69 27 (nI (((mwR E sg_ cb_ (mw0 E) k_).2.2.2 7) + (cnt (nodF E (mwL1 E (sg_ k_) (cb_ k_) (mwR E sg_ cb_ (mw0 E) k_))) 8)))) 69 28 (nI (((mwR E sg_ cb_ (mw0 E) k_).2.2.2 8) + (cnt (dipF E (sg_ k_) (mwL1 E (sg_ k_) (cb_ k_) (mwR E sg_ cb_ (mw0 E) k_))) 8)))) 69 29 (nI (((mwR E sg_ cb_ (mw0 E) k_).2.2.2 9) + ((E 0 2) * (cnt (seenF E (sg_ k_) (mwL1 E (sg_ k_) (cb_ k_) (mwR E sg_ cb_ (mw0 E) k_))) 8))))) 69 31 (nI (((mwR E sg_ cb_ (mw0 E) k_).2.2.2 12) + (cnt (snoF E (nodF E (mwL1 E (sg_ k_) (cb_ k_) (mwR E sg_ cb_ (mw0 E) k_)))) 8)))) 69 30 (nI (((mwR E sg_ cb_ (mw0 E) k_).2.2.2 10) + ((giftN (sg_ k_)) * (cnt (othF E (nodF E (mwL1 E (sg_ k_) (cb_ k_) (mwR E sg_ cb_ (mw0 E) k_)))) 8)))), μ2.2) : VS).1 69 q = μ2.1 69 q := fun q hq => by dsimp only; rw [vup_ne (by omega), vup_ne (by omega), vup_ne (by omega), vup_ne (by omega), vup_ne (by omega)]
      refine V_sub [0, 1, 2, 3] rfl (ih (k_ + 1) _ (by omega) (by omega) ⟨⟨fun a k hk => ?_, by dsimp only; rw [hp.1.2, hV.1.2]⟩, fun h hh => ?_, ⟨?_, ?_⟩, ⟨?_, ?_, ?_, ?_, ?_⟩, fun m hm => ?_, fun m hm h hh => ?_⟩)
      · by_cases e : a = 69
        · subst e
          rw [hslot k (by unfold mScr at hk; omega), hp.1.1 69 k hk, hV.1.1 69 k hk]
        · rw [hrow a e, hp.1.1 a k hk, hV.1.1 a k hk]
      · rw [hrow 78 (by decide)]; exact hp.2.1 h hh
      · rw [hslot 26 (by decide)]; exact hp.2.2.1
      · rw [hslot 25 (by decide)]; exact hp.2.2.2.1
      · rfl
      · rfl
      · rfl
      · rfl
      · rfl
      · rw [hrow 79 (by decide), hrow 80 (by decide), hrow 81 (by decide)]
        by_cases e : m = k_
        · subst e; exact hp.2.2.2.2.2.1
        · have z := hp.2.2.2.2.2.2.1 m e; rw [z.1, z.2.1, z.2.2]; exact hV.2.2.2.2.1 m (by omega)
      · rw [hrow 82 (by decide)]
        by_cases e : m = k_
        · subst e; exact hp.2.2.2.2.2.2.2.1 h hh
        · rw [hp.2.2.2.2.2.2.2.2 _ (by omega)]; exact hV.2.2.2.2.2 m (by omega) h hh
set_option maxRecDepth 100000 in
set_option maxHeartbeats 4000000 in
theorem kM_preach {G : VG} {d : Nat} {μ : VS} {Q : Option Value → VS → Prop} {M_ cm_ : Nat} {E : PC} {sg_ : Nat → Nat} {cb_ : Nat → Bool} (hE0 : isE μ E) (hok : okP E) (hcm : μ.1 69 19 = nI cm_) (hM61 : M_ ≤ 61) (hser : ∀ i, i < M_ → μ.1 76 i = nI (sg_ i)) (hsg : ∀ i, i < M_ → sg_ i < 1000) (hcb : ∀ i, i < M_ → cbOK cm_ i (cb_ i)) (hQ : ∀ μ', prR E sg_ cb_ μ μ' M_ → Q none μ') : Call G (d + 4) yX9_preach cX9_preach 6 none [.ref 69, .int (nI M_)] μ Q := by
  intro X hX hR
  show V G 6 X 0 [(0, .ref 69), (1, .int (nI M_))] [] μ
  refine V_aload_n hX dX9_preach_0 0 rfl ?_
  refine V_iconst (v := nI 0) hX dX9_preach_1 (by decide) ?_
  refine V_puti hX fX9_125 fw_8_25 rfl dX9_preach_2 ?_
  show V G 6 X 5 [(0, .ref 69), (1, .int (nI M_))] [] (vup μ.1 69 25 (nI 0), μ.2)
  refine V_aload_n hX dX9_preach_5 0 rfl ?_
  refine V_iconst (v := nI 0) hX dX9_preach_6 (by decide) ?_
  refine V_puti hX fX9_128 fw_8_26 rfl dX9_preach_7 ?_
  show V G 6 X 10 [(0, .ref 69), (1, .int (nI M_))] [] (vup (vup μ.1 69 25 (nI 0)) 69 26 (nI 0), μ.2)
  refine V_aload_n hX dX9_preach_10 0 rfl ?_
  refine V_iconst (v := nI 0) hX dX9_preach_11 (by decide) ?_
  refine V_puti hX fX9_141 fw_8_27 rfl dX9_preach_12 ?_
  show V G 6 X 15 [(0, .ref 69), (1, .int (nI M_))] [] (vup (vup (vup μ.1 69 25 (nI 0)) 69 26 (nI 0)) 69 27 (nI 0), μ.2)
  refine V_aload_n hX dX9_preach_15 0 rfl ?_
  refine V_iconst (v := nI 0) hX dX9_preach_16 (by decide) ?_
  refine V_puti hX fX9_144 fw_8_28 rfl dX9_preach_17 ?_
  show V G 6 X 20 [(0, .ref 69), (1, .int (nI M_))] [] (vup (vup (vup (vup μ.1 69 25 (nI 0)) 69 26 (nI 0)) 69 27 (nI 0)) 69 28 (nI 0), μ.2)
  refine V_aload_n hX dX9_preach_20 0 rfl ?_
  refine V_iconst (v := nI 0) hX dX9_preach_21 (by decide) ?_
  refine V_puti hX fX9_147 fw_8_29 rfl dX9_preach_22 ?_
  show V G 6 X 25 [(0, .ref 69), (1, .int (nI M_))] [] (vup (vup (vup (vup (vup μ.1 69 25 (nI 0)) 69 26 (nI 0)) 69 27 (nI 0)) 69 28 (nI 0)) 69 29 (nI 0), μ.2)
  refine V_aload_n hX dX9_preach_25 0 rfl ?_
  refine V_iconst (v := nI 0) hX dX9_preach_26 (by decide) ?_
  refine V_puti hX fX9_150 fw_8_30 rfl dX9_preach_27 ?_
  show V G 6 X 30 [(0, .ref 69), (1, .int (nI M_))] [] (vup (vup (vup (vup (vup (vup μ.1 69 25 (nI 0)) 69 26 (nI 0)) 69 27 (nI 0)) 69 28 (nI 0)) 69 29 (nI 0)) 69 30 (nI 0), μ.2)
  refine V_aload_n hX dX9_preach_30 0 rfl ?_
  refine V_iconst (v := nI 0) hX dX9_preach_31 (by decide) ?_
  refine V_puti hX fX9_153 fw_8_31 rfl dX9_preach_32 ?_
  show V G 6 X 35 [(0, .ref 69), (1, .int (nI M_))] [] (vup (vup (vup (vup (vup (vup (vup μ.1 69 25 (nI 0)) 69 26 (nI 0)) 69 27 (nI 0)) 69 28 (nI 0)) 69 29 (nI 0)) 69 30 (nI 0)) 69 31 (nI 0), μ.2)
  refine V_iconst (v := nI 0) hX dX9_preach_35 (by decide) ?_
  refine V_istore_n (ls' := [(0, .ref 69), (1, .int (nI M_)), (2, .int (nI 0))]) hX dX9_preach_36 (by decide) rfl ?_
  refine V_iconst (v := nI 0) hX dX9_preach_37 (by decide) ?_
  refine V_istore_n (ls' := [(0, .ref 69), (1, .int (nI M_)), (2, .int (nI 0)), (3, .int (nI 0))]) hX dX9_preach_38 (by decide) rfl ?_
  have hEz : isE (vup (vup (vup (vup (vup (vup (vup μ.1 69 25 (nI 0)) 69 26 (nI 0)) 69 27 (nI 0)) 69 28 (nI 0)) 69 29 (nI 0)) 69 30 (nI 0)) 69 31 (nI 0), μ.2) E := hE0.same ⟨fun a k hk => by dsimp only; (repeat rw [vup_get, if_neg (by intro z; exact hk (Or.inr (by omega)))]), rfl⟩
  refine lpM_pr1 hX hEz hok (fun μ1 hV => ?_) 9 0 _ (by decide) (by decide) ⟨fun _ _ => rfl, fun h hh => absurd hh (by omega), rfl⟩
  refine V_iconst (v := nI 0) hX dX9_preach_88 (by decide) ?_
  refine V_istore_n (ls' := [(0, .ref 69), (1, .int (nI M_)), (2, .int (nI (sm (fun h => h) (seeB E) 8))), (3, .int (nI 0))]) hX dX9_preach_89 (by decide) rfl ?_
  refine lpM_pr2 hX hE0 hok hcm hM61 hser hsg hcb (fun μ2 hW => ?_) (M_ + 1) 0 μ1 (by omega) (by omega) ⟨⟨fun a k hk => ?_, hV.2.2⟩, hV.2.1, ⟨?_, ?_⟩, ⟨?_, ?_, ?_, ?_, ?_⟩, fun m hm => absurd hm (by omega), fun m hm => absurd hm (by omega)⟩
  · refine V_vret hX rfl dX9_preach_253 ?_
    exact hR _ _ (hQ μ2 hW)
  · rw [hV.1 a (by intro e; subst e; exact hk (Or.inl (by omega)))]
    dsimp only
    (repeat rw [vup_get, if_neg (by intro z; exact hk (Or.inr (by omega)))])
  · rw [hV.1 69 (by decide)]; rfl
  · rw [hV.1 69 (by decide)]; rfl
  · rw [hV.1 69 (by decide)]; rfl
  · rw [hV.1 69 (by decide)]; rfl
  · rw [hV.1 69 (by decide)]; rfl
  · rw [hV.1 69 (by decide)]; rfl
  · rw [hV.1 69 (by decide)]; rfl
