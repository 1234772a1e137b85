theorem oth_mask {P : PC} {f : Nat → Bool} (hok : okP P) (hf : ∀ h, h < 8 → f h = true → pPres P h = true) : sm (P 1) (pPres P) 8 &&& (sm (P 1) f 8 ^^^ 4294967295) = sm (P 1) (othF P f) 8 :=
  sm_diff (e := pPres P) hok.2.2.2.2.2.2.2.2.2.2 (fun _ _ h => h) hf (fun h hh _ => by have := (hok.2.2.2.2.2.2.2.1 h hh).1; omega)
theorem elb_pres {P : PC} {f : Nat → Bool} (hf : ∀ h, h < 8 → f h = true → pPres P h = true) : ∀ h, h < 8 → elbF P f h = true → pPres P h = true := fun h hh q => by
  unfold elbF at q
  rw [Bool.and_eq_true] at q
  exact hf h hh q.1
def elR (P : PC) (f : Nat → Bool) (l : Nat → Nat) (w : Nat) (μ μ1 : VS) (k : Nat) : Prop := (∀ a, a ≠ w + 1 → μ1.1 a = μ.1 a) ∧ (∀ h, h < 8 → μ1.1 (w + 1) h = nI (if h < k then lev2 P f l h else l h)) ∧ μ1.2 = μ.2
theorem elR.skip {P : PC} {f : Nat → Bool} {l : Nat → Nat} {w : Nat} {μ μ1 : VS} {k : Nat} (h : elR P f l w μ μ1 k) (he : ¬ elbF P f k = true) : elR P f l w μ μ1 (k + 1) := by
  refine ⟨h.1, fun g hg => ?_, h.2.2⟩
  rw [h.2.1 g hg]
  congr 1
  by_cases e : g = k
  · subst e
    rw [if_neg (by omega), if_pos (by omega)]
    unfold lev2
    rw [if_neg he]
  · by_cases q : g < k
    · rw [if_pos q, if_pos (by omega)]
    · rw [if_neg q, if_neg (by omega)]
theorem elR.step {P : PC} {f : Nat → Bool} {l : Nat → Nat} {w : Nat} {μ μ1 : VS} {k : Nat} (h : elR P f l w μ μ1 k) (he : elbF P f k = true) : elR P f l w μ (vup μ1.1 (w + 1) k (nI (min 2 (P 2 k))), μ1.2) (k + 1) := by
  refine ⟨fun a ha => ?_, fun g hg => ?_, h.2.2⟩
  · dsimp only
    rw [vup_row _ _ _ ha, h.1 a ha]
  · dsimp only
    rw [vup_get]
    by_cases e : g = k
    · subst e
      rw [if_pos ⟨rfl, rfl⟩, if_pos (by omega)]
      unfold lev2
      rw [if_pos he]
    · rw [if_neg (by omega), h.2.1 g hg]
      by_cases q : g < k
      · rw [if_pos q, if_pos (by omega)]
      · rw [if_neg q, if_neg (by omega)]
theorem sm0_no {s : Nat → Nat} {f : Nat → Bool} {n h : Nat} (e : sm s f n = 0) (hh : h < n) : ¬ f h = true := fun q => by
  have := sm_iff (s := s) (f := f) (n := n) (b := s h) |>.mpr ⟨h, hh, q, rfl⟩
  rw [e] at this
  simp at this
theorem min2_I {A : Nat} (h : A ≤ 1000) : (if nI A < nI 2 then nI A else nI 2) = nI (min 2 A) := by
  by_cases q : A < 2
  · rw [if_pos (nI_lt q (by decide)), show min 2 A = A by omega]
  · rw [if_neg (nI_nlt (by omega) (by omega)), show min 2 A = 2 by omega]
set_option maxRecDepth 100000 in
set_option maxHeartbeats 4000000 in
theorem lp_elbow {G : VG} {d : Nat} {X : VX} {μ : VS} {w_ p_ : Nat} {P : PC} {l_ : Nat → Nat} (hX : Cx G (d + 2) yX6_elbow cX6_elbow 5 none X) (hkw : vk w_ = (5, 0)) (hkp : vk p_ = (3, 0)) (hP0 : isP μ p_ P) (hok : okP P) (hl0 : ∀ h, h < 8 → μ.1 (w_ + 1) h = nI (l_ h))  (hE : ∀ μ1, (∀ a, a ≠ w_ + 1 → μ1.1 a = μ.1 a) → (∀ h, h < 8 → μ1.1 (w_ + 1) h = nI (lev2 P (nodF P l_) l_ h)) → μ1.2 = μ.2 → ∀ k_ : Nat, V G 5 X 88 [(0, .ref w_), (1, .ref p_), (2, .int (nI (sm (P 1) (othF P (nodF P l_)) 8))), (3, .int (nI (sm (P 1) (elbF P (nodF P l_)) 8))), (4, .int (nI k_))] [] μ1) : ∀ (j k_ : Nat) (μ1 : VS), k_ ≤ 8 → 9 ≤ k_ + j → elR P (nodF P l_) l_ w_ μ μ1 k_ → V G 5 X 30 [(0, .ref w_), (1, .ref p_), (2, .int (nI (sm (P 1) (othF P (nodF P l_)) 8))), (3, .int (nI (sm (P 1) (elbF P (nodF P l_)) 8))), (4, .int (nI k_))] [] μ1 := by
  have hap := pw_apart hkp hkw
  have hP4 := hok.2.2.2.2.1
  have hP5 := hok.2.2.2.2.2.1
  have h12 : ∀ h, h < 8 → P 1 h < 12 := fun h hh => (hok.2.2.2.2.2.2.2.1 h hh).1
  have hinj := hok.2.2.2.2.2.2.2.2.2.2
  intro j
  induction j with
  | zero =>
    intro k_ μ1 h1 h2
    exact absurd h2 (by omega)
  | succ j ih =>
    intro k_ μ1 h1 h2 hL
    have hP : isP μ1 p_ P := hP0.frame (fun j hj => hL.1 _ (by omega))
    refine V_iload_n hX dX6_elbow_30 3 rfl ?_
    refine V_if_eqN (tgt := 88) hX dX6_elbow_31 (by decide) (by first | omega | exact and1_lt _ _ | (have := sm_lt12 h12 (elbF P (nodF P l_)) (n := 8) (by decide); omega) | (have := h12 k_ (by omega); omega)) (fun c31 => ?_) (fun c31 => ?_)
    · exact hE μ1 hL.1 (fun h hh => by rw [hL.2.1 h hh]; congr 1; unfold lev2; rw [if_neg (sm0_no c31 hh)]; split <;> rfl) hL.2.2 k_
    · refine V_iload hX dX6_elbow_34 4 rfl ?_
      refine V_bipush (v := nI 8) hX dX6_elbow_36 (by decide) ?_
      refine V_icmp_geN (tgt := 88) hX dX6_elbow_38 (by decide) (by first | omega | exact and1_lt _ _ | (have := sm_lt12 h12 (elbF P (nodF P l_)) (n := 8) (by decide); omega) | (have := h12 k_ (by omega); omega)) (by first | omega | exact and1_lt _ _ | (have := sm_lt12 h12 (elbF P (nodF P l_)) (n := 8) (by decide); omega) | (have := h12 k_ (by omega); omega)) (fun c38 => ?_) (fun c38 => ?_)
      · exact hE μ1 hL.1 (fun h hh => by rw [hL.2.1 h hh, if_pos (by omega)]) hL.2.2 k_
      · refine V_aload_n hX dX6_elbow_41 1 rfl ?_
        refine V_iload hX dX6_elbow_42 4 rfl ?_
        refine V_callV (As := [.int (nI k_)]) (st := []) hX mX6_94 hkp (kC_isThere hkp hP (by omega) ?_) rfl (Nat.le_of_ble_eq_true rfl) (Nat.le_of_ble_eq_true rfl) dX6_elbow_44
        show V G 5 X 47 [(0, .ref w_), (1, .ref p_), (2, .int (nI (sm (P 1) (othF P (nodF P l_)) 8))), (3, .int (nI (sm (P 1) (elbF P (nodF P l_)) 8))), (4, .int (nI k_))] [.int (bI (thr P (nI k_)))] μ1
        refine V_if_eqB (tgt := 82) hX dX6_elbow_47 (by decide) (fun c47 => ?_) (fun c47 => ?_)
        · refine V_iincN (n := 1) (ls' := [(0, .ref w_), (1, .ref p_), (2, .int (nI (sm (P 1) (othF P (nodF P l_)) 8))), (3, .int (nI (sm (P 1) (elbF P (nodF P l_)) 8))), (4, .int (nI (k_ + 1)))]) hX dX6_elbow_82 4 rfl (by decide) rfl ?_
          refine V_goto (tgt := 30) hX dX6_elbow_85 (by decide) ?_
          exact ih (k_ + 1) _ (by omega) (by omega) (hL.skip (fun z => c47 (thr_of (by omega) (elb_pres (fun _ _ => nod_pres) k_ (by omega) z))))
        · refine V_iload_n hX dX6_elbow_50 3 rfl ?_
          refine V_aload_n hX dX6_elbow_51 1 rfl ?_
          refine V_getr (j := p_ + 1) hX fX6_114 hkp rfl dX6_elbow_52 ?_
          refine V_iload hX dX6_elbow_55 4 rfl ?_
          refine V_ialdN (x := nI (P 1 k_)) hX (vk_par hkp 0 (by decide)) (by first | omega | exact and1_lt _ _ | (have := sm_lt12 h12 (elbF P (nodF P l_)) (n := 8) (by decide); omega) | (have := h12 k_ (by omega); omega)) (by decide) (hP.2 0 (by decide) _ (by omega)) dX6_elbow_57 ?_
          refine V_ishrN hX dX6_elbow_58 (by first | omega | exact and1_lt _ _ | (have := sm_lt12 h12 (elbF P (nodF P l_)) (n := 8) (by decide); omega) | (have := h12 k_ (by omega); omega)) (by first | omega | exact and1_lt _ _ | (have := sm_lt12 h12 (elbF P (nodF P l_)) (n := 8) (by decide); omega) | (have := h12 k_ (by omega); omega)) ?_
          refine V_iconst (v := nI 1) hX dX6_elbow_59 (by decide) ?_
          refine V_iandN hX dX6_elbow_60 ?_
          refine V_if_eqN (tgt := 82) hX dX6_elbow_61 (by decide) (by first | omega | exact and1_lt _ _ | (have := sm_lt12 h12 (elbF P (nodF P l_)) (n := 8) (by decide); omega) | (have := h12 k_ (by omega); omega)) (fun c61 => ?_) (fun c61 => ?_)
          · refine V_iincN (n := 1) (ls' := [(0, .ref w_), (1, .ref p_), (2, .int (nI (sm (P 1) (othF P (nodF P l_)) 8))), (3, .int (nI (sm (P 1) (elbF P (nodF P l_)) 8))), (4, .int (nI (k_ + 1)))]) hX dX6_elbow_82 4 rfl (by decide) rfl ?_
            refine V_goto (tgt := 30) hX dX6_elbow_85 (by decide) ?_
            exact ih (k_ + 1) _ (by omega) (by omega) (hL.skip (fun z => shr_test0 c61 (by rw [sm_at (e := pPres P) hinj (elb_pres (fun _ _ => nod_pres)) (by omega) (thr_pres (by omega) c47)]; exact z)))
          · refine V_aload_n hX dX6_elbow_64 0 rfl ?_
            refine V_getr (j := w_ + 1) hX fX6_9 hkw rfl dX6_elbow_65 ?_
            refine V_iload hX dX6_elbow_68 4 rfl ?_
            refine V_iconst (v := nI 2) hX dX6_elbow_70 (by decide) ?_
            refine V_aload_n hX dX6_elbow_71 1 rfl ?_
            refine V_getr (j := p_ + 2) hX fX6_52 hkp rfl dX6_elbow_72 ?_
            refine V_iload hX dX6_elbow_75 4 rfl ?_
            refine V_ialdN (x := nI (P 2 k_)) hX (vk_par hkp 1 (by decide)) (by first | omega | exact and1_lt _ _ | (have := sm_lt12 h12 (elbF P (nodF P l_)) (n := 8) (by decide); omega) | (have := h12 k_ (by omega); omega)) (by decide) (hP.2 1 (by decide) _ (by omega)) dX6_elbow_77 ?_
            refine V_mmin hX mX6_111 mmin1 mmath2 mmin3 (Nat.le_of_ble_eq_true rfl) dX6_elbow_78 ?_
            rw [show (if (nI (P 2 k_)) < (nI 2) then (nI (P 2 k_)) else (nI 2)) = nI (min 2 (P 2 k_)) from min2_I (by have := (hok.2.2.2.2.2.2.2.1 k_ (by omega)).2.1; omega)]
            refine V_iastN hX (vk_wlk hkw) (by first | omega | exact and1_lt _ _ | (have := sm_lt12 h12 (elbF P (nodF P l_)) (n := 8) (by decide); omega) | (have := h12 k_ (by omega); omega)) (by decide) dX6_elbow_81 ?_
            show V G 5 X 82 [(0, .ref w_), (1, .ref p_), (2, .int (nI (sm (P 1) (othF P (nodF P l_)) 8))), (3, .int (nI (sm (P 1) (elbF P (nodF P l_)) 8))), (4, .int (nI k_))] [] (vup μ1.1 (w_ + 1) k_ (nI (min 2 (P 2 k_))), μ1.2)
            refine V_iincN (n := 1) (ls' := [(0, .ref w_), (1, .ref p_), (2, .int (nI (sm (P 1) (othF P (nodF P l_)) 8))), (3, .int (nI (sm (P 1) (elbF P (nodF P l_)) 8))), (4, .int (nI (k_ + 1)))]) hX dX6_elbow_82 4 rfl (by decide) rfl ?_
            refine V_goto (tgt := 30) hX dX6_elbow_85 (by decide) ?_
            exact ih (k_ + 1) _ (by omega) (by omega) (hL.step (by have z := shr_test1 c61; rw [sm_at (e := pPres P) hinj (elb_pres (fun _ _ => nod_pres)) (by omega) (thr_pres (by omega) c47)] at z; exact z))
set_option maxRecDepth 100000 in
set_option maxHeartbeats 4000000 in
theorem k_elbow {G : VG} {d : Nat} {μ : VS} {Q : Option Value → VS → Prop} {w_ p_ : Nat} {P : PC} {l_ : Nat → Nat} (hkw : vk w_ = (5, 0)) (hkp : vk p_ = (3, 0)) (hP0 : isP μ p_ P) (hok : okP P) (hl0 : ∀ h, h < 8 → μ.1 (w_ + 1) h = nI (l_ h)) (h3 : μ.1 w_ 3 = nI (sm (P 1) (pPres P) 8)) (h4 : μ.1 w_ 4 = nI (sm (P 1) (nodF P l_) 8)) (hQ : ∀ μ', (∀ a, a ≠ w_ + 1 → μ'.1 a = μ.1 a) → (∀ h, h < 8 → μ'.1 (w_ + 1) h = nI (lev2 P (nodF P l_) l_ h)) → μ'.2 = μ.2 → Q none μ') : Call G (d + 2) yX6_elbow cX6_elbow 5 none [.ref w_, .ref p_] μ Q := by
  intro X hX hR
  have hap := pw_apart hkp hkw
  have hP4 := hok.2.2.2.2.1
  have hP5 := hok.2.2.2.2.2.1
  have h12 : ∀ h, h < 8 → P 1 h < 12 := fun h hh => (hok.2.2.2.2.2.2.2.1 h hh).1
  have hinj := hok.2.2.2.2.2.2.2.2.2.2
  show V G 5 X 0 [(0, .ref w_), (1, .ref p_)] [] μ
  refine V_aload_n hX dX6_elbow_0 0 rfl ?_
  refine V_getN (x := nI (sm (P 1) (pPres P) 8)) hX fX6_22 hkw h3 dX6_elbow_1 ?_
  refine V_aload_n hX dX6_elbow_4 0 rfl ?_
  refine V_getN (x := nI (sm (P 1) (nodF P l_) 8)) hX fX6_25 hkw h4 dX6_elbow_5 ?_
  refine V_iconst (v := nI 4294967295) hX dX6_elbow_8 (by decide) ?_
  refine V_ixorN hX dX6_elbow_9 ?_
  refine V_iandN hX dX6_elbow_10 ?_
  rw [show (sm (P 1) (pPres P) 8) &&& ((sm (P 1) (nodF P l_) 8) ^^^ 4294967295) = sm (P 1) (othF P (nodF P l_)) 8 from oth_mask hok (fun _ _ => nod_pres)]
  refine V_istore_n (ls' := [(0, .ref w_), (1, .ref p_), (2, .int (nI (sm (P 1) (othF P (nodF P l_)) 8)))]) hX dX6_elbow_11 (by decide) rfl ?_
  refine V_aload_n hX dX6_elbow_12 0 rfl ?_
  refine V_getN (x := nI (sm (P 1) (nodF P l_) 8)) hX fX6_25 hkw h4 dX6_elbow_13 ?_
  refine V_iload_n hX dX6_elbow_16 2 rfl ?_
  refine V_callS (As := [.int (nI (sm (P 1) (othF P (nodF P l_)) 8))]) (st := [.int (nI (sm (P 1) (nodF P l_) 8))]) hX mX6_126 (k_rightOf (sm_lt12 h12 _ (by decide)) ?_) rfl (Nat.le_of_ble_eq_true rfl) (Nat.le_of_ble_eq_true rfl) dX6_elbow_17
  show V G 5 X 20 [(0, .ref w_), (1, .ref p_), (2, .int (nI (sm (P 1) (othF P (nodF P l_)) 8)))] [.int (nI (rgtM (sm (P 1) (othF P (nodF P l_)) 8))), .int (nI (sm (P 1) (nodF P l_) 8))] μ
  refine V_iload_n hX dX6_elbow_20 2 rfl ?_
  refine V_callS (As := [.int (nI (sm (P 1) (othF P (nodF P l_)) 8))]) (st := [.int (nI (rgtM (sm (P 1) (othF P (nodF P l_)) 8))), .int (nI (sm (P 1) (nodF P l_) 8))]) hX mX6_129 (k_leftOf (sm_lt12 h12 _ (by decide)) ?_) rfl (Nat.le_of_ble_eq_true rfl) (Nat.le_of_ble_eq_true rfl) dX6_elbow_21
  show V G 5 X 24 [(0, .ref w_), (1, .ref p_), (2, .int (nI (sm (P 1) (othF P (nodF P l_)) 8)))] [.int (nI (lftM (sm (P 1) (othF P (nodF P l_)) 8))), .int (nI (rgtM (sm (P 1) (othF P (nodF P l_)) 8))), .int (nI (sm (P 1) (nodF P l_) 8))] μ
  refine V_iorN hX dX6_elbow_24 ?_
  refine V_iandN hX dX6_elbow_25 ?_
  rw [show (sm (P 1) (nodF P l_) 8) &&& ((rgtM (sm (P 1) (othF P (nodF P l_)) 8)) ||| (lftM (sm (P 1) (othF P (nodF P l_)) 8))) = sm (P 1) (elbF P (nodF P l_)) 8 from elb_mask h12]
  refine V_istore_n (ls' := [(0, .ref w_), (1, .ref p_), (2, .int (nI (sm (P 1) (othF P (nodF P l_)) 8))), (3, .int (nI (sm (P 1) (elbF P (nodF P l_)) 8)))]) hX dX6_elbow_26 (by decide) rfl ?_
  refine V_iconst (v := nI 0) hX dX6_elbow_27 (by decide) ?_
  refine V_istore (ls' := [(0, .ref w_), (1, .ref p_), (2, .int (nI (sm (P 1) (othF P (nodF P l_)) 8))), (3, .int (nI (sm (P 1) (elbF P (nodF P l_)) 8))), (4, .int (nI 0))]) hX dX6_elbow_28 (by decide) rfl ?_
  refine lp_elbow hX hkw hkp hP0 hok hl0 (fun μ1 g1 g2 g3 k9 => ?_) 9 0 μ (by decide) (by decide) ⟨fun _ _ => rfl, fun h hh => by rw [hl0 h hh, if_neg (by omega)], rfl⟩
  refine V_vret hX rfl dX6_elbow_88 ?_
  exact hR _ _ (hQ μ1 g1 g2 g3)
def giftN (sg : Nat) : Nat := if sg = 104 then 1 else if sg = 111 then 2 else 0
def dipF (P : PC) (sg : Nat) (l : Nat → Nat) (h : Nat) : Bool := nodF P l h || agrF P sg l h
def seenF (P : PC) (sg : Nat) (l : Nat → Nat) (h : Nat) : Bool := dipF P sg l h && decide (P 0 3 * 4 ≤ P 1 h)
/-- what all minutes came to, with one more -/
def cntT (P : PC) (sg : Nat) (l : Nat → Nat) (T : Nat → Nat) (k : Nat) : Nat := match k with
  | 7 => T 7 + cnt (nodF P l) 8
  | 8 => T 8 + cnt (dipF P sg l) 8
  | 9 => T 9 + P 0 2 * cnt (seenF P sg l) 8
  | 10 => T 10 + giftN sg * cnt (othF P (nodF P l)) 8
  | 11 => T 11 + giftN sg * cnt (nodF P l) 8
  | 12 => T 12 + cnt (snoF P (nodF P l)) 8
  | k => T k
theorem k_bitCountM {G : VG} {d : Nat} {μ : VS} {Q : Option Value → VS → Prop} {a c : Nat} (ha : a < 4096) (e : popN a 12 = c) (hQ : Q (some (.int (nI c))) μ) : Call G d yJ6_bitCount_0f7a4 cJ6_bitCount_0f7a4 1 (some .int) [.int (nI a)] μ Q := k_bitCount ha (by rw [e]; exact hQ)
theorem cntM {P : PC} (hok : okP P) {f : Nat → Bool} (hf : ∀ h, h < 8 → f h = true → pPres P h = true) : popN (sm (P 1) f 8) 12 = cnt f 8 := sm_pop (fun h hh _ => (hok.2.2.2.2.2.2.2.1 h hh).1) (fun h hh g hg h1 h2 => hok.2.2.2.2.2.2.2.2.2.2 h hh g hg (hf h hh h1) (hf g hg h2))
theorem dip_pres {P : PC} {sg : Nat} {l : Nat → Nat} : ∀ h, h < 8 → dipF P sg l h = true → pPres P h = true := fun h _ q => by
  unfold dipF at q
  rcases Bool.or_eq_true_iff.mp q with q | q
  · exact nod_pres q
  · exact agr_pres q
theorem oth_pres {P : PC} {f : Nat → Bool} : ∀ h, h < 8 → othF P f h = true → pPres P h = true := fun h _ q => by
  unfold othF at q
  rw [Bool.and_eq_true] at q
  exact q.1
theorem sno_pres {P : PC} {l : Nat → Nat} : ∀ h, h < 8 → snoF P (nodF P l) h = true → pPres P h = true := fun h _ q => by
  unfold snoF at q
  rw [Bool.and_eq_true, Bool.and_eq_true] at q
  exact nod_pres q.1.1
theorem seen_cnt {P : PC} (hok : okP P) {sg : Nat} {l : Nat → Nat} : popN (sm (P 1) (dipF P sg l) 8 >>> (P 0 3 * 4)) 12 = cnt (seenF P sg l) 8 := by
  rw [sm_shr]
  refine sm_pop (fun h hh _ => by have := (hok.2.2.2.2.2.2.2.1 h hh).1; omega) (fun h hh g hg h1 h2 h3 => ?_)
  rw [Bool.and_eq_true, decide_eq_true_eq] at h1 h2
  exact hok.2.2.2.2.2.2.2.2.2.2 h hh g hg (dip_pres h hh h1.1) (dip_pres g hg h2.1) (by omega)
theorem shr_lt {a k m : Nat} (h : a < m) : a >>> k < m := by
  rw [Nat.shiftRight_eq_div_pow]
  exact Nat.lt_of_le_of_lt (Nat.div_le_self _ _) h
set_option maxRecDepth 100000 in
set_option maxHeartbeats 4000000 in
theorem k_count {G : VG} {d : Nat} {μ : VS} {Q : Option Value → VS → Prop} {w_ p_ sg_ : Nat} {P : PC} {l_ T_ : Nat → Nat} (hkw : vk w_ = (5, 0)) (hkp : vk p_ = (3, 0)) (hP0 : isP μ p_ P) (hok : okP P) (hsg : sg_ < 1000) (h3 : μ.1 w_ 3 = nI (sm (P 1) (pPres P) 8)) (h4 : μ.1 w_ 4 = nI (sm (P 1) (nodF P l_) 8)) (h5 : μ.1 w_ 5 = nI (sm (P 1) (agrF P sg_ l_) 8)) (h6 : μ.1 w_ 6 = nI (sm (P 1) (snoF P (nodF P l_)) 8)) (hT : ∀ k, 7 ≤ k → k ≤ 12 → μ.1 w_ k = nI (T_ k)) (hQ : ∀ μ', (∀ a, a ≠ w_ → μ'.1 a = μ.1 a) → (∀ q, q < 7 → μ'.1 w_ q = μ.1 w_ q) → (∀ k, 7 ≤ k → k ≤ 12 → μ'.1 w_ k = nI (cntT P sg_ l_ T_ k)) → μ'.2 = μ.2 → Q none μ') : Call G (d + 1) yX6_count cX6_count 7 none [.ref w_, .ref p_, .int (nI sg_)] μ Q := by
  intro X hX hR
  have hap := pw_apart hkp hkw
  have hP4 := hok.2.2.2.2.1
  have hP5 := hok.2.2.2.2.2.1
  have h12 : ∀ h, h < 8 → P 1 h < 12 := fun h hh => (hok.2.2.2.2.2.2.2.1 h hh).1
  have hinj := hok.2.2.2.2.2.2.2.2.2.2
  have hi3 := hok.2.2.2.1
  show V G 7 X 0 [(0, .ref w_), (1, .ref p_), (2, .int (nI sg_))] [] μ
  refine V_iload_n hX dX6_count_0 2 rfl ?_
  refine V_bipush (v := nI 104) hX dX6_count_1 (by decide) ?_
  refine V_icmp_neN (tgt := 10) hX dX6_count_3 (by decide) (by first | omega | (have := sm_lt12 h12 (dipF P sg_ l_) (n := 8) (by decide); omega)) (by first | omega | (have := sm_lt12 h12 (dipF P sg_ l_) (n := 8) (by decide); omega)) (fun c3 => ?_) (fun c3 => ?_)
  · refine V_iload_n hX dX6_count_10 2 rfl ?_
    refine V_bipush (v := nI 111) hX dX6_count_11 (by decide) ?_
    refine V_icmp_neN (tgt := 20) hX dX6_count_13 (by decide) (by first | omega | (have := sm_lt12 h12 (dipF P sg_ l_) (n := 8) (by decide); omega)) (by first | omega | (have := sm_lt12 h12 (dipF P sg_ l_) (n := 8) (by decide); omega)) (fun c13 => ?_) (fun c13 => ?_)
    · refine V_iconst (v := nI 0) hX dX6_count_20 (by decide) ?_
      refine V_istore_n (ls' := [(0, .ref w_), (1, .ref p_), (2, .int (nI sg_)), (3, .int (nI 0))]) hX dX6_count_21 (by decide) rfl ?_
      refine V_ls (ls' := [(0, .ref w_), (1, .ref p_), (2, .int (nI sg_)), (3, .int (nI (giftN sg_)))]) (by rw [show giftN sg_ = 0 from (if_neg c3).trans (if_neg c13)]) ?_
      refine V_aload_n hX dX6_count_22 1 rfl ?_
      refine V_getN (x := nI (P 0 3)) hX fX6_132 hkp (hP0.1 3 (by decide)) dX6_count_23 ?_
      refine V_iconst (v := nI 4) hX dX6_count_26 (by decide) ?_
      refine V_imulN hX dX6_count_27 ?_
      refine V_istore (ls' := [(0, .ref w_), (1, .ref p_), (2, .int (nI sg_)), (3, .int (nI (giftN sg_))), (4, .int (nI ((P 0 3) * 4)))]) hX dX6_count_28 (by decide) rfl ?_
      refine V_aload_n hX dX6_count_30 0 rfl ?_
      refine V_callV (As := []) (st := []) hX mX6_135 hkw (k_dipping hkw h4 h5 ?_) rfl (Nat.le_of_ble_eq_true rfl) (Nat.le_of_ble_eq_true rfl) dX6_count_31
      show V G 7 X 34 [(0, .ref w_), (1, .ref p_), (2, .int (nI sg_)), (3, .int (nI (giftN sg_))), (4, .int (nI ((P 0 3) * 4)))] [.int (nI (sm (P 1) (nodF P l_) 8 ||| sm (P 1) (agrF P sg_ l_) 8))] μ
      rw [show sm (P 1) (nodF P l_) 8 ||| sm (P 1) (agrF P sg_ l_) 8 = sm (P 1) (dipF P sg_ l_) 8 from sm_or _ _ _ _]
      refine V_istore (ls' := [(0, .ref w_), (1, .ref p_), (2, .int (nI sg_)), (3, .int (nI (giftN sg_))), (4, .int (nI ((P 0 3) * 4))), (5, .int (nI (sm (P 1) (dipF P sg_ l_) 8)))]) hX dX6_count_34 (by decide) rfl ?_
      refine V_aload_n hX dX6_count_36 0 rfl ?_
      refine V_getN (x := nI (sm (P 1) (nodF P l_) 8)) hX fX6_25 hkw h4 dX6_count_37 ?_
      refine V_callS (As := [.int (nI (sm (P 1) (nodF P l_) 8))]) (st := []) hX mX6_139 (k_bitCountM (sm_lt12 h12 _ (by decide)) (cntM hok (fun _ _ => nod_pres)) ?_) rfl (Nat.le_of_ble_eq_true rfl) (Nat.le_of_ble_eq_true rfl) dX6_count_40
      show V G 7 X 43 [(0, .ref w_), (1, .ref p_), (2, .int (nI sg_)), (3, .int (nI (giftN sg_))), (4, .int (nI ((P 0 3) * 4))), (5, .int (nI (sm (P 1) (dipF P sg_ l_) 8)))] [.int (nI (cnt (nodF P l_) 8))] μ
      refine V_istore (ls' := [(0, .ref w_), (1, .ref p_), (2, .int (nI sg_)), (3, .int (nI (giftN sg_))), (4, .int (nI ((P 0 3) * 4))), (5, .int (nI (sm (P 1) (dipF P sg_ l_) 8))), (6, .int (nI (cnt (nodF P l_) 8)))]) hX dX6_count_43 (by decide) rfl ?_
      refine V_aload_n hX dX6_count_45 0 rfl ?_
      refine V_dup hX dX6_count_46 rfl ?_
      refine V_getN (x := nI (T_ 7)) hX fX6_34 hkw (hT 7 (by decide) (by decide)) dX6_count_47 ?_
      refine V_iload hX dX6_count_50 6 rfl ?_
      refine V_iaddN hX dX6_count_52 ?_
      refine V_puti hX fX6_34 fw_5_7 hkw dX6_count_53 ?_
      show V G 7 X 56 [(0, .ref w_), (1, .ref p_), (2, .int (nI sg_)), (3, .int (nI (giftN sg_))), (4, .int (nI ((P 0 3) * 4))), (5, .int (nI (sm (P 1) (dipF P sg_ l_) 8))), (6, .int (nI (cnt (nodF P l_) 8)))] [] (vup μ.1 w_ 7 (nI ((T_ 7) + (cnt (nodF P l_) 8))), μ.2)
      refine V_aload_n hX dX6_count_56 0 rfl ?_
      refine V_dup hX dX6_count_57 rfl ?_
      refine V_getN (x := nI (T_ 8)) hX fX6_37 hkw ((vup_ne (by decide)).trans (hT 8 (by decide) (by decide))) dX6_count_58 ?_
      refine V_iload hX dX6_count_61 5 rfl ?_
      refine V_callS (As := [.int (nI (sm (P 1) (dipF P sg_ l_) 8))]) (st := [.int (nI (T_ 8)), .ref w_]) hX mX6_139 (k_bitCountM (sm_lt12 h12 _ (by decide)) (cntM hok dip_pres) ?_) rfl (Nat.le_of_ble_eq_true rfl) (Nat.le_of_ble_eq_true rfl) dX6_count_63
      show V G 7 X 66 [(0, .ref w_), (1, .ref p_), (2, .int (nI sg_)), (3, .int (nI (giftN sg_))), (4, .int (nI ((P 0 3) * 4))), (5, .int (nI (sm (P 1) (dipF P sg_ l_) 8))), (6, .int (nI (cnt (nodF P l_) 8)))] [.int (nI (cnt (dipF P sg_ l_) 8)), .int (nI (T_ 8)), .ref w_] (vup μ.1 w_ 7 (nI ((T_ 7) + (cnt (nodF P l_) 8))), μ.2)
      refine V_iaddN hX dX6_count_66 ?_
      refine V_puti hX fX6_37 fw_5_8 hkw dX6_count_67 ?_
      show V G 7 X 70 [(0, .ref w_), (1, .ref p_), (2, .int (nI sg_)), (3, .int (nI (giftN sg_))), (4, .int (nI ((P 0 3) * 4))), (5, .int (nI (sm (P 1) (dipF P sg_ l_) 8))), (6, .int (nI (cnt (nodF P l_) 8)))] [] (vup (vup μ.1 w_ 7 (nI ((T_ 7) + (cnt (nodF P l_) 8)))) w_ 8 (nI ((T_ 8) + (cnt (dipF P sg_ l_) 8))), μ.2)
      refine V_aload_n hX dX6_count_70 0 rfl ?_
      refine V_dup hX dX6_count_71 rfl ?_
      refine V_getN (x := nI (T_ 9)) hX fX6_40 hkw ((vup_ne (by decide)).trans ((vup_ne (by decide)).trans (hT 9 (by decide) (by decide)))) dX6_count_72 ?_
      refine V_aload_n hX dX6_count_75 1 rfl ?_
      refine V_getN (x := nI (P 0 2)) hX fX6_144 hkp ((congrFun (vup_row _ _ _ (show p_ ≠ w_ by omega)) _).trans ((congrFun (vup_row _ _ _ (show p_ ≠ w_ by omega)) _).trans (hP0.1 2 (by decide)))) dX6_count_76 ?_
      refine V_iload hX dX6_count_79 5 rfl ?_
      refine V_iload hX dX6_count_81 4 rfl ?_
      refine V_ishrN hX dX6_count_83 (by first | omega | (have := sm_lt12 h12 (dipF P sg_ l_) (n := 8) (by decide); omega)) (by first | omega | (have := sm_lt12 h12 (dipF P sg_ l_) (n := 8) (by decide); omega)) ?_
      refine V_callS (As := [.int (nI ((sm (P 1) (dipF P sg_ l_) 8) >>> ((P 0 3) * 4)))]) (st := [.int (nI (P 0 2)), .int (nI (T_ 9)), .ref w_]) hX mX6_139 (k_bitCountM (shr_lt (sm_lt12 h12 _ (by decide))) (seen_cnt hok) ?_) rfl (Nat.le_of_ble_eq_true rfl) (Nat.le_of_ble_eq_true rfl) dX6_count_84
      show V G 7 X 87 [(0, .ref w_), (1, .ref p_), (2, .int (nI sg_)), (3, .int (nI (giftN sg_))), (4, .int (nI ((P 0 3) * 4))), (5, .int (nI (sm (P 1) (dipF P sg_ l_) 8))), (6, .int (nI (cnt (nodF P l_) 8)))] [.int (nI (cnt (seenF P sg_ l_) 8)), .int (nI (P 0 2)), .int (nI (T_ 9)), .ref w_] (vup (vup μ.1 w_ 7 (nI ((T_ 7) + (cnt (nodF P l_) 8)))) w_ 8 (nI ((T_ 8) + (cnt (dipF P sg_ l_) 8))), μ.2)
      refine V_imulN hX dX6_count_87 ?_
      refine V_iaddN hX dX6_count_88 ?_
      refine V_puti hX fX6_40 fw_5_9 hkw dX6_count_89 ?_
      show V G 7 X 92 [(0, .ref w_), (1, .ref p_), (2, .int (nI sg_)), (3, .int (nI (giftN sg_))), (4, .int (nI ((P 0 3) * 4))), (5, .int (nI (sm (P 1) (dipF P sg_ l_) 8))), (6, .int (nI (cnt (nodF P l_) 8)))] [] (vup (vup (vup μ.1 w_ 7 (nI ((T_ 7) + (cnt (nodF P l_) 8)))) w_ 8 (nI ((T_ 8) + (cnt (dipF P sg_ l_) 8)))) w_ 9 (nI ((T_ 9) + ((P 0 2) * (cnt (seenF P sg_ l_) 8)))), μ.2)
      refine V_aload_n hX dX6_count_92 0 rfl ?_
      refine V_dup hX dX6_count_93 rfl ?_
      refine V_getN (x := nI (T_ 10)) hX fX6_43 hkw ((vup_ne (by decide)).trans ((vup_ne (by decide)).trans ((vup_ne (by decide)).trans (hT 10 (by decide) (by decide))))) dX6_count_94 ?_
      refine V_iload_n hX dX6_count_97 3 rfl ?_
      refine V_aload_n hX dX6_count_98 0 rfl ?_
      refine V_getN (x := nI (sm (P 1) (pPres P) 8)) hX fX6_22 hkw ((vup_ne (by decide)).trans ((vup_ne (by decide)).trans ((vup_ne (by decide)).trans h3))) dX6_count_99 ?_
      refine V_aload_n hX dX6_count_102 0 rfl ?_
      refine V_getN (x := nI (sm (P 1) (nodF P l_) 8)) hX fX6_25 hkw ((vup_ne (by decide)).trans ((vup_ne (by decide)).trans ((vup_ne (by decide)).trans h4))) dX6_count_103 ?_
      refine V_iconst (v := nI 4294967295) hX dX6_count_106 (by decide) ?_
      refine V_ixorN hX dX6_count_107 ?_
      refine V_iandN hX dX6_count_108 ?_
      rw [show (sm (P 1) (pPres P) 8) &&& ((sm (P 1) (nodF P l_) 8) ^^^ 4294967295) = sm (P 1) (othF P (nodF P l_)) 8 from oth_mask hok (fun _ _ => nod_pres)]
      refine V_callS (As := [.int (nI (sm (P 1) (othF P (nodF P l_)) 8))]) (st := [.int (nI (giftN sg_)), .int (nI (T_ 10)), .ref w_]) hX mX6_139 (k_bitCountM (sm_lt12 h12 _ (by decide)) (cntM hok oth_pres) ?_) rfl (Nat.le_of_ble_eq_true rfl) (Nat.le_of_ble_eq_true rfl) dX6_count_109
      show V G 7 X 112 [(0, .ref w_), (1, .ref p_), (2, .int (nI sg_)), (3, .int (nI (giftN sg_))), (4, .int (nI ((P 0 3) * 4))), (5, .int (nI (sm (P 1) (dipF P sg_ l_) 8))), (6, .int (nI (cnt (nodF P l_) 8)))] [.int (nI (cnt (othF P (nodF P l_)) 8)), .int (nI (giftN sg_)), .int (nI (T_ 10)), .ref w_] (vup (vup (vup μ.1 w_ 7 (nI ((T_ 7) + (cnt (nodF P l_) 8)))) w_ 8 (nI ((T_ 8) + (cnt (dipF P sg_ l_) 8)))) w_ 9 (nI ((T_ 9) + ((P 0 2) * (cnt (seenF P sg_ l_) 8)))), μ.2)
      refine V_imulN hX dX6_count_112 ?_
      refine V_iaddN hX dX6_count_113 ?_
      refine V_puti hX fX6_43 fw_5_10 hkw dX6_count_114 ?_
      show V G 7 X 117 [(0, .ref w_), (1, .ref p_), (2, .int (nI sg_)), (3, .int (nI (giftN sg_))), (4, .int (nI ((P 0 3) * 4))), (5, .int (nI (sm (P 1) (dipF P sg_ l_) 8))), (6, .int (nI (cnt (nodF P l_) 8)))] [] (vup (vup (vup (vup μ.1 w_ 7 (nI ((T_ 7) + (cnt (nodF P l_) 8)))) w_ 8 (nI ((T_ 8) + (cnt (dipF P sg_ l_) 8)))) w_ 9 (nI ((T_ 9) + ((P 0 2) * (cnt (seenF P sg_ l_) 8))))) w_ 10 (nI ((T_ 10) + ((giftN sg_) * (cnt (othF P (nodF P l_)) 8)))), μ.2)
      refine V_aload_n hX dX6_count_117 0 rfl ?_
      refine V_dup hX dX6_count_118 rfl ?_
      refine V_getN (x := nI (T_ 11)) hX fX6_46 hkw ((vup_ne (by decide)).trans ((vup_ne (by decide)).trans ((vup_ne (by decide)).trans ((vup_ne (by decide)).trans (hT 11 (by decide) (by decide)))))) dX6_count_119 ?_
      refine V_iload_n hX dX6_count_122 3 rfl ?_
      refine V_iload hX dX6_count_123 6 rfl ?_
      refine V_imulN hX dX6_count_125 ?_
      refine V_iaddN hX dX6_count_126 ?_
      refine V_puti hX fX6_46 fw_5_11 hkw dX6_count_127 ?_
      show V G 7 X 130 [(0, .ref w_), (1, .ref p_), (2, .int (nI sg_)), (3, .int (nI (giftN sg_))), (4, .int (nI ((P 0 3) * 4))), (5, .int (nI (sm (P 1) (dipF P sg_ l_) 8))), (6, .int (nI (cnt (nodF P l_) 8)))] [] (vup (vup (vup (vup (vup μ.1 w_ 7 (nI ((T_ 7) + (cnt (nodF P l_) 8)))) w_ 8 (nI ((T_ 8) + (cnt (dipF P sg_ l_) 8)))) w_ 9 (nI ((T_ 9) + ((P 0 2) * (cnt (seenF P sg_ l_) 8))))) w_ 10 (nI ((T_ 10) + ((giftN sg_) * (cnt (othF P (nodF P l_)) 8))))) w_ 11 (nI ((T_ 11) + ((giftN sg_) * (cnt (nodF P l_) 8)))), μ.2)
      refine V_aload_n hX dX6_count_130 0 rfl ?_
      refine V_dup hX dX6_count_131 rfl ?_
      refine V_getN (x := nI (T_ 12)) hX fX6_49 hkw ((vup_ne (by decide)).trans ((vup_ne (by decide)).trans ((vup_ne (by decide)).trans ((vup_ne (by decide)).trans ((vup_ne (by decide)).trans (hT 12 (by decide) (by decide))))))) dX6_count_132 ?_
      refine V_aload_n hX dX6_count_135 0 rfl ?_
      refine V_getN (x := nI (sm (P 1) (snoF P (nodF P l_)) 8)) hX fX6_31 hkw ((vup_ne (by decide)).trans ((vup_ne (by decide)).trans ((vup_ne (by decide)).trans ((vup_ne (by decide)).trans ((vup_ne (by decide)).trans h6))))) dX6_count_136 ?_
      refine V_callS (As := [.int (nI (sm (P 1) (snoF P (nodF P l_)) 8))]) (st := [.int (nI (T_ 12)), .ref w_]) hX mX6_139 (k_bitCountM (sm_lt12 h12 _ (by decide)) (cntM hok sno_pres) ?_) rfl (Nat.le_of_ble_eq_true rfl) (Nat.le_of_ble_eq_true rfl) dX6_count_139
      show V G 7 X 142 [(0, .ref w_), (1, .ref p_), (2, .int (nI sg_)), (3, .int (nI (giftN sg_))), (4, .int (nI ((P 0 3) * 4))), (5, .int (nI (sm (P 1) (dipF P sg_ l_) 8))), (6, .int (nI (cnt (nodF P l_) 8)))] [.int (nI (cnt (snoF P (nodF P l_)) 8)), .int (nI (T_ 12)), .ref w_] (vup (vup (vup (vup (vup μ.1 w_ 7 (nI ((T_ 7) + (cnt (nodF P l_) 8)))) w_ 8 (nI ((T_ 8) + (cnt (dipF P sg_ l_) 8)))) w_ 9 (nI ((T_ 9) + ((P 0 2) * (cnt (seenF P sg_ l_) 8))))) w_ 10 (nI ((T_ 10) + ((giftN sg_) * (cnt (othF P (nodF P l_)) 8))))) w_ 11 (nI ((T_ 11) + ((giftN sg_) * (cnt (nodF P l_) 8)))), μ.2)
      refine V_iaddN hX dX6_count_142 ?_
      refine V_puti hX fX6_49 fw_5_12 hkw dX6_count_143 ?_
      show V G 7 X 146 [(0, .ref w_), (1, .ref p_), (2, .int (nI sg_)), (3, .int (nI (giftN sg_))), (4, .int (nI ((P 0 3) * 4))), (5, .int (nI (sm (P 1) (dipF P sg_ l_) 8))), (6, .int (nI (cnt (nodF P l_) 8)))] [] (vup (vup (vup (vup (vup (vup μ.1 w_ 7 (nI ((T_ 7) + (cnt (nodF P l_) 8)))) w_ 8 (nI ((T_ 8) + (cnt (dipF P sg_ l_) 8)))) w_ 9 (nI ((T_ 9) + ((P 0 2) * (cnt (seenF P sg_ l_) 8))))) w_ 10 (nI ((T_ 10) + ((giftN sg_) * (cnt (othF P (nodF P l_)) 8))))) w_ 11 (nI ((T_ 11) + ((giftN sg_) * (cnt (nodF P l_) 8))))) w_ 12 (nI ((T_ 12) + (cnt (snoF P (nodF P l_)) 8))), μ.2)
      refine V_vret hX rfl dX6_count_146 ?_
      refine hR _ _ (hQ _ (fun a ha => by dsimp only; rw [vup_row _ _ _ ha, vup_row _ _ _ ha, vup_row _ _ _ ha, vup_row _ _ _ ha, vup_row _ _ _ ha, vup_row _ _ _ ha]) (fun q hq => by dsimp only; rw [vup_ne (by omega), vup_ne (by omega), vup_ne (by omega), vup_ne (by omega), vup_ne (by omega), vup_ne (by omega)]) (fun k h7 h8 => ?_) rfl)
      match k, h7, h8 with
      | 7, _, _ => exact ((vup_ne (by decide)).trans ((vup_ne (by decide)).trans ((vup_ne (by decide)).trans ((vup_ne (by decide)).trans ((vup_ne (by decide)).trans (vup_same _ _ _ _))))))
      | 8, _, _ => exact ((vup_ne (by decide)).trans ((vup_ne (by decide)).trans ((vup_ne (by decide)).trans ((vup_ne (by decide)).trans (vup_same _ _ _ _)))))
      | 9, _, _ => exact ((vup_ne (by decide)).trans ((vup_ne (by decide)).trans ((vup_ne (by decide)).trans (vup_same _ _ _ _))))
      | 10, _, _ => exact ((vup_ne (by decide)).trans ((vup_ne (by decide)).trans (vup_same _ _ _ _)))
      | 11, _, _ => exact ((vup_ne (by decide)).trans (vup_same _ _ _ _))
      | 12, _, _ => exact (vup_same _ _ _ _)
    · refine V_iconst (v := nI 2) hX dX6_count_16 (by decide) ?_
      refine V_goto (tgt := 21) hX dX6_count_17 (by decide) ?_
      refine V_istore_n (ls' := [(0, .ref w_), (1, .ref p_), (2, .int (nI sg_)), (3, .int (nI 2))]) hX dX6_count_21 (by decide) rfl ?_
      refine V_ls (ls' := [(0, .ref w_), (1, .ref p_), (2, .int (nI sg_)), (3, .int (nI (giftN sg_)))]) (by rw [show giftN sg_ = 2 from (if_neg c3).trans (if_pos c13)]) ?_
      refine V_aload_n hX dX6_count_22 1 rfl ?_
      refine V_getN (x := nI (P 0 3)) hX fX6_132 hkp (hP0.1 3 (by decide)) dX6_count_23 ?_
      refine V_iconst (v := nI 4) hX dX6_count_26 (by decide) ?_
      refine V_imulN hX dX6_count_27 ?_
      refine V_istore (ls' := [(0, .ref w_), (1, .ref p_), (2, .int (nI sg_)), (3, .int (nI (giftN sg_))), (4, .int (nI ((P 0 3) * 4)))]) hX dX6_count_28 (by decide) rfl ?_
      refine V_aload_n hX dX6_count_30 0 rfl ?_
      refine V_callV (As := []) (st := []) hX mX6_135 hkw (k_dipping hkw h4 h5 ?_) rfl (Nat.le_of_ble_eq_true rfl) (Nat.le_of_ble_eq_true rfl) dX6_count_31
      show V G 7 X 34 [(0, .ref w_), (1, .ref p_), (2, .int (nI sg_)), (3, .int (nI (giftN sg_))), (4, .int (nI ((P 0 3) * 4)))] [.int (nI (sm (P 1) (nodF P l_) 8 ||| sm (P 1) (agrF P sg_ l_) 8))] μ
      rw [show sm (P 1) (nodF P l_) 8 ||| sm (P 1) (agrF P sg_ l_) 8 = sm (P 1) (dipF P sg_ l_) 8 from sm_or _ _ _ _]
      refine V_istore (ls' := [(0, .ref w_), (1, .ref p_), (2, .int (nI sg_)), (3, .int (nI (giftN sg_))), (4, .int (nI ((P 0 3) * 4))), (5, .int (nI (sm (P 1) (dipF P sg_ l_) 8)))]) hX dX6_count_34 (by decide) rfl ?_
      refine V_aload_n hX dX6_count_36 0 rfl ?_
      refine V_getN (x := nI (sm (P 1) (nodF P l_) 8)) hX fX6_25 hkw h4 dX6_count_37 ?_
      refine V_callS (As := [.int (nI (sm (P 1) (nodF P l_) 8))]) (st := []) hX mX6_139 (k_bitCountM (sm_lt12 h12 _ (by decide)) (cntM hok (fun _ _ => nod_pres)) ?_) rfl (Nat.le_of_ble_eq_true rfl) (Nat.le_of_ble_eq_true rfl) dX6_count_40
      show V G 7 X 43 [(0, .ref w_), (1, .ref p_), (2, .int (nI sg_)), (3, .int (nI (giftN sg_))), (4, .int (nI ((P 0 3) * 4))), (5, .int (nI (sm (P 1) (dipF P sg_ l_) 8)))] [.int (nI (cnt (nodF P l_) 8))] μ
      refine V_istore (ls' := [(0, .ref w_), (1, .ref p_), (2, .int (nI sg_)), (3, .int (nI (giftN sg_))), (4, .int (nI ((P 0 3) * 4))), (5, .int (nI (sm (P 1) (dipF P sg_ l_) 8))), (6, .int (nI (cnt (nodF P l_) 8)))]) hX dX6_count_43 (by decide) rfl ?_
      refine V_aload_n hX dX6_count_45 0 rfl ?_
      refine V_dup hX dX6_count_46 rfl ?_
      refine V_getN (x := nI (T_ 7)) hX fX6_34 hkw (hT 7 (by decide) (by decide)) dX6_count_47 ?_
      refine V_iload hX dX6_count_50 6 rfl ?_
      refine V_iaddN hX dX6_count_52 ?_
      refine V_puti hX fX6_34 fw_5_7 hkw dX6_count_53 ?_
      show V G 7 X 56 [(0, .ref w_), (1, .ref p_), (2, .int (nI sg_)), (3, .int (nI (giftN sg_))), (4, .int (nI ((P 0 3) * 4))), (5, .int (nI (sm (P 1) (dipF P sg_ l_) 8))), (6, .int (nI (cnt (nodF P l_) 8)))] [] (vup μ.1 w_ 7 (nI ((T_ 7) + (cnt (nodF P l_) 8))), μ.2)
      refine V_aload_n hX dX6_count_56 0 rfl ?_
      refine V_dup hX dX6_count_57 rfl ?_
      refine V_getN (x := nI (T_ 8)) hX fX6_37 hkw ((vup_ne (by decide)).trans (hT 8 (by decide) (by decide))) dX6_count_58 ?_
      refine V_iload hX dX6_count_61 5 rfl ?_
      refine V_callS (As := [.int (nI (sm (P 1) (dipF P sg_ l_) 8))]) (st := [.int (nI (T_ 8)), .ref w_]) hX mX6_139 (k_bitCountM (sm_lt12 h12 _ (by decide)) (cntM hok dip_pres) ?_) rfl (Nat.le_of_ble_eq_true rfl) (Nat.le_of_ble_eq_true rfl) dX6_count_63
      show V G 7 X 66 [(0, .ref w_), (1, .ref p_), (2, .int (nI sg_)), (3, .int (nI (giftN sg_))), (4, .int (nI ((P 0 3) * 4))), (5, .int (nI (sm (P 1) (dipF P sg_ l_) 8))), (6, .int (nI (cnt (nodF P l_) 8)))] [.int (nI (cnt (dipF P sg_ l_) 8)), .int (nI (T_ 8)), .ref w_] (vup μ.1 w_ 7 (nI ((T_ 7) + (cnt (nodF P l_) 8))), μ.2)
      refine V_iaddN hX dX6_count_66 ?_
      refine V_puti hX fX6_37 fw_5_8 hkw dX6_count_67 ?_
      show V G 7 X 70 [(0, .ref w_), (1, .ref p_), (2, .int (nI sg_)), (3, .int (nI (giftN sg_))), (4, .int (nI ((P 0 3) * 4))), (5, .int (nI (sm (P 1) (dipF P sg_ l_) 8))), (6, .int (nI (cnt (nodF P l_) 8)))] [] (vup (vup μ.1 w_ 7 (nI ((T_ 7) + (cnt (nodF P l_) 8)))) w_ 8 (nI ((T_ 8) + (cnt (dipF P sg_ l_) 8))), μ.2)
      refine V_aload_n hX dX6_count_70 0 rfl ?_
      refine V_dup hX dX6_count_71 rfl ?_
      refine V_getN (x := nI (T_ 9)) hX fX6_40 hkw ((vup_ne (by decide)).trans ((vup_ne (by decide)).trans (hT 9 (by decide) (by decide)))) dX6_count_72 ?_
      refine V_aload_n hX dX6_count_75 1 rfl ?_
      refine V_getN (x := nI (P 0 2)) hX fX6_144 hkp ((congrFun (vup_row _ _ _ (show p_ ≠ w_ by omega)) _).trans ((congrFun (vup_row _ _ _ (show p_ ≠ w_ by omega)) _).trans (hP0.1 2 (by decide)))) dX6_count_76 ?_
      refine V_iload hX dX6_count_79 5 rfl ?_
      refine V_iload hX dX6_count_81 4 rfl ?_
      refine V_ishrN hX dX6_count_83 (by first | omega | (have := sm_lt12 h12 (dipF P sg_ l_) (n := 8) (by decide); omega)) (by first | omega | (have := sm_lt12 h12 (dipF P sg_ l_) (n := 8) (by decide); omega)) ?_
      refine V_callS (As := [.int (nI ((sm (P 1) (dipF P sg_ l_) 8) >>> ((P 0 3) * 4)))]) (st := [.int (nI (P 0 2)), .int (nI (T_ 9)), .ref w_]) hX mX6_139 (k_bitCountM (shr_lt (sm_lt12 h12 _ (by decide))) (seen_cnt hok) ?_) rfl (Nat.le_of_ble_eq_true rfl) (Nat.le_of_ble_eq_true rfl) dX6_count_84
      show V G 7 X 87 [(0, .ref w_), (1, .ref p_), (2, .int (nI sg_)), (3, .int (nI (giftN sg_))), (4, .int (nI ((P 0 3) * 4))), (5, .int (nI (sm (P 1) (dipF P sg_ l_) 8))), (6, .int (nI (cnt (nodF P l_) 8)))] [.int (nI (cnt (seenF P sg_ l_) 8)), .int (nI (P 0 2)), .int (nI (T_ 9)), .ref w_] (vup (vup μ.1 w_ 7 (nI ((T_ 7) + (cnt (nodF P l_) 8)))) w_ 8 (nI ((T_ 8) + (cnt (dipF P sg_ l_) 8))), μ.2)
      refine V_imulN hX dX6_count_87 ?_
      refine V_iaddN hX dX6_count_88 ?_
      refine V_puti hX fX6_40 fw_5_9 hkw dX6_count_89 ?_
      show V G 7 X 92 [(0, .ref w_), (1, .ref p_), (2, .int (nI sg_)), (3, .int (nI (giftN sg_))), (4, .int (nI ((P 0 3) * 4))), (5, .int (nI (sm (P 1) (dipF P sg_ l_) 8))), (6, .int (nI (cnt (nodF P l_) 8)))] [] (vup (vup (vup μ.1 w_ 7 (nI ((T_ 7) + (cnt (nodF P l_) 8)))) w_ 8 (nI ((T_ 8) + (cnt (dipF P sg_ l_) 8)))) w_ 9 (nI ((T_ 9) + ((P 0 2) * (cnt (seenF P sg_ l_) 8)))), μ.2)
      refine V_aload_n hX dX6_count_92 0 rfl ?_
      refine V_dup hX dX6_count_93 rfl ?_
      refine V_getN (x := nI (T_ 10)) hX fX6_43 hkw ((vup_ne (by decide)).trans ((vup_ne (by decide)).trans ((vup_ne (by decide)).trans (hT 10 (by decide) (by decide))))) dX6_count_94 ?_
      refine V_iload_n hX dX6_count_97 3 rfl ?_
      refine V_aload_n hX dX6_count_98 0 rfl ?_
      refine V_getN (x := nI (sm (P 1) (pPres P) 8)) hX fX6_22 hkw ((vup_ne (by decide)).trans ((vup_ne (by decide)).trans ((vup_ne (by decide)).trans h3))) dX6_count_99 ?_
      refine V_aload_n hX dX6_count_102 0 rfl ?_
      refine V_getN (x := nI (sm (P 1) (nodF P l_) 8)) hX fX6_25 hkw ((vup_ne (by decide)).trans ((vup_ne (by decide)).trans ((vup_ne (by decide)).trans h4))) dX6_count_103 ?_
      refine V_iconst (v := nI 4294967295) hX dX6_count_106 (by decide) ?_
      refine V_ixorN hX dX6_count_107 ?_
      refine V_iandN hX dX6_count_108 ?_
      rw [show (sm (P 1) (pPres P) 8) &&& ((sm (P 1) (nodF P l_) 8) ^^^ 4294967295) = sm (P 1) (othF P (nodF P l_)) 8 from oth_mask hok (fun _ _ => nod_pres)]
      refine V_callS (As := [.int (nI (sm (P 1) (othF P (nodF P l_)) 8))]) (st := [.int (nI (giftN sg_)), .int (nI (T_ 10)), .ref w_]) hX mX6_139 (k_bitCountM (sm_lt12 h12 _ (by decide)) (cntM hok oth_pres) ?_) rfl (Nat.le_of_ble_eq_true rfl) (Nat.le_of_ble_eq_true rfl) dX6_count_109
      show V G 7 X 112 [(0, .ref w_), (1, .ref p_), (2, .int (nI sg_)), (3, .int (nI (giftN sg_))), (4, .int (nI ((P 0 3) * 4))), (5, .int (nI (sm (P 1) (dipF P sg_ l_) 8))), (6, .int (nI (cnt (nodF P l_) 8)))] [.int (nI (cnt (othF P (nodF P l_)) 8)), .int (nI (giftN sg_)), .int (nI (T_ 10)), .ref w_] (vup (vup (vup μ.1 w_ 7 (nI ((T_ 7) + (cnt (nodF P l_) 8)))) w_ 8 (nI ((T_ 8) + (cnt (dipF P sg_ l_) 8)))) w_ 9 (nI ((T_ 9) + ((P 0 2) * (cnt (seenF P sg_ l_) 8)))), μ.2)
      refine V_imulN hX dX6_count_112 ?_
      refine V_iaddN hX dX6_count_113 ?_
      refine V_puti hX fX6_43 fw_5_10 hkw dX6_count_114 ?_
      show V G 7 X 117 [(0, .ref w_), (1, .ref p_), (2, .int (nI sg_)), (3, .int (nI (giftN sg_))), (4, .int (nI ((P 0 3) * 4))), (5, .int (nI (sm (P 1) (dipF P sg_ l_) 8))), (6, .int (nI (cnt (nodF P l_) 8)))] [] (vup (vup (vup (vup μ.1 w_ 7 (nI ((T_ 7) + (cnt (nodF P l_) 8)))) w_ 8 (nI ((T_ 8) + (cnt (dipF P sg_ l_) 8)))) w_ 9 (nI ((T_ 9) + ((P 0 2) * (cnt (seenF P sg_ l_) 8))))) w_ 10 (nI ((T_ 10) + ((giftN sg_) * (cnt (othF P (nodF P l_)) 8)))), μ.2)
      refine V_aload_n hX dX6_count_117 0 rfl ?_
      refine V_dup hX dX6_count_118 rfl ?_
      refine V_getN (x := nI (T_ 11)) hX fX6_46 hkw ((vup_ne (by decide)).trans ((vup_ne (by decide)).trans ((vup_ne (by decide)).trans ((vup_ne (by decide)).trans (hT 11 (by decide) (by decide)))))) dX6_count_119 ?_
      refine V_iload_n hX dX6_count_122 3 rfl ?_
      refine V_iload hX dX6_count_123 6 rfl ?_
      refine V_imulN hX dX6_count_125 ?_
      refine V_iaddN hX dX6_count_126 ?_
      refine V_puti hX fX6_46 fw_5_11 hkw dX6_count_127 ?_
      show V G 7 X 130 [(0, .ref w_), (1, .ref p_), (2, .int (nI sg_)), (3, .int (nI (giftN sg_))), (4, .int (nI ((P 0 3) * 4))), (5, .int (nI (sm (P 1) (dipF P sg_ l_) 8))), (6, .int (nI (cnt (nodF P l_) 8)))] [] (vup (vup (vup (vup (vup μ.1 w_ 7 (nI ((T_ 7) + (cnt (nodF P l_) 8)))) w_ 8 (nI ((T_ 8) + (cnt (dipF P sg_ l_) 8)))) w_ 9 (nI ((T_ 9) + ((P 0 2) * (cnt (seenF P sg_ l_) 8))))) w_ 10 (nI ((T_ 10) + ((giftN sg_) * (cnt (othF P (nodF P l_)) 8))))) w_ 11 (nI ((T_ 11) + ((giftN sg_) * (cnt (nodF P l_) 8)))), μ.2)
      refine V_aload_n hX dX6_count_130 0 rfl ?_
      refine V_dup hX dX6_count_131 rfl ?_
      refine V_getN (x := nI (T_ 12)) hX fX6_49 hkw ((vup_ne (by decide)).trans ((vup_ne (by decide)).trans ((vup_ne (by decide)).trans ((vup_ne (by decide)).trans ((vup_ne (by decide)).trans (hT 12 (by decide) (by decide))))))) dX6_count_132 ?_
      refine V_aload_n hX dX6_count_135 0 rfl ?_
      refine V_getN (x := nI (sm (P 1) (snoF P (nodF P l_)) 8)) hX fX6_31 hkw ((vup_ne (by decide)).trans ((vup_ne (by decide)).trans ((vup_ne (by decide)).trans ((vup_ne (by decide)).trans ((vup_ne (by decide)).trans h6))))) dX6_count_136 ?_
      refine V_callS (As := [.int (nI (sm (P 1) (snoF P (nodF P l_)) 8))]) (st := [.int (nI (T_ 12)), .ref w_]) hX mX6_139 (k_bitCountM (sm_lt12 h12 _ (by decide)) (cntM hok sno_pres) ?_) rfl (Nat.le_of_ble_eq_true rfl) (Nat.le_of_ble_eq_true rfl) dX6_count_139
      show V G 7 X 142 [(0, .ref w_), (1, .ref p_), (2, .int (nI sg_)), (3, .int (nI (giftN sg_))), (4, .int (nI ((P 0 3) * 4))), (5, .int (nI (sm (P 1) (dipF P sg_ l_) 8))), (6, .int (nI (cnt (nodF P l_) 8)))] [.int (nI (cnt (snoF P (nodF P l_)) 8)), .int (nI (T_ 12)), .ref w_] (vup (vup (vup (vup (vup μ.1 w_ 7 (nI ((T_ 7) + (cnt (nodF P l_) 8)))) w_ 8 (nI ((T_ 8) + (cnt (dipF P sg_ l_) 8)))) w_ 9 (nI ((T_ 9) + ((P 0 2) * (cnt (seenF P sg_ l_) 8))))) w_ 10 (nI ((T_ 10) + ((giftN sg_) * (cnt (othF P (nodF P l_)) 8))))) w_ 11 (nI ((T_ 11) + ((giftN sg_) * (cnt (nodF P l_) 8)))), μ.2)
      refine V_iaddN hX dX6_count_142 ?_
      refine V_puti hX fX6_49 fw_5_12 hkw dX6_count_143 ?_
      show V G 7 X 146 [(0, .ref w_), (1, .ref p_), (2, .int (nI sg_)), (3, .int (nI (giftN sg_))), (4, .int (nI ((P 0 3) * 4))), (5, .int (nI (sm (P 1) (dipF P sg_ l_) 8))), (6, .int (nI (cnt (nodF P l_) 8)))] [] (vup (vup (vup (vup (vup (vup μ.1 w_ 7 (nI ((T_ 7) + (cnt (nodF P l_) 8)))) w_ 8 (nI ((T_ 8) + (cnt (dipF P sg_ l_) 8)))) w_ 9 (nI ((T_ 9) + ((P 0 2) * (cnt (seenF P sg_ l_) 8))))) w_ 10 (nI ((T_ 10) + ((giftN sg_) * (cnt (othF P (nodF P l_)) 8))))) w_ 11 (nI ((T_ 11) + ((giftN sg_) * (cnt (nodF P l_) 8))))) w_ 12 (nI ((T_ 12) + (cnt (snoF P (nodF P l_)) 8))), μ.2)
      refine V_vret hX rfl dX6_count_146 ?_
      refine hR _ _ (hQ _ (fun a ha => by dsimp only; rw [vup_row _ _ _ ha, vup_row _ _ _ ha, vup_row _ _ _ ha, vup_row _ _ _ ha, vup_row _ _ _ ha, vup_row _ _ _ ha]) (fun q hq => by dsimp only; rw [vup_ne (by omega), vup_ne (by omega), vup_ne (by omega), vup_ne (by omega), vup_ne (by omega), vup_ne (by omega)]) (fun k h7 h8 => ?_) rfl)
      match k, h7, h8 with
      | 7, _, _ => exact ((vup_ne (by decide)).trans ((vup_ne (by decide)).trans ((vup_ne (by decide)).trans ((vup_ne (by decide)).trans ((vup_ne (by decide)).trans (vup_same _ _ _ _))))))
      | 8, _, _ => exact ((vup_ne (by decide)).trans ((vup_ne (by decide)).trans ((vup_ne (by decide)).trans ((vup_ne (by decide)).trans (vup_same _ _ _ _)))))
      | 9, _, _ => exact ((vup_ne (by decide)).trans ((vup_ne (by decide)).trans ((vup_ne (by decide)).trans (vup_same _ _ _ _))))
      | 10, _, _ => exact ((vup_ne (by decide)).trans ((vup_ne (by decide)).trans (vup_same _ _ _ _)))
      | 11, _, _ => exact ((vup_ne (by decide)).trans (vup_same _ _ _ _))
      | 12, _, _ => exact (vup_same _ _ _ _)
  · refine V_iconst (v := nI 1) hX dX6_count_6 (by decide) ?_
    refine V_goto (tgt := 21) hX dX6_count_7 (by decide) ?_
    refine V_istore_n (ls' := [(0, .ref w_), (1, .ref p_), (2, .int (nI sg_)), (3, .int (nI 1))]) hX dX6_count_21 (by decide) rfl ?_
    refine V_ls (ls' := [(0, .ref w_), (1, .ref p_), (2, .int (nI sg_)), (3, .int (nI (giftN sg_)))]) (by rw [show giftN sg_ = 1 from if_pos c3]) ?_
    refine V_aload_n hX dX6_count_22 1 rfl ?_
    refine V_getN (x := nI (P 0 3)) hX fX6_132 hkp (hP0.1 3 (by decide)) dX6_count_23 ?_
    refine V_iconst (v := nI 4) hX dX6_count_26 (by decide) ?_
    refine V_imulN hX dX6_count_27 ?_
    refine V_istore (ls' := [(0, .ref w_), (1, .ref p_), (2, .int (nI sg_)), (3, .int (nI (giftN sg_))), (4, .int (nI ((P 0 3) * 4)))]) hX dX6_count_28 (by decide) rfl ?_
    refine V_aload_n hX dX6_count_30 0 rfl ?_
    refine V_callV (As := []) (st := []) hX mX6_135 hkw (k_dipping hkw h4 h5 ?_) rfl (Nat.le_of_ble_eq_true rfl) (Nat.le_of_ble_eq_true rfl) dX6_count_31
    show V G 7 X 34 [(0, .ref w_), (1, .ref p_), (2, .int (nI sg_)), (3, .int (nI (giftN sg_))), (4, .int (nI ((P 0 3) * 4)))] [.int (nI (sm (P 1) (nodF P l_) 8 ||| sm (P 1) (agrF P sg_ l_) 8))] μ
    rw [show sm (P 1) (nodF P l_) 8 ||| sm (P 1) (agrF P sg_ l_) 8 = sm (P 1) (dipF P sg_ l_) 8 from sm_or _ _ _ _]
    refine V_istore (ls' := [(0, .ref w_), (1, .ref p_), (2, .int (nI sg_)), (3, .int (nI (giftN sg_))), (4, .int (nI ((P 0 3) * 4))), (5, .int (nI (sm (P 1) (dipF P sg_ l_) 8)))]) hX dX6_count_34 (by decide) rfl ?_
    refine V_aload_n hX dX6_count_36 0 rfl ?_
    refine V_getN (x := nI (sm (P 1) (nodF P l_) 8)) hX fX6_25 hkw h4 dX6_count_37 ?_
    refine V_callS (As := [.int (nI (sm (P 1) (nodF P l_) 8))]) (st := []) hX mX6_139 (k_bitCountM (sm_lt12 h12 _ (by decide)) (cntM hok (fun _ _ => nod_pres)) ?_) rfl (Nat.le_of_ble_eq_true rfl) (Nat.le_of_ble_eq_true rfl) dX6_count_40
    show V G 7 X 43 [(0, .ref w_), (1, .ref p_), (2, .int (nI sg_)), (3, .int (nI (giftN sg_))), (4, .int (nI ((P 0 3) * 4))), (5, .int (nI (sm (P 1) (dipF P sg_ l_) 8)))] [.int (nI (cnt (nodF P l_) 8))] μ
    refine V_istore (ls' := [(0, .ref w_), (1, .ref p_), (2, .int (nI sg_)), (3, .int (nI (giftN sg_))), (4, .int (nI ((P 0 3) * 4))), (5, .int (nI (sm (P 1) (dipF P sg_ l_) 8))), (6, .int (nI (cnt (nodF P l_) 8)))]) hX dX6_count_43 (by decide) rfl ?_
    refine V_aload_n hX dX6_count_45 0 rfl ?_
    refine V_dup hX dX6_count_46 rfl ?_
    refine V_getN (x := nI (T_ 7)) hX fX6_34 hkw (hT 7 (by decide) (by decide)) dX6_count_47 ?_
    refine V_iload hX dX6_count_50 6 rfl ?_
    refine V_iaddN hX dX6_count_52 ?_
    refine V_puti hX fX6_34 fw_5_7 hkw dX6_count_53 ?_
    show V G 7 X 56 [(0, .ref w_), (1, .ref p_), (2, .int (nI sg_)), (3, .int (nI (giftN sg_))), (4, .int (nI ((P 0 3) * 4))), (5, .int (nI (sm (P 1) (dipF P sg_ l_) 8))), (6, .int (nI (cnt (nodF P l_) 8)))] [] (vup μ.1 w_ 7 (nI ((T_ 7) + (cnt (nodF P l_) 8))), μ.2)
    refine V_aload_n hX dX6_count_56 0 rfl ?_
    refine V_dup hX dX6_count_57 rfl ?_
    refine V_getN (x := nI (T_ 8)) hX fX6_37 hkw ((vup_ne (by decide)).trans (hT 8 (by decide) (by decide))) dX6_count_58 ?_
    refine V_iload hX dX6_count_61 5 rfl ?_
    refine V_callS (As := [.int (nI (sm (P 1) (dipF P sg_ l_) 8))]) (st := [.int (nI (T_ 8)), .ref w_]) hX mX6_139 (k_bitCountM (sm_lt12 h12 _ (by decide)) (cntM hok dip_pres) ?_) rfl (Nat.le_of_ble_eq_true rfl) (Nat.le_of_ble_eq_true rfl) dX6_count_63
    show V G 7 X 66 [(0, .ref w_), (1, .ref p_), (2, .int (nI sg_)), (3, .int (nI (giftN sg_))), (4, .int (nI ((P 0 3) * 4))), (5, .int (nI (sm (P 1) (dipF P sg_ l_) 8))), (6, .int (nI (cnt (nodF P l_) 8)))] [.int (nI (cnt (dipF P sg_ l_) 8)), .int (nI (T_ 8)), .ref w_] (vup μ.1 w_ 7 (nI ((T_ 7) + (cnt (nodF P l_) 8))), μ.2)
    refine V_iaddN hX dX6_count_66 ?_
    refine V_puti hX fX6_37 fw_5_8 hkw dX6_count_67 ?_
    show V G 7 X 70 [(0, .ref w_), (1, .ref p_), (2, .int (nI sg_)), (3, .int (nI (giftN sg_))), (4, .int (nI ((P 0 3) * 4))), (5, .int (nI (sm (P 1) (dipF P sg_ l_) 8))), (6, .int (nI (cnt (nodF P l_) 8)))] [] (vup (vup μ.1 w_ 7 (nI ((T_ 7) + (cnt (nodF P l_) 8)))) w_ 8 (nI ((T_ 8) + (cnt (dipF P sg_ l_) 8))), μ.2)
    refine V_aload_n hX dX6_count_70 0 rfl ?_
    refine V_dup hX dX6_count_71 rfl ?_
    refine V_getN (x := nI (T_ 9)) hX fX6_40 hkw ((vup_ne (by decide)).trans ((vup_ne (by decide)).trans (hT 9 (by decide) (by decide)))) dX6_count_72 ?_
    refine V_aload_n hX dX6_count_75 1 rfl ?_
    refine V_getN (x := nI (P 0 2)) hX fX6_144 hkp ((congrFun (vup_row _ _ _ (show p_ ≠ w_ by omega)) _).trans ((congrFun (vup_row _ _ _ (show p_ ≠ w_ by omega)) _).trans (hP0.1 2 (by decide)))) dX6_count_76 ?_
    refine V_iload hX dX6_count_79 5 rfl ?_
    refine V_iload hX dX6_count_81 4 rfl ?_
    refine V_ishrN hX dX6_count_83 (by first | omega | (have := sm_lt12 h12 (dipF P sg_ l_) (n := 8) (by decide); omega)) (by first | omega | (have := sm_lt12 h12 (dipF P sg_ l_) (n := 8) (by decide); omega)) ?_
    refine V_callS (As := [.int (nI ((sm (P 1) (dipF P sg_ l_) 8) >>> ((P 0 3) * 4)))]) (st := [.int (nI (P 0 2)), .int (nI (T_ 9)), .ref w_]) hX mX6_139 (k_bitCountM (shr_lt (sm_lt12 h12 _ (by decide))) (seen_cnt hok) ?_) rfl (Nat.le_of_ble_eq_true rfl) (Nat.le_of_ble_eq_true rfl) dX6_count_84
    show V G 7 X 87 [(0, .ref w_), (1, .ref p_), (2, .int (nI sg_)), (3, .int (nI (giftN sg_))), (4, .int (nI ((P 0 3) * 4))), (5, .int (nI (sm (P 1) (dipF P sg_ l_) 8))), (6, .int (nI (cnt (nodF P l_) 8)))] [.int (nI (cnt (seenF P sg_ l_) 8)), .int (nI (P 0 2)), .int (nI (T_ 9)), .ref w_] (vup (vup μ.1 w_ 7 (nI ((T_ 7) + (cnt (nodF P l_) 8)))) w_ 8 (nI ((T_ 8) + (cnt (dipF P sg_ l_) 8))), μ.2)
    refine V_imulN hX dX6_count_87 ?_
    refine V_iaddN hX dX6_count_88 ?_
    refine V_puti hX fX6_40 fw_5_9 hkw dX6_count_89 ?_
    show V G 7 X 92 [(0, .ref w_), (1, .ref p_), (2, .int (nI sg_)), (3, .int (nI (giftN sg_))), (4, .int (nI ((P 0 3) * 4))), (5, .int (nI (sm (P 1) (dipF P sg_ l_) 8))), (6, .int (nI (cnt (nodF P l_) 8)))] [] (vup (vup (vup μ.1 w_ 7 (nI ((T_ 7) + (cnt (nodF P l_) 8)))) w_ 8 (nI ((T_ 8) + (cnt (dipF P sg_ l_) 8)))) w_ 9 (nI ((T_ 9) + ((P 0 2) * (cnt (seenF P sg_ l_) 8)))), μ.2)
    refine V_aload_n hX dX6_count_92 0 rfl ?_
    refine V_dup hX dX6_count_93 rfl ?_
    refine V_getN (x := nI (T_ 10)) hX fX6_43 hkw ((vup_ne (by decide)).trans ((vup_ne (by decide)).trans ((vup_ne (by decide)).trans (hT 10 (by decide) (by decide))))) dX6_count_94 ?_
    refine V_iload_n hX dX6_count_97 3 rfl ?_
    refine V_aload_n hX dX6_count_98 0 rfl ?_
    refine V_getN (x := nI (sm (P 1) (pPres P) 8)) hX fX6_22 hkw ((vup_ne (by decide)).trans ((vup_ne (by decide)).trans ((vup_ne (by decide)).trans h3))) dX6_count_99 ?_
    refine V_aload_n hX dX6_count_102 0 rfl ?_
    refine V_getN (x := nI (sm (P 1) (nodF P l_) 8)) hX fX6_25 hkw ((vup_ne (by decide)).trans ((vup_ne (by decide)).trans ((vup_ne (by decide)).trans h4))) dX6_count_103 ?_
    refine V_iconst (v := nI 4294967295) hX dX6_count_106 (by decide) ?_
    refine V_ixorN hX dX6_count_107 ?_
    refine V_iandN hX dX6_count_108 ?_
    rw [show (sm (P 1) (pPres P) 8) &&& ((sm (P 1) (nodF P l_) 8) ^^^ 4294967295) = sm (P 1) (othF P (nodF P l_)) 8 from oth_mask hok (fun _ _ => nod_pres)]
    refine V_callS (As := [.int (nI (sm (P 1) (othF P (nodF P l_)) 8))]) (st := [.int (nI (giftN sg_)), .int (nI (T_ 10)), .ref w_]) hX mX6_139 (k_bitCountM (sm_lt12 h12 _ (by decide)) (cntM hok oth_pres) ?_) rfl (Nat.le_of_ble_eq_true rfl) (Nat.le_of_ble_eq_true rfl) dX6_count_109
    show V G 7 X 112 [(0, .ref w_), (1, .ref p_), (2, .int (nI sg_)), (3, .int (nI (giftN sg_))), (4, .int (nI ((P 0 3) * 4))), (5, .int (nI (sm (P 1) (dipF P sg_ l_) 8))), (6, .int (nI (cnt (nodF P l_) 8)))] [.int (nI (cnt (othF P (nodF P l_)) 8)), .int (nI (giftN sg_)), .int (nI (T_ 10)), .ref w_] (vup (vup (vup μ.1 w_ 7 (nI ((T_ 7) + (cnt (nodF P l_) 8)))) w_ 8 (nI ((T_ 8) + (cnt (dipF P sg_ l_) 8)))) w_ 9 (nI ((T_ 9) + ((P 0 2) * (cnt (seenF P sg_ l_) 8)))), μ.2)
    refine V_imulN hX dX6_count_112 ?_
    refine V_iaddN hX dX6_count_113 ?_
    refine V_puti hX fX6_43 fw_5_10 hkw dX6_count_114 ?_
    show V G 7 X 117 [(0, .ref w_), (1, .ref p_), (2, .int (nI sg_)), (3, .int (nI (giftN sg_))), (4, .int (nI ((P 0 3) * 4))), (5, .int (nI (sm (P 1) (dipF P sg_ l_) 8))), (6, .int (nI (cnt (nodF P l_) 8)))] [] (vup (vup (vup (vup μ.1 w_ 7 (nI ((T_ 7) + (cnt (nodF P l_) 8)))) w_ 8 (nI ((T_ 8) + (cnt (dipF P sg_ l_) 8)))) w_ 9 (nI ((T_ 9) + ((P 0 2) * (cnt (seenF P sg_ l_) 8))))) w_ 10 (nI ((T_ 10) + ((giftN sg_) * (cnt (othF P (nodF P l_)) 8)))), μ.2)
    refine V_aload_n hX dX6_count_117 0 rfl ?_
    refine V_dup hX dX6_count_118 rfl ?_
    refine V_getN (x := nI (T_ 11)) hX fX6_46 hkw ((vup_ne (by decide)).trans ((vup_ne (by decide)).trans ((vup_ne (by decide)).trans ((vup_ne (by decide)).trans (hT 11 (by decide) (by decide)))))) dX6_count_119 ?_
    refine V_iload_n hX dX6_count_122 3 rfl ?_
    refine V_iload hX dX6_count_123 6 rfl ?_
    refine V_imulN hX dX6_count_125 ?_
    refine V_iaddN hX dX6_count_126 ?_
    refine V_puti hX fX6_46 fw_5_11 hkw dX6_count_127 ?_
    show V G 7 X 130 [(0, .ref w_), (1, .ref p_), (2, .int (nI sg_)), (3, .int (nI (giftN sg_))), (4, .int (nI ((P 0 3) * 4))), (5, .int (nI (sm (P 1) (dipF P sg_ l_) 8))), (6, .int (nI (cnt (nodF P l_) 8)))] [] (vup (vup (vup (vup (vup μ.1 w_ 7 (nI ((T_ 7) + (cnt (nodF P l_) 8)))) w_ 8 (nI ((T_ 8) + (cnt (dipF P sg_ l_) 8)))) w_ 9 (nI ((T_ 9) + ((P 0 2) * (cnt (seenF P sg_ l_) 8))))) w_ 10 (nI ((T_ 10) + ((giftN sg_) * (cnt (othF P (nodF P l_)) 8))))) w_ 11 (nI ((T_ 11) + ((giftN sg_) * (cnt (nodF P l_) 8)))), μ.2)
    refine V_aload_n hX dX6_count_130 0 rfl ?_
    refine V_dup hX dX6_count_131 rfl ?_
    refine V_getN (x := nI (T_ 12)) hX fX6_49 hkw ((vup_ne (by decide)).trans ((vup_ne (by decide)).trans ((vup_ne (by decide)).trans ((vup_ne (by decide)).trans ((vup_ne (by decide)).trans (hT 12 (by decide) (by decide))))))) dX6_count_132 ?_
    refine V_aload_n hX dX6_count_135 0 rfl ?_
    refine V_getN (x := nI (sm (P 1) (snoF P (nodF P l_)) 8)) hX fX6_31 hkw ((vup_ne (by decide)).trans ((vup_ne (by decide)).trans ((vup_ne (by decide)).trans ((vup_ne (by decide)).trans ((vup_ne (by decide)).trans h6))))) dX6_count_136 ?_
    refine V_callS (As := [.int (nI (sm (P 1) (snoF P (nodF P l_)) 8))]) (st := [.int (nI (T_ 12)), .ref w_]) hX mX6_139 (k_bitCountM (sm_lt12 h12 _ (by decide)) (cntM hok sno_pres) ?_) rfl (Nat.le_of_ble_eq_true rfl) (Nat.le_of_ble_eq_true rfl) dX6_count_139
    show V G 7 X 142 [(0, .ref w_), (1, .ref p_), (2, .int (nI sg_)), (3, .int (nI (giftN sg_))), (4, .int (nI ((P 0 3) * 4))), (5, .int (nI (sm (P 1) (dipF P sg_ l_) 8))), (6, .int (nI (cnt (nodF P l_) 8)))] [.int (nI (cnt (snoF P (nodF P l_)) 8)), .int (nI (T_ 12)), .ref w_] (vup (vup (vup (vup (vup μ.1 w_ 7 (nI ((T_ 7) + (cnt (nodF P l_) 8)))) w_ 8 (nI ((T_ 8) + (cnt (dipF P sg_ l_) 8)))) w_ 9 (nI ((T_ 9) + ((P 0 2) * (cnt (seenF P sg_ l_) 8))))) w_ 10 (nI ((T_ 10) + ((giftN sg_) * (cnt (othF P (nodF P l_)) 8))))) w_ 11 (nI ((T_ 11) + ((giftN sg_) * (cnt (nodF P l_) 8)))), μ.2)
    refine V_iaddN hX dX6_count_142 ?_
    refine V_puti hX fX6_49 fw_5_12 hkw dX6_count_143 ?_
    show V G 7 X 146 [(0, .ref w_), (1, .ref p_), (2, .int (nI sg_)), (3, .int (nI (giftN sg_))), (4, .int (nI ((P 0 3) * 4))), (5, .int (nI (sm (P 1) (dipF P sg_ l_) 8))), (6, .int (nI (cnt (nodF P l_) 8)))] [] (vup (vup (vup (vup (vup (vup μ.1 w_ 7 (nI ((T_ 7) + (cnt (nodF P l_) 8)))) w_ 8 (nI ((T_ 8) + (cnt (dipF P sg_ l_) 8)))) w_ 9 (nI ((T_ 9) + ((P 0 2) * (cnt (seenF P sg_ l_) 8))))) w_ 10 (nI ((T_ 10) + ((giftN sg_) * (cnt (othF P (nodF P l_)) 8))))) w_ 11 (nI ((T_ 11) + ((giftN sg_) * (cnt (nodF P l_) 8))))) w_ 12 (nI ((T_ 12) + (cnt (snoF P (nodF P l_)) 8))), μ.2)
    refine V_vret hX rfl dX6_count_146 ?_
    refine hR _ _ (hQ _ (fun a ha => by dsimp only; rw [vup_row _ _ _ ha, vup_row _ _ _ ha, vup_row _ _ _ ha, vup_row _ _ _ ha, vup_row _ _ _ ha, vup_row _ _ _ ha]) (fun q hq => by dsimp only; rw [vup_ne (by omega), vup_ne (by omega), vup_ne (by omega), vup_ne (by omega), vup_ne (by omega), vup_ne (by omega)]) (fun k h7 h8 => ?_) rfl)
    match k, h7, h8 with
    | 7, _, _ => exact ((vup_ne (by decide)).trans ((vup_ne (by decide)).trans ((vup_ne (by decide)).trans ((vup_ne (by decide)).trans ((vup_ne (by decide)).trans (vup_same _ _ _ _))))))
    | 8, _, _ => exact ((vup_ne (by decide)).trans ((vup_ne (by decide)).trans ((vup_ne (by decide)).trans ((vup_ne (by decide)).trans (vup_same _ _ _ _)))))
    | 9, _, _ => exact ((vup_ne (by decide)).trans ((vup_ne (by decide)).trans ((vup_ne (by decide)).trans (vup_same _ _ _ _))))
    | 10, _, _ => exact ((vup_ne (by decide)).trans ((vup_ne (by decide)).trans (vup_same _ _ _ _)))
    | 11, _, _ => exact ((vup_ne (by decide)).trans (vup_same _ _ _ _))
    | 12, _, _ => exact (vup_same _ _ _ _)
