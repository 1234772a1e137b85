theorem sm_id {f : Nat → Bool} {n q : Nat} (h : q < n) : (sm (fun h => h) f n).testBit q = f q := sm_at (s := fun h => h) (e := fun _ => true) (fun _ _ _ _ _ _ e => e) (fun _ _ _ => rfl) h rfl
theorem sm_lt8 (f : Nat → Bool) {n : Nat} (h : n ≤ 8) : sm (fun h => h) f n < 256 := sm_lt (m := 8) (fun g hg _ => by omega)
theorem lft_none {E : PC} {k : Nat} {f : Nat → Bool} (hn : ∀ g, g < 8 → ¬ besL E k g = true) (hf : ∀ g, g < 8 → f g = true → pPres E g = true) : lftB E f k = false := by
  cases h : lftB E f k with
  | false => rfl
  | true =>
    unfold lftB at h
    obtain ⟨g, g1, g2⟩ := anyB_iff.mp h
    rw [Bool.and_eq_true, Bool.and_eq_true] at g2
    exact absurd (by unfold besL; rw [hf g g1 g2.1.1, g2.1.2, g2.2]; rfl) (hn g g1)
theorem rgt_none {E : PC} {k : Nat} {f : Nat → Bool} (hn : ∀ g, g < 8 → ¬ besR E k g = true) (hf : ∀ g, g < 8 → f g = true → pPres E g = true) : rgtB E f k = false := by
  cases h : rgtB E f k with
  | false => rfl
  | true =>
    unfold rgtB at h
    obtain ⟨g, g1, g2⟩ := anyB_iff.mp h
    rw [Bool.and_eq_true, Bool.and_eq_true] at g2
    exact absurd (by unfold besR; rw [hf g g1 g2.1.1, g2.1.2, g2.2]; rfl) (hn g g1)
theorem lft_some {E : PC} (hok : okP E) {k q : Nat} {f : Nat → Bool} (hq8 : q < 8) (hq : besL E k q = true) (hf : ∀ g, g < 8 → f g = true → pPres E g = true) : lftB E f k = f q := by
  unfold besL at hq
  rw [Bool.and_eq_true, Bool.and_eq_true] at hq
  rw [Bool.eq_iff_iff]
  unfold lftB
  rw [anyB_iff]
  constructor
  · rintro ⟨g, g1, g2⟩
    rw [Bool.and_eq_true, Bool.and_eq_true] at g2
    have h1 := hq.1.2
    have h2 := g2.1.2
    rw [decide_eq_true_eq] at h1 h2
    have := hok.2.2.2.2.2.2.2.2.2.2 g g1 q hq8 (hf g g1 g2.1.1) hq.1.1 (by omega)
    rw [← this]
    exact g2.1.1
  · intro z
    exact ⟨q, hq8, by rw [z, hq.1.2, hq.2]; rfl⟩
theorem rgt_some {E : PC} (hok : okP E) {k q : Nat} {f : Nat → Bool} (hq8 : q < 8) (hq : besR E k q = true) (hf : ∀ g, g < 8 → f g = true → pPres E g = true) : rgtB E f k = f q := by
  unfold besR at hq
  rw [Bool.and_eq_true, Bool.and_eq_true] at hq
  rw [Bool.eq_iff_iff]
  unfold rgtB
  rw [anyB_iff]
  constructor
  · rintro ⟨g, g1, g2⟩
    rw [Bool.and_eq_true, Bool.and_eq_true] at g2
    have h1 := hq.1.2
    have h2 := g2.1.2
    rw [decide_eq_true_eq] at h1 h2
    have := hok.2.2.2.2.2.2.2.2.2.2 g g1 q hq8 (hf g g1 g2.1.1) hq.1.1 (by omega)
    rw [← this]
    exact g2.1.1
  · intro z
    exact ⟨q, hq8, by rw [z, hq.1.2, hq.2]; rfl⟩
theorem oth_at {E : PC} {k q : Nat} {f : Nat → Bool} (hp : pPres E q = true) : othF E f q = !f q := by
  unfold othF
  rw [hp, Bool.true_and]
theorem besL_pres {E : PC} {k q : Nat} (h : besL E k q = true) : pPres E q = true := by
  unfold besL at h
  rw [Bool.and_eq_true, Bool.and_eq_true] at h
  exact h.1.1
theorem besR_pres {E : PC} {k q : Nat} (h : besR E k q = true) : pPres E q = true := by
  unfold besR at h
  rw [Bool.and_eq_true, Bool.and_eq_true] at h
  exact h.1.1
def mnR (E : PC) (l : Nat → Nat) (m : Nat) (μ μ1 : VS) (k : Nat) : Prop := (∀ a, a ≠ 78 → a ≠ 82 → μ1.1 a = μ.1 a) ∧ (∀ h, h < 8 → μ1.1 78 h = nI (if h < k then lev2 E (nodF E l) l h else l h)) ∧ (∀ h, h < k → μ1.1 82 (8 * m + h) = nI (lev2 E (nodF E l) l h)) ∧ (∀ x, x < 8 * m ∨ 8 * m + 8 ≤ x → μ1.1 82 x = μ.1 82 x) ∧ μ1.2 = μ.2
theorem mnR.step0 {E : PC} {l : Nat → Nat} {m : Nat} {μ μ1 : VS} {k : Nat} (h : mnR E l m μ μ1 k) (hk : k < 8) (he : ¬ elbF E (nodF E l) k = true) : mnR E l m μ (vup μ1.1 82 (8 * m + k) (nI (l k)), μ1.2) (k + 1) := by
  have e2 : lev2 E (nodF E l) l k = l k := if_neg he
  obtain ⟨h1, h2, h3, h4, h5⟩ := h
  refine ⟨fun a ha hb => ?_, fun g hg => ?_, fun g hg => ?_, fun x hx => ?_, h5⟩
  · dsimp only; rw [vup_row _ _ _ hb]; exact h1 a ha hb
  · dsimp only
    rw [vup_row _ _ _ (by decide), h2 g hg]
    congr 1
    by_cases e : g = k
    · subst e; rw [if_neg (by omega), if_pos (by omega), e2]
    · by_cases q : g < k
      · rw [if_pos q, if_pos (by omega)]
      · rw [if_neg q, if_neg (by omega)]
  · dsimp only
    rw [vup_get]
    by_cases e : g = k
    · subst e; rw [if_pos ⟨rfl, rfl⟩, e2]
    · rw [if_neg (by omega)]; exact h3 g (by omega)
  · dsimp only
    rw [vup_get, if_neg (by omega)]; exact h4 x hx
theorem mnR.step1 {E : PC} {l : Nat → Nat} {m : Nat} {μ μ1 : VS} {k v : Nat} (h : mnR E l m μ μ1 k) (hk : k < 8) (e2 : v = lev2 E (nodF E l) l k) : mnR E l m μ (vup (vup μ1.1 78 k (nI v)) 82 (8 * m + k) (nI v), μ1.2) (k + 1) := by
  subst e2
  obtain ⟨h1, h2, h3, h4, h5⟩ := h
  refine ⟨fun a ha hb => ?_, fun g hg => ?_, fun g hg => ?_, fun x hx => ?_, h5⟩
  · dsimp only; rw [vup_row _ _ _ hb, vup_row _ _ _ ha]; exact h1 a ha hb
  · dsimp only
    rw [vup_row _ _ _ (by decide), vup_get]
    by_cases e : g = k
    · subst e; rw [if_pos ⟨rfl, rfl⟩, if_pos (by omega)]
    · rw [if_neg (by omega), h2 g hg]
      congr 1
      by_cases q : g < k
      · rw [if_pos q, if_pos (by omega)]
      · rw [if_neg q, if_neg (by omega)]
  · dsimp only
    rw [vup_get]
    by_cases e : g = k
    · subst e; rw [if_pos ⟨rfl, rfl⟩]
    · rw [if_neg (by omega), vup_row _ _ _ (by decide)]; exact h3 g (by omega)
  · dsimp only
    rw [vup_get, if_neg (by omega), vup_row _ _ _ (by decide)]; exact h4 x hx
set_option maxRecDepth 100000 in
set_option maxHeartbeats 4000000 in
theorem lpM_min2 {G : VG} {d : Nat} {X : VX} {μ : VS} {m_ sg_ ag_ : Nat} {E : PC} {l_ : Nat → Nat} (hX : Cx G (d + 3) yX9_minute cX9_minute 11 none X) (hE0 : isE μ E) (hok : okP E) (hm60 : m_ < 61) (hF : ∀ μ1, mnR E l_ m_ μ μ1 8 → V G 11 X 409 [(0, .ref 69), (1, .int (nI m_)), (2, .int (nI sg_)), (3, .int (nI (sm (fun h => h) (nodF E l_) 8))), (4, .int (nI ag_)), (5, .int (nI (sm (fun h => h) (snoF E (nodF E l_)) 8))), (6, .int (nI 8))] [] μ1) : ∀ (j k_ : Nat) (μ1 : VS), k_ ≤ 8 → 9 ≤ k_ + j → mnR E l_ m_ μ μ1 k_ → V G 11 X 218 [(0, .ref 69), (1, .int (nI m_)), (2, .int (nI sg_)), (3, .int (nI (sm (fun h => h) (nodF E l_) 8))), (4, .int (nI ag_)), (5, .int (nI (sm (fun h => h) (snoF E (nodF E l_)) k_))), (6, .int (nI k_))] [] μ1 := by
  have h4 := hok.2.2.2.2.1
  have h12 : ∀ h, h < 8 → E 1 h < 12 := fun h hh => (hok.2.2.2.2.2.2.2.1 h hh).1
  intro j
  induction j with
  | zero =>
    intro k_ μ1 h1 h2
    exact absurd h2 (by omega)
  | succ j ih =>
    intro k_ μ1 h1 h2 hV
    have hE : isE μ1 E := hE0.same ⟨fun a k hk => by rw [hV.1 a (by intro e; subst e; exact hk (Or.inl (by omega))) (by intro e; subst e; exact hk (Or.inl (by omega)))], hV.2.2.2.2⟩
    refine V_iload hX dX9_minute_218 6 rfl ?_
    refine V_bipush (v := nI 8) hX dX9_minute_220 (by decide) ?_
    refine V_icmp_geN (tgt := 409) hX dX9_minute_222 (by decide) (by first | omega | exact shl8 (by omega) | (have := sm_lt8 (nodF E l_) (n := 8) (by decide); omega) | (have := (hok.2.2.2.2.2.2.2.1 k_ (by omega)).2.1; omega)) (by first | omega | exact shl8 (by omega) | (have := sm_lt8 (nodF E l_) (n := 8) (by decide); omega) | (have := (hok.2.2.2.2.2.2.2.1 k_ (by omega)).2.1; omega)) (fun c222 => ?_) (fun c222 => ?_)
    · obtain rfl : k_ = 8 := by omega
      exact hF μ1 hV
    · refine V_aload_n hX dX9_minute_225 0 rfl ?_
      refine V_iload hX dX9_minute_226 6 rfl ?_
      refine V_iconst (v := (-1)) hX dX9_minute_228 (by decide) ?_
      refine V_callV (As := [.int (nI k_), .int (-1)]) (st := []) hX mX9_138 rfl (kM_besideL hE h4 h12 (by omega) ?_) rfl (Nat.le_of_ble_eq_true rfl) (Nat.le_of_ble_eq_true rfl) dX9_minute_229
      show V G 11 X 232 [(0, .ref 69), (1, .int (nI m_)), (2, .int (nI sg_)), (3, .int (nI (sm (fun h => h) (nodF E l_) 8))), (4, .int (nI ag_)), (5, .int (nI (sm (fun h => h) (snoF E (nodF E l_)) k_))), (6, .int (nI k_))] [.int (bsK (besL E k_) 8)] μ1
      refine V_istore (ls' := [(0, .ref 69), (1, .int (nI m_)), (2, .int (nI sg_)), (3, .int (nI (sm (fun h => h) (nodF E l_) 8))), (4, .int (nI ag_)), (5, .int (nI (sm (fun h => h) (snoF E (nodF E l_)) k_))), (6, .int (nI k_)), (7, .int (bsK (besL E k_) 8))]) hX dX9_minute_232 (by decide) rfl ?_
      refine V_aload_n hX dX9_minute_234 0 rfl ?_
      refine V_iload hX dX9_minute_235 6 rfl ?_
      refine V_iconst (v := nI 1) hX dX9_minute_237 (by decide) ?_
      refine V_callV (As := [.int (nI k_), .int (nI 1)]) (st := []) hX mX9_138 rfl (kM_besideR hE h4 h12 (by omega) ?_) rfl (Nat.le_of_ble_eq_true rfl) (Nat.le_of_ble_eq_true rfl) dX9_minute_238
      show V G 11 X 241 [(0, .ref 69), (1, .int (nI m_)), (2, .int (nI sg_)), (3, .int (nI (sm (fun h => h) (nodF E l_) 8))), (4, .int (nI ag_)), (5, .int (nI (sm (fun h => h) (snoF E (nodF E l_)) k_))), (6, .int (nI k_)), (7, .int (bsK (besL E k_) 8))] [.int (bsK (besR E k_) 8)] μ1
      refine V_istore (ls' := [(0, .ref 69), (1, .int (nI m_)), (2, .int (nI sg_)), (3, .int (nI (sm (fun h => h) (nodF E l_) 8))), (4, .int (nI ag_)), (5, .int (nI (sm (fun h => h) (snoF E (nodF E l_)) k_))), (6, .int (nI k_)), (7, .int (bsK (besL E k_) 8)), (8, .int (bsK (besR E k_) 8))]) hX dX9_minute_241 (by decide) rfl ?_
      rcases bsK_cases (besL E k_) 8 with ⟨eL, nL⟩ | ⟨q_, hq8, hqB, eL⟩
      · rcases bsK_cases (besR E k_) 8 with ⟨eR, nR⟩ | ⟨r_, hr8, hrB, eR⟩
        · rw [eL, eR]
          have hnk : nodF E l_ k_ = (sm (fun h => h) (nodF E l_) 8).testBit k_ := (sm_id (by omega)).symm
          have hlf : lftB E (nodF E l_) k_ = false := lft_none nL (fun _ _ => nod_pres)
          have hrg : rgtB E (nodF E l_) k_ = false := rgt_none nR (fun _ _ => nod_pres)
          have hlo : lftB E (othF E (nodF E l_)) k_ = false := lft_none nL oth_pres
          have hro : rgtB E (othF E (nodF E l_)) k_ = false := rgt_none nR oth_pres
          refine V_iload_n hX dX9_minute_243 3 rfl ?_
          refine V_iload hX dX9_minute_244 6 rfl ?_
          refine V_callS (As := [.int (nI (sm (fun h => h) (nodF E l_) 8)), .int (nI k_)]) (st := []) hX mX9_79 (k_has (by first | omega | exact shl8 (by omega) | (have := sm_lt8 (nodF E l_) (n := 8) (by decide); omega) | (have := (hok.2.2.2.2.2.2.2.1 k_ (by omega)).2.1; omega)) (by first | omega | exact shl8 (by omega) | (have := sm_lt8 (nodF E l_) (n := 8) (by decide); omega) | (have := (hok.2.2.2.2.2.2.2.1 k_ (by omega)).2.1; omega)) ?_) rfl (Nat.le_of_ble_eq_true rfl) (Nat.le_of_ble_eq_true rfl) dX9_minute_246
          show V G 11 X 249 [(0, .ref 69), (1, .int (nI m_)), (2, .int (nI sg_)), (3, .int (nI (sm (fun h => h) (nodF E l_) 8))), (4, .int (nI ag_)), (5, .int (nI (sm (fun h => h) (snoF E (nodF E l_)) k_))), (6, .int (nI k_)), (7, .int (-6)), (8, .int (-6))] [.int (bI ((sm (fun h => h) (nodF E l_) 8).testBit k_ = true))] μ1
          refine V_if_eqB (tgt := 384) hX dX9_minute_249 (by decide) (fun c249 => ?_) (fun c249 => ?_)
          · refine V_aload_n hX dX9_minute_384 0 rfl ?_
            refine V_getr (j := 82) hX fX9_56 rfl rfl dX9_minute_385 ?_
            refine V_bipush (v := nI 8) hX dX9_minute_388 (by decide) ?_
            refine V_iload_n hX dX9_minute_390 1 rfl ?_
            refine V_imulN hX dX9_minute_391 ?_
            refine V_iload hX dX9_minute_392 6 rfl ?_
            refine V_iaddN hX dX9_minute_394 ?_
            refine V_aload_n hX dX9_minute_395 0 rfl ?_
            refine V_getr (j := 78) hX fX9_44 rfl rfl dX9_minute_396 ?_
            refine V_iload hX dX9_minute_399 6 rfl ?_
            refine V_ialdN (x := nI (l_ k_)) hX rfl (by first | omega | exact shl8 (by omega) | (have := sm_lt8 (nodF E l_) (n := 8) (by decide); omega) | (have := (hok.2.2.2.2.2.2.2.1 k_ (by omega)).2.1; omega)) (by decide) ((hV.2.1 k_ (by omega)).trans (by rw [if_neg (by omega)])) dX9_minute_401 ?_
            refine V_iastN hX rfl (by first | omega | exact shl8 (by omega) | (have := sm_lt8 (nodF E l_) (n := 8) (by decide); omega) | (have := (hok.2.2.2.2.2.2.2.1 k_ (by omega)).2.1; omega)) (by decide) dX9_minute_402 ?_
            show V G 11 X 403 [(0, .ref 69), (1, .int (nI m_)), (2, .int (nI sg_)), (3, .int (nI (sm (fun h => h) (nodF E l_) 8))), (4, .int (nI ag_)), (5, .int (nI (sm (fun h => h) (snoF E (nodF E l_)) k_))), (6, .int (nI k_)), (7, .int (-6)), (8, .int (-6))] [] (vup μ1.1 82 ((8 * m_) + k_) (nI (l_ k_)), μ1.2)
            refine V_iincN (n := 1) (ls' := [(0, .ref 69), (1, .int (nI m_)), (2, .int (nI sg_)), (3, .int (nI (sm (fun h => h) (nodF E l_) 8))), (4, .int (nI ag_)), (5, .int (nI (sm (fun h => h) (snoF E (nodF E l_)) k_))), (6, .int (nI (k_ + 1))), (7, .int (-6)), (8, .int (-6))]) hX dX9_minute_403 6 rfl (by decide) rfl ?_
            refine V_goto (tgt := 218) hX dX9_minute_406 (by decide) ?_
            have hnn : ¬ nodF E l_ k_ = true := fun z => c249 (by rw [sm_id (by omega)]; exact z)
            have h9 := ih (k_ + 1) _ (by omega) (by omega) (hV.step0 (by omega) (fun z => hnn (by unfold elbF at z; rw [Bool.and_eq_true] at z; exact z.1)))
            rw [sm_n (s := fun h => h) (f := snoF E (nodF E l_)) (k := k_) (fun z => hnn (by unfold snoF at z; rw [Bool.and_eq_true, Bool.and_eq_true] at z; exact z.1.1))] at h9
            exact V_sub [0, 1, 2, 3, 4, 5, 6] rfl h9
          · suffices hJ252 : V G 11 X 285 [(0, .ref 69), (1, .int (nI m_)), (2, .int (nI sg_)), (3, .int (nI (sm (fun h => h) (nodF E l_) 8))), (4, .int (nI ag_)), (5, .int (nI (sm (fun h => h) (snoF E (nodF E l_)) k_))), (6, .int (nI k_)), (7, .int (-6)), (8, .int (-6))] [.int (bI (snoF E (nodF E l_) k_ = true))] μ1 by
              refine V_iload hX dX9_minute_252 7 rfl ?_
              refine V_if_lt (tgt := 284) hX dX9_minute_254 (by decide) (fun c254 => ?_) (fun c254 => ?_)
              · refine V_iconst (v := nI 0) hX dX9_minute_284 (by decide) ?_
                rw [show bI (snoF E (nodF E l_) k_ = true) = nI 0 from bI_f (by unfold snoF; simp [hlf, hrg])] at hJ252
                exact hJ252
              · exact absurd (by decide) c254
            refine V_istore (ls' := [(0, .ref 69), (1, .int (nI m_)), (2, .int (nI sg_)), (3, .int (nI (sm (fun h => h) (nodF E l_) 8))), (4, .int (nI ag_)), (5, .int (nI (sm (fun h => h) (snoF E (nodF E l_)) k_))), (6, .int (nI k_)), (7, .int (-6)), (8, .int (-6)), (9, .int (bI (snoF E (nodF E l_) k_ = true)))]) hX dX9_minute_285 (by decide) rfl ?_
            suffices hJ287 : V G 11 X 320 [(0, .ref 69), (1, .int (nI m_)), (2, .int (nI sg_)), (3, .int (nI (sm (fun h => h) (nodF E l_) 8))), (4, .int (nI ag_)), (5, .int (nI (sm (fun h => h) (snoF E (nodF E l_)) k_))), (6, .int (nI k_)), (7, .int (-6)), (8, .int (-6)), (9, .int (bI (snoF E (nodF E l_) k_ = true)))] [.int (bI (elbF E (nodF E l_) k_ = true))] μ1 by
              refine V_iload hX dX9_minute_287 7 rfl ?_
              refine V_if_lt (tgt := 301) hX dX9_minute_289 (by decide) (fun c289 => ?_) (fun c289 => ?_)
              · refine V_iload hX dX9_minute_301 8 rfl ?_
                refine V_if_lt (tgt := 319) hX dX9_minute_303 (by decide) (fun c303 => ?_) (fun c303 => ?_)
                · refine V_iconst (v := nI 0) hX dX9_minute_319 (by decide) ?_
                  rw [show bI (elbF E (nodF E l_) k_ = true) = nI 0 from bI_f (by unfold elbF; simp [hlo, hro])] at hJ287
                  exact hJ287
                · exact absurd (by decide) c303
              · exact absurd (by decide) c289
            refine V_istore (ls' := [(0, .ref 69), (1, .int (nI m_)), (2, .int (nI sg_)), (3, .int (nI (sm (fun h => h) (nodF E l_) 8))), (4, .int (nI ag_)), (5, .int (nI (sm (fun h => h) (snoF E (nodF E l_)) k_))), (6, .int (nI k_)), (7, .int (-6)), (8, .int (-6)), (9, .int (bI (snoF E (nodF E l_) k_ = true))), (10, .int (bI (elbF E (nodF E l_) k_ = true)))]) hX dX9_minute_320 (by decide) rfl ?_
            refine V_iload hX dX9_minute_322 5 rfl ?_
            suffices hJ324 : V G 11 X 337 [(0, .ref 69), (1, .int (nI m_)), (2, .int (nI sg_)), (3, .int (nI (sm (fun h => h) (nodF E l_) 8))), (4, .int (nI ag_)), (5, .int (nI (sm (fun h => h) (snoF E (nodF E l_)) k_))), (6, .int (nI k_)), (7, .int (-6)), (8, .int (-6)), (9, .int (bI (snoF E (nodF E l_) k_ = true))), (10, .int (bI (elbF E (nodF E l_) k_ = true)))] [.int (nI (if snoF E (nodF E l_) k_ = true then 1 <<< k_ else 0)), .int (nI (sm (fun h => h) (snoF E (nodF E l_)) k_))] μ1 by
              refine V_iload hX dX9_minute_324 9 rfl ?_
              refine V_if_eqB (tgt := 336) hX dX9_minute_326 (by decide) (fun c326 => ?_) (fun c326 => ?_)
              · refine V_iconst (v := nI 0) hX dX9_minute_336 (by decide) ?_
                rw [show nI (if snoF E (nodF E l_) k_ = true then 1 <<< k_ else 0) = nI 0 from by rw [if_neg c326]] at hJ324
                exact hJ324
              · refine V_iconst (v := nI 1) hX dX9_minute_329 (by decide) ?_
                refine V_iload hX dX9_minute_330 6 rfl ?_
                refine V_ishlN hX dX9_minute_332 (by first | omega | exact shl8 (by omega) | (have := sm_lt8 (nodF E l_) (n := 8) (by decide); omega) | (have := (hok.2.2.2.2.2.2.2.1 k_ (by omega)).2.1; omega)) (by first | omega | exact shl8 (by omega) | (have := sm_lt8 (nodF E l_) (n := 8) (by decide); omega) | (have := (hok.2.2.2.2.2.2.2.1 k_ (by omega)).2.1; omega)) ?_
                refine V_goto (tgt := 337) hX dX9_minute_333 (by decide) ?_
                rw [show nI (if snoF E (nodF E l_) k_ = true then 1 <<< k_ else 0) = nI (1 <<< k_) from by rw [if_pos c326]] at hJ324
                exact hJ324
            refine V_iorN hX dX9_minute_337 ?_
            refine V_istore (ls' := [(0, .ref 69), (1, .int (nI m_)), (2, .int (nI sg_)), (3, .int (nI (sm (fun h => h) (nodF E l_) 8))), (4, .int (nI ag_)), (5, .int (nI ((sm (fun h => h) (snoF E (nodF E l_)) k_) ||| (if snoF E (nodF E l_) k_ = true then 1 <<< k_ else 0)))), (6, .int (nI k_)), (7, .int (-6)), (8, .int (-6)), (9, .int (bI (snoF E (nodF E l_) k_ = true))), (10, .int (bI (elbF E (nodF E l_) k_ = true)))]) hX dX9_minute_338 (by decide) rfl ?_
            refine V_ls (ls' := [(0, .ref 69), (1, .int (nI m_)), (2, .int (nI sg_)), (3, .int (nI (sm (fun h => h) (nodF E l_) 8))), (4, .int (nI ag_)), (5, .int (nI (sm (fun h => h) (snoF E (nodF E l_)) (k_ + 1)))), (6, .int (nI k_)), (7, .int (-6)), (8, .int (-6)), (9, .int (bI (snoF E (nodF E l_) k_ = true))), (10, .int (bI (elbF E (nodF E l_) k_ = true)))]) (by rw [sm_step (f := snoF E (nodF E l_))]) ?_
            refine V_aload_n hX dX9_minute_340 0 rfl ?_
            refine V_getr (j := 78) hX fX9_44 rfl rfl dX9_minute_341 ?_
            refine V_iload hX dX9_minute_344 6 rfl ?_
            suffices hJ346 : V G 11 X 383 [(0, .ref 69), (1, .int (nI m_)), (2, .int (nI sg_)), (3, .int (nI (sm (fun h => h) (nodF E l_) 8))), (4, .int (nI ag_)), (5, .int (nI (sm (fun h => h) (snoF E (nodF E l_)) (k_ + 1)))), (6, .int (nI k_)), (7, .int (-6)), (8, .int (-6)), (9, .int (bI (snoF E (nodF E l_) k_ = true))), (10, .int (bI (elbF E (nodF E l_) k_ = true)))] [.int (nI (lev2 E (nodF E l_) l_ k_)), .int (nI k_), .ref 78] μ1 by
              refine V_iload hX dX9_minute_346 10 rfl ?_
              refine V_if_neB (tgt := 361) hX dX9_minute_348 (by decide) (fun c348 => ?_) (fun c348 => ?_)
              · refine V_aload_n hX dX9_minute_361 0 rfl ?_
                refine V_getr (j := 71) hX fX9_17 rfl rfl dX9_minute_362 ?_
                refine V_iload hX dX9_minute_365 6 rfl ?_
                refine V_ialdN (x := nI (E 2 k_)) hX rfl (by first | omega | exact shl8 (by omega) | (have := sm_lt8 (nodF E l_) (n := 8) (by decide); omega) | (have := (hok.2.2.2.2.2.2.2.1 k_ (by omega)).2.1; omega)) (by decide) (hE.2.2.1 _ (by omega)) dX9_minute_367 ?_
                refine V_iconst (v := nI 2) hX dX9_minute_368 (by decide) ?_
                refine V_icmp_geN (tgt := 382) hX dX9_minute_369 (by decide) (by first | omega | exact shl8 (by omega) | (have := sm_lt8 (nodF E l_) (n := 8) (by decide); omega) | (have := (hok.2.2.2.2.2.2.2.1 k_ (by omega)).2.1; omega)) (by first | omega | exact shl8 (by omega) | (have := sm_lt8 (nodF E l_) (n := 8) (by decide); omega) | (have := (hok.2.2.2.2.2.2.2.1 k_ (by omega)).2.1; omega)) (fun c369 => ?_) (fun c369 => ?_)
                · refine V_iconst (v := nI 2) hX dX9_minute_382 (by decide) ?_
                  rw [show nI (lev2 E (nodF E l_) l_ k_) = nI 2 from by rw [show lev2 E (nodF E l_) l_ k_ = min 2 (E 2 k_) from if_pos c348, show min 2 (E 2 k_) = 2 by omega]] at hJ346
                  exact hJ346
                · refine V_aload_n hX dX9_minute_372 0 rfl ?_
                  refine V_getr (j := 71) hX fX9_17 rfl rfl dX9_minute_373 ?_
                  refine V_iload hX dX9_minute_376 6 rfl ?_
                  refine V_ialdN (x := nI (E 2 k_)) hX rfl (by first | omega | exact shl8 (by omega) | (have := sm_lt8 (nodF E l_) (n := 8) (by decide); omega) | (have := (hok.2.2.2.2.2.2.2.1 k_ (by omega)).2.1; omega)) (by decide) (hE.2.2.1 _ (by omega)) dX9_minute_378 ?_
                  refine V_goto (tgt := 383) hX dX9_minute_379 (by decide) ?_
                  rw [show nI (lev2 E (nodF E l_) l_ k_) = nI (E 2 k_) from by rw [show lev2 E (nodF E l_) l_ k_ = min 2 (E 2 k_) from if_pos c348, show min 2 (E 2 k_) = E 2 k_ by omega]] at hJ346
                  exact hJ346
              · refine V_aload_n hX dX9_minute_351 0 rfl ?_
                refine V_getr (j := 78) hX fX9_44 rfl rfl dX9_minute_352 ?_
                refine V_iload hX dX9_minute_355 6 rfl ?_
                refine V_ialdN (x := nI (l_ k_)) hX rfl (by first | omega | exact shl8 (by omega) | (have := sm_lt8 (nodF E l_) (n := 8) (by decide); omega) | (have := (hok.2.2.2.2.2.2.2.1 k_ (by omega)).2.1; omega)) (by decide) ((hV.2.1 k_ (by omega)).trans (by rw [if_neg (by omega)])) dX9_minute_357 ?_
                refine V_goto (tgt := 383) hX dX9_minute_358 (by decide) ?_
                rw [show nI (lev2 E (nodF E l_) l_ k_) = nI (l_ k_) from by rw [show lev2 E (nodF E l_) l_ k_ = l_ k_ from if_neg c348]] at hJ346
                exact hJ346
            refine V_iastN hX rfl (by first | omega | exact shl8 (by omega) | (have := sm_lt8 (nodF E l_) (n := 8) (by decide); omega) | (have := (hok.2.2.2.2.2.2.2.1 k_ (by omega)).2.1; omega)) (by decide) dX9_minute_383 ?_
            show V G 11 X 384 [(0, .ref 69), (1, .int (nI m_)), (2, .int (nI sg_)), (3, .int (nI (sm (fun h => h) (nodF E l_) 8))), (4, .int (nI ag_)), (5, .int (nI (sm (fun h => h) (snoF E (nodF E l_)) (k_ + 1)))), (6, .int (nI k_)), (7, .int (-6)), (8, .int (-6)), (9, .int (bI (snoF E (nodF E l_) k_ = true))), (10, .int (bI (elbF E (nodF E l_) k_ = true)))] [] (vup μ1.1 78 k_ (nI (lev2 E (nodF E l_) l_ k_)), μ1.2)
            refine V_aload_n hX dX9_minute_384 0 rfl ?_
            refine V_getr (j := 82) hX fX9_56 rfl rfl dX9_minute_385 ?_
            refine V_bipush (v := nI 8) hX dX9_minute_388 (by decide) ?_
            refine V_iload_n hX dX9_minute_390 1 rfl ?_
            refine V_imulN hX dX9_minute_391 ?_
            refine V_iload hX dX9_minute_392 6 rfl ?_
            refine V_iaddN hX dX9_minute_394 ?_
            refine V_aload_n hX dX9_minute_395 0 rfl ?_
            refine V_getr (j := 78) hX fX9_44 rfl rfl dX9_minute_396 ?_
            refine V_iload hX dX9_minute_399 6 rfl ?_
            refine V_ialdN (x := nI (lev2 E (nodF E l_) l_ k_)) hX rfl (by first | omega | exact shl8 (by omega) | (have := sm_lt8 (nodF E l_) (n := 8) (by decide); omega) | (have := (hok.2.2.2.2.2.2.2.1 k_ (by omega)).2.1; omega)) (by decide) (by dsimp only; exact vup_same _ _ _ _) dX9_minute_401 ?_
            refine V_iastN hX rfl (by first | omega | exact shl8 (by omega) | (have := sm_lt8 (nodF E l_) (n := 8) (by decide); omega) | (have := (hok.2.2.2.2.2.2.2.1 k_ (by omega)).2.1; omega)) (by decide) dX9_minute_402 ?_
            show V G 11 X 403 [(0, .ref 69), (1, .int (nI m_)), (2, .int (nI sg_)), (3, .int (nI (sm (fun h => h) (nodF E l_) 8))), (4, .int (nI ag_)), (5, .int (nI (sm (fun h => h) (snoF E (nodF E l_)) (k_ + 1)))), (6, .int (nI k_)), (7, .int (-6)), (8, .int (-6)), (9, .int (bI (snoF E (nodF E l_) k_ = true))), (10, .int (bI (elbF E (nodF E l_) k_ = true)))] [] (vup (vup μ1.1 78 k_ (nI (lev2 E (nodF E l_) l_ k_))) 82 ((8 * m_) + k_) (nI (lev2 E (nodF E l_) l_ k_)), μ1.2)
            refine V_iincN (n := 1) (ls' := [(0, .ref 69), (1, .int (nI m_)), (2, .int (nI sg_)), (3, .int (nI (sm (fun h => h) (nodF E l_) 8))), (4, .int (nI ag_)), (5, .int (nI (sm (fun h => h) (snoF E (nodF E l_)) (k_ + 1)))), (6, .int (nI (k_ + 1))), (7, .int (-6)), (8, .int (-6)), (9, .int (bI (snoF E (nodF E l_) k_ = true))), (10, .int (bI (elbF E (nodF E l_) k_ = true)))]) hX dX9_minute_403 6 rfl (by decide) rfl ?_
            refine V_goto (tgt := 218) hX dX9_minute_406 (by decide) ?_
            exact V_sub [0, 1, 2, 3, 4, 5, 6] rfl (ih (k_ + 1) _ (by omega) (by omega) (hV.step1 (by omega) rfl))
        · rw [eL, eR]
          have hnk : nodF E l_ k_ = (sm (fun h => h) (nodF E l_) 8).testBit k_ := (sm_id (by omega)).symm
          have hlf : lftB E (nodF E l_) k_ = false := lft_none nL (fun _ _ => nod_pres)
          have hrg : rgtB E (nodF E l_) k_ = (sm (fun h => h) (nodF E l_) 8).testBit r_ := (rgt_some hok hr8 hrB (fun _ _ => nod_pres)).trans (sm_id hr8).symm
          have hlo : lftB E (othF E (nodF E l_)) k_ = false := lft_none nL oth_pres
          have hro : rgtB E (othF E (nodF E l_)) k_ = !(sm (fun h => h) (nodF E l_) 8).testBit r_ := (rgt_some hok hr8 hrB oth_pres).trans ((oth_at (k := k_) (besR_pres hrB)).trans (by rw [sm_id hr8]))
          refine V_iload_n hX dX9_minute_243 3 rfl ?_
          refine V_iload hX dX9_minute_244 6 rfl ?_
          refine V_callS (As := [.int (nI (sm (fun h => h) (nodF E l_) 8)), .int (nI k_)]) (st := []) hX mX9_79 (k_has (by first | omega | exact shl8 (by omega) | (have := sm_lt8 (nodF E l_) (n := 8) (by decide); omega) | (have := (hok.2.2.2.2.2.2.2.1 k_ (by omega)).2.1; omega)) (by first | omega | exact shl8 (by omega) | (have := sm_lt8 (nodF E l_) (n := 8) (by decide); omega) | (have := (hok.2.2.2.2.2.2.2.1 k_ (by omega)).2.1; omega)) ?_) rfl (Nat.le_of_ble_eq_true rfl) (Nat.le_of_ble_eq_true rfl) dX9_minute_246
          show V G 11 X 249 [(0, .ref 69), (1, .int (nI m_)), (2, .int (nI sg_)), (3, .int (nI (sm (fun h => h) (nodF E l_) 8))), (4, .int (nI ag_)), (5, .int (nI (sm (fun h => h) (snoF E (nodF E l_)) k_))), (6, .int (nI k_)), (7, .int (-6)), (8, .int (nI r_))] [.int (bI ((sm (fun h => h) (nodF E l_) 8).testBit k_ = true))] μ1
          refine V_if_eqB (tgt := 384) hX dX9_minute_249 (by decide) (fun c249 => ?_) (fun c249 => ?_)
          · refine V_aload_n hX dX9_minute_384 0 rfl ?_
            refine V_getr (j := 82) hX fX9_56 rfl rfl dX9_minute_385 ?_
            refine V_bipush (v := nI 8) hX dX9_minute_388 (by decide) ?_
            refine V_iload_n hX dX9_minute_390 1 rfl ?_
            refine V_imulN hX dX9_minute_391 ?_
            refine V_iload hX dX9_minute_392 6 rfl ?_
            refine V_iaddN hX dX9_minute_394 ?_
            refine V_aload_n hX dX9_minute_395 0 rfl ?_
            refine V_getr (j := 78) hX fX9_44 rfl rfl dX9_minute_396 ?_
            refine V_iload hX dX9_minute_399 6 rfl ?_
            refine V_ialdN (x := nI (l_ k_)) hX rfl (by first | omega | exact shl8 (by omega) | (have := sm_lt8 (nodF E l_) (n := 8) (by decide); omega) | (have := (hok.2.2.2.2.2.2.2.1 k_ (by omega)).2.1; omega)) (by decide) ((hV.2.1 k_ (by omega)).trans (by rw [if_neg (by omega)])) dX9_minute_401 ?_
            refine V_iastN hX rfl (by first | omega | exact shl8 (by omega) | (have := sm_lt8 (nodF E l_) (n := 8) (by decide); omega) | (have := (hok.2.2.2.2.2.2.2.1 k_ (by omega)).2.1; omega)) (by decide) dX9_minute_402 ?_
            show V G 11 X 403 [(0, .ref 69), (1, .int (nI m_)), (2, .int (nI sg_)), (3, .int (nI (sm (fun h => h) (nodF E l_) 8))), (4, .int (nI ag_)), (5, .int (nI (sm (fun h => h) (snoF E (nodF E l_)) k_))), (6, .int (nI k_)), (7, .int (-6)), (8, .int (nI r_))] [] (vup μ1.1 82 ((8 * m_) + k_) (nI (l_ k_)), μ1.2)
            refine V_iincN (n := 1) (ls' := [(0, .ref 69), (1, .int (nI m_)), (2, .int (nI sg_)), (3, .int (nI (sm (fun h => h) (nodF E l_) 8))), (4, .int (nI ag_)), (5, .int (nI (sm (fun h => h) (snoF E (nodF E l_)) k_))), (6, .int (nI (k_ + 1))), (7, .int (-6)), (8, .int (nI r_))]) hX dX9_minute_403 6 rfl (by decide) rfl ?_
            refine V_goto (tgt := 218) hX dX9_minute_406 (by decide) ?_
            have hnn : ¬ nodF E l_ k_ = true := fun z => c249 (by rw [sm_id (by omega)]; exact z)
            have h9 := ih (k_ + 1) _ (by omega) (by omega) (hV.step0 (by omega) (fun z => hnn (by unfold elbF at z; rw [Bool.and_eq_true] at z; exact z.1)))
            rw [sm_n (s := fun h => h) (f := snoF E (nodF E l_)) (k := k_) (fun z => hnn (by unfold snoF at z; rw [Bool.and_eq_true, Bool.and_eq_true] at z; exact z.1.1))] at h9
            exact V_sub [0, 1, 2, 3, 4, 5, 6] rfl h9
          · suffices hJ252 : V G 11 X 285 [(0, .ref 69), (1, .int (nI m_)), (2, .int (nI sg_)), (3, .int (nI (sm (fun h => h) (nodF E l_) 8))), (4, .int (nI ag_)), (5, .int (nI (sm (fun h => h) (snoF E (nodF E l_)) k_))), (6, .int (nI k_)), (7, .int (-6)), (8, .int (nI r_))] [.int (bI (snoF E (nodF E l_) k_ = true))] μ1 by
              refine V_iload hX dX9_minute_252 7 rfl ?_
              refine V_if_lt (tgt := 284) hX dX9_minute_254 (by decide) (fun c254 => ?_) (fun c254 => ?_)
              · refine V_iconst (v := nI 0) hX dX9_minute_284 (by decide) ?_
                rw [show bI (snoF E (nodF E l_) k_ = true) = nI 0 from bI_f (by unfold snoF; simp [hlf, hrg])] at hJ252
                exact hJ252
              · exact absurd (by decide) c254
            refine V_istore (ls' := [(0, .ref 69), (1, .int (nI m_)), (2, .int (nI sg_)), (3, .int (nI (sm (fun h => h) (nodF E l_) 8))), (4, .int (nI ag_)), (5, .int (nI (sm (fun h => h) (snoF E (nodF E l_)) k_))), (6, .int (nI k_)), (7, .int (-6)), (8, .int (nI r_)), (9, .int (bI (snoF E (nodF E l_) k_ = true)))]) hX dX9_minute_285 (by decide) rfl ?_
            suffices hJ287 : V G 11 X 320 [(0, .ref 69), (1, .int (nI m_)), (2, .int (nI sg_)), (3, .int (nI (sm (fun h => h) (nodF E l_) 8))), (4, .int (nI ag_)), (5, .int (nI (sm (fun h => h) (snoF E (nodF E l_)) k_))), (6, .int (nI k_)), (7, .int (-6)), (8, .int (nI r_)), (9, .int (bI (snoF E (nodF E l_) k_ = true)))] [.int (bI (elbF E (nodF E l_) k_ = true))] μ1 by
              refine V_iload hX dX9_minute_287 7 rfl ?_
              refine V_if_lt (tgt := 301) hX dX9_minute_289 (by decide) (fun c289 => ?_) (fun c289 => ?_)
              · refine V_iload hX dX9_minute_301 8 rfl ?_
                refine V_if_ltN (tgt := 319) hX dX9_minute_303 (by decide) (by first | omega | exact shl8 (by omega) | (have := sm_lt8 (nodF E l_) (n := 8) (by decide); omega) | (have := (hok.2.2.2.2.2.2.2.1 k_ (by omega)).2.1; omega)) ?_
                refine V_iload_n hX dX9_minute_306 3 rfl ?_
                refine V_iload hX dX9_minute_307 8 rfl ?_
                refine V_callS (As := [.int (nI (sm (fun h => h) (nodF E l_) 8)), .int (nI r_)]) (st := []) hX mX9_79 (k_has (by first | omega | exact shl8 (by omega) | (have := sm_lt8 (nodF E l_) (n := 8) (by decide); omega) | (have := (hok.2.2.2.2.2.2.2.1 k_ (by omega)).2.1; omega)) (by first | omega | exact shl8 (by omega) | (have := sm_lt8 (nodF E l_) (n := 8) (by decide); omega) | (have := (hok.2.2.2.2.2.2.2.1 k_ (by omega)).2.1; omega)) ?_) rfl (Nat.le_of_ble_eq_true rfl) (Nat.le_of_ble_eq_true rfl) dX9_minute_309
                show V G 11 X 312 [(0, .ref 69), (1, .int (nI m_)), (2, .int (nI sg_)), (3, .int (nI (sm (fun h => h) (nodF E l_) 8))), (4, .int (nI ag_)), (5, .int (nI (sm (fun h => h) (snoF E (nodF E l_)) k_))), (6, .int (nI k_)), (7, .int (-6)), (8, .int (nI r_)), (9, .int (bI (snoF E (nodF E l_) k_ = true)))] [.int (bI ((sm (fun h => h) (nodF E l_) 8).testBit r_ = true))] μ1
                refine V_if_neB (tgt := 319) hX dX9_minute_312 (by decide) (fun c312 => ?_) (fun c312 => ?_)
                · refine V_iconst (v := nI 0) hX dX9_minute_319 (by decide) ?_
                  rw [show bI (elbF E (nodF E l_) k_ = true) = nI 0 from bI_f (by unfold elbF; simp [hlo, hro, c312])] at hJ287
                  exact hJ287
                · refine V_iconst (v := nI 1) hX dX9_minute_315 (by decide) ?_
                  refine V_goto (tgt := 320) hX dX9_minute_316 (by decide) ?_
                  rw [show bI (elbF E (nodF E l_) k_ = true) = nI 1 from bI_t (by unfold elbF; simp [hnk, hlo, hro, c249, c312])] at hJ287
                  exact hJ287
              · exact absurd (by decide) c289
            refine V_istore (ls' := [(0, .ref 69), (1, .int (nI m_)), (2, .int (nI sg_)), (3, .int (nI (sm (fun h => h) (nodF E l_) 8))), (4, .int (nI ag_)), (5, .int (nI (sm (fun h => h) (snoF E (nodF E l_)) k_))), (6, .int (nI k_)), (7, .int (-6)), (8, .int (nI r_)), (9, .int (bI (snoF E (nodF E l_) k_ = true))), (10, .int (bI (elbF E (nodF E l_) k_ = true)))]) hX dX9_minute_320 (by decide) rfl ?_
            refine V_iload hX dX9_minute_322 5 rfl ?_
            suffices hJ324 : V G 11 X 337 [(0, .ref 69), (1, .int (nI m_)), (2, .int (nI sg_)), (3, .int (nI (sm (fun h => h) (nodF E l_) 8))), (4, .int (nI ag_)), (5, .int (nI (sm (fun h => h) (snoF E (nodF E l_)) k_))), (6, .int (nI k_)), (7, .int (-6)), (8, .int (nI r_)), (9, .int (bI (snoF E (nodF E l_) k_ = true))), (10, .int (bI (elbF E (nodF E l_) k_ = true)))] [.int (nI (if snoF E (nodF E l_) k_ = true then 1 <<< k_ else 0)), .int (nI (sm (fun h => h) (snoF E (nodF E l_)) k_))] μ1 by
              refine V_iload hX dX9_minute_324 9 rfl ?_
              refine V_if_eqB (tgt := 336) hX dX9_minute_326 (by decide) (fun c326 => ?_) (fun c326 => ?_)
              · refine V_iconst (v := nI 0) hX dX9_minute_336 (by decide) ?_
                rw [show nI (if snoF E (nodF E l_) k_ = true then 1 <<< k_ else 0) = nI 0 from by rw [if_neg c326]] at hJ324
                exact hJ324
              · refine V_iconst (v := nI 1) hX dX9_minute_329 (by decide) ?_
                refine V_iload hX dX9_minute_330 6 rfl ?_
                refine V_ishlN hX dX9_minute_332 (by first | omega | exact shl8 (by omega) | (have := sm_lt8 (nodF E l_) (n := 8) (by decide); omega) | (have := (hok.2.2.2.2.2.2.2.1 k_ (by omega)).2.1; omega)) (by first | omega | exact shl8 (by omega) | (have := sm_lt8 (nodF E l_) (n := 8) (by decide); omega) | (have := (hok.2.2.2.2.2.2.2.1 k_ (by omega)).2.1; omega)) ?_
                refine V_goto (tgt := 337) hX dX9_minute_333 (by decide) ?_
                rw [show nI (if snoF E (nodF E l_) k_ = true then 1 <<< k_ else 0) = nI (1 <<< k_) from by rw [if_pos c326]] at hJ324
                exact hJ324
            refine V_iorN hX dX9_minute_337 ?_
            refine V_istore (ls' := [(0, .ref 69), (1, .int (nI m_)), (2, .int (nI sg_)), (3, .int (nI (sm (fun h => h) (nodF E l_) 8))), (4, .int (nI ag_)), (5, .int (nI ((sm (fun h => h) (snoF E (nodF E l_)) k_) ||| (if snoF E (nodF E l_) k_ = true then 1 <<< k_ else 0)))), (6, .int (nI k_)), (7, .int (-6)), (8, .int (nI r_)), (9, .int (bI (snoF E (nodF E l_) k_ = true))), (10, .int (bI (elbF E (nodF E l_) k_ = true)))]) hX dX9_minute_338 (by decide) rfl ?_
            refine V_ls (ls' := [(0, .ref 69), (1, .int (nI m_)), (2, .int (nI sg_)), (3, .int (nI (sm (fun h => h) (nodF E l_) 8))), (4, .int (nI ag_)), (5, .int (nI (sm (fun h => h) (snoF E (nodF E l_)) (k_ + 1)))), (6, .int (nI k_)), (7, .int (-6)), (8, .int (nI r_)), (9, .int (bI (snoF E (nodF E l_) k_ = true))), (10, .int (bI (elbF E (nodF E l_) k_ = true)))]) (by rw [sm_step (f := snoF E (nodF E l_))]) ?_
            refine V_aload_n hX dX9_minute_340 0 rfl ?_
            refine V_getr (j := 78) hX fX9_44 rfl rfl dX9_minute_341 ?_
            refine V_iload hX dX9_minute_344 6 rfl ?_
            suffices hJ346 : V G 11 X 383 [(0, .ref 69), (1, .int (nI m_)), (2, .int (nI sg_)), (3, .int (nI (sm (fun h => h) (nodF E l_) 8))), (4, .int (nI ag_)), (5, .int (nI (sm (fun h => h) (snoF E (nodF E l_)) (k_ + 1)))), (6, .int (nI k_)), (7, .int (-6)), (8, .int (nI r_)), (9, .int (bI (snoF E (nodF E l_) k_ = true))), (10, .int (bI (elbF E (nodF E l_) k_ = true)))] [.int (nI (lev2 E (nodF E l_) l_ k_)), .int (nI k_), .ref 78] μ1 by
              refine V_iload hX dX9_minute_346 10 rfl ?_
              refine V_if_neB (tgt := 361) hX dX9_minute_348 (by decide) (fun c348 => ?_) (fun c348 => ?_)
              · refine V_aload_n hX dX9_minute_361 0 rfl ?_
                refine V_getr (j := 71) hX fX9_17 rfl rfl dX9_minute_362 ?_
                refine V_iload hX dX9_minute_365 6 rfl ?_
                refine V_ialdN (x := nI (E 2 k_)) hX rfl (by first | omega | exact shl8 (by omega) | (have := sm_lt8 (nodF E l_) (n := 8) (by decide); omega) | (have := (hok.2.2.2.2.2.2.2.1 k_ (by omega)).2.1; omega)) (by decide) (hE.2.2.1 _ (by omega)) dX9_minute_367 ?_
                refine V_iconst (v := nI 2) hX dX9_minute_368 (by decide) ?_
                refine V_icmp_geN (tgt := 382) hX dX9_minute_369 (by decide) (by first | omega | exact shl8 (by omega) | (have := sm_lt8 (nodF E l_) (n := 8) (by decide); omega) | (have := (hok.2.2.2.2.2.2.2.1 k_ (by omega)).2.1; omega)) (by first | omega | exact shl8 (by omega) | (have := sm_lt8 (nodF E l_) (n := 8) (by decide); omega) | (have := (hok.2.2.2.2.2.2.2.1 k_ (by omega)).2.1; omega)) (fun c369 => ?_) (fun c369 => ?_)
                · refine V_iconst (v := nI 2) hX dX9_minute_382 (by decide) ?_
                  rw [show nI (lev2 E (nodF E l_) l_ k_) = nI 2 from by rw [show lev2 E (nodF E l_) l_ k_ = min 2 (E 2 k_) from if_pos c348, show min 2 (E 2 k_) = 2 by omega]] at hJ346
                  exact hJ346
                · refine V_aload_n hX dX9_minute_372 0 rfl ?_
                  refine V_getr (j := 71) hX fX9_17 rfl rfl dX9_minute_373 ?_
                  refine V_iload hX dX9_minute_376 6 rfl ?_
                  refine V_ialdN (x := nI (E 2 k_)) hX rfl (by first | omega | exact shl8 (by omega) | (have := sm_lt8 (nodF E l_) (n := 8) (by decide); omega) | (have := (hok.2.2.2.2.2.2.2.1 k_ (by omega)).2.1; omega)) (by decide) (hE.2.2.1 _ (by omega)) dX9_minute_378 ?_
                  refine V_goto (tgt := 383) hX dX9_minute_379 (by decide) ?_
                  rw [show nI (lev2 E (nodF E l_) l_ k_) = nI (E 2 k_) from by rw [show lev2 E (nodF E l_) l_ k_ = min 2 (E 2 k_) from if_pos c348, show min 2 (E 2 k_) = E 2 k_ by omega]] at hJ346
                  exact hJ346
              · refine V_aload_n hX dX9_minute_351 0 rfl ?_
                refine V_getr (j := 78) hX fX9_44 rfl rfl dX9_minute_352 ?_
                refine V_iload hX dX9_minute_355 6 rfl ?_
                refine V_ialdN (x := nI (l_ k_)) hX rfl (by first | omega | exact shl8 (by omega) | (have := sm_lt8 (nodF E l_) (n := 8) (by decide); omega) | (have := (hok.2.2.2.2.2.2.2.1 k_ (by omega)).2.1; omega)) (by decide) ((hV.2.1 k_ (by omega)).trans (by rw [if_neg (by omega)])) dX9_minute_357 ?_
                refine V_goto (tgt := 383) hX dX9_minute_358 (by decide) ?_
                rw [show nI (lev2 E (nodF E l_) l_ k_) = nI (l_ k_) from by rw [show lev2 E (nodF E l_) l_ k_ = l_ k_ from if_neg c348]] at hJ346
                exact hJ346
            refine V_iastN hX rfl (by first | omega | exact shl8 (by omega) | (have := sm_lt8 (nodF E l_) (n := 8) (by decide); omega) | (have := (hok.2.2.2.2.2.2.2.1 k_ (by omega)).2.1; omega)) (by decide) dX9_minute_383 ?_
            show V G 11 X 384 [(0, .ref 69), (1, .int (nI m_)), (2, .int (nI sg_)), (3, .int (nI (sm (fun h => h) (nodF E l_) 8))), (4, .int (nI ag_)), (5, .int (nI (sm (fun h => h) (snoF E (nodF E l_)) (k_ + 1)))), (6, .int (nI k_)), (7, .int (-6)), (8, .int (nI r_)), (9, .int (bI (snoF E (nodF E l_) k_ = true))), (10, .int (bI (elbF E (nodF E l_) k_ = true)))] [] (vup μ1.1 78 k_ (nI (lev2 E (nodF E l_) l_ k_)), μ1.2)
            refine V_aload_n hX dX9_minute_384 0 rfl ?_
            refine V_getr (j := 82) hX fX9_56 rfl rfl dX9_minute_385 ?_
            refine V_bipush (v := nI 8) hX dX9_minute_388 (by decide) ?_
            refine V_iload_n hX dX9_minute_390 1 rfl ?_
            refine V_imulN hX dX9_minute_391 ?_
            refine V_iload hX dX9_minute_392 6 rfl ?_
            refine V_iaddN hX dX9_minute_394 ?_
            refine V_aload_n hX dX9_minute_395 0 rfl ?_
            refine V_getr (j := 78) hX fX9_44 rfl rfl dX9_minute_396 ?_
            refine V_iload hX dX9_minute_399 6 rfl ?_
            refine V_ialdN (x := nI (lev2 E (nodF E l_) l_ k_)) hX rfl (by first | omega | exact shl8 (by omega) | (have := sm_lt8 (nodF E l_) (n := 8) (by decide); omega) | (have := (hok.2.2.2.2.2.2.2.1 k_ (by omega)).2.1; omega)) (by decide) (by dsimp only; exact vup_same _ _ _ _) dX9_minute_401 ?_
            refine V_iastN hX rfl (by first | omega | exact shl8 (by omega) | (have := sm_lt8 (nodF E l_) (n := 8) (by decide); omega) | (have := (hok.2.2.2.2.2.2.2.1 k_ (by omega)).2.1; omega)) (by decide) dX9_minute_402 ?_
            show V G 11 X 403 [(0, .ref 69), (1, .int (nI m_)), (2, .int (nI sg_)), (3, .int (nI (sm (fun h => h) (nodF E l_) 8))), (4, .int (nI ag_)), (5, .int (nI (sm (fun h => h) (snoF E (nodF E l_)) (k_ + 1)))), (6, .int (nI k_)), (7, .int (-6)), (8, .int (nI r_)), (9, .int (bI (snoF E (nodF E l_) k_ = true))), (10, .int (bI (elbF E (nodF E l_) k_ = true)))] [] (vup (vup μ1.1 78 k_ (nI (lev2 E (nodF E l_) l_ k_))) 82 ((8 * m_) + k_) (nI (lev2 E (nodF E l_) l_ k_)), μ1.2)
            refine V_iincN (n := 1) (ls' := [(0, .ref 69), (1, .int (nI m_)), (2, .int (nI sg_)), (3, .int (nI (sm (fun h => h) (nodF E l_) 8))), (4, .int (nI ag_)), (5, .int (nI (sm (fun h => h) (snoF E (nodF E l_)) (k_ + 1)))), (6, .int (nI (k_ + 1))), (7, .int (-6)), (8, .int (nI r_)), (9, .int (bI (snoF E (nodF E l_) k_ = true))), (10, .int (bI (elbF E (nodF E l_) k_ = true)))]) hX dX9_minute_403 6 rfl (by decide) rfl ?_
            refine V_goto (tgt := 218) hX dX9_minute_406 (by decide) ?_
            exact V_sub [0, 1, 2, 3, 4, 5, 6] rfl (ih (k_ + 1) _ (by omega) (by omega) (hV.step1 (by omega) rfl))
      · rcases bsK_cases (besR E k_) 8 with ⟨eR, nR⟩ | ⟨r_, hr8, hrB, eR⟩
        · rw [eL, eR]
          have hnk : nodF E l_ k_ = (sm (fun h => h) (nodF E l_) 8).testBit k_ := (sm_id (by omega)).symm
          have hlf : lftB E (nodF E l_) k_ = (sm (fun h => h) (nodF E l_) 8).testBit q_ := (lft_some hok hq8 hqB (fun _ _ => nod_pres)).trans (sm_id hq8).symm
          have hrg : rgtB E (nodF E l_) k_ = false := rgt_none nR (fun _ _ => nod_pres)
          have hlo : lftB E (othF E (nodF E l_)) k_ = !(sm (fun h => h) (nodF E l_) 8).testBit q_ := (lft_some hok hq8 hqB oth_pres).trans ((oth_at (k := k_) (besL_pres hqB)).trans (by rw [sm_id hq8]))
          have hro : rgtB E (othF E (nodF E l_)) k_ = false := rgt_none nR oth_pres
          refine V_iload_n hX dX9_minute_243 3 rfl ?_
          refine V_iload hX dX9_minute_244 6 rfl ?_
          refine V_callS (As := [.int (nI (sm (fun h => h) (nodF E l_) 8)), .int (nI k_)]) (st := []) hX mX9_79 (k_has (by first | omega | exact shl8 (by omega) | (have := sm_lt8 (nodF E l_) (n := 8) (by decide); omega) | (have := (hok.2.2.2.2.2.2.2.1 k_ (by omega)).2.1; omega)) (by first | omega | exact shl8 (by omega) | (have := sm_lt8 (nodF E l_) (n := 8) (by decide); omega) | (have := (hok.2.2.2.2.2.2.2.1 k_ (by omega)).2.1; omega)) ?_) rfl (Nat.le_of_ble_eq_true rfl) (Nat.le_of_ble_eq_true rfl) dX9_minute_246
          show V G 11 X 249 [(0, .ref 69), (1, .int (nI m_)), (2, .int (nI sg_)), (3, .int (nI (sm (fun h => h) (nodF E l_) 8))), (4, .int (nI ag_)), (5, .int (nI (sm (fun h => h) (snoF E (nodF E l_)) k_))), (6, .int (nI k_)), (7, .int (nI q_)), (8, .int (-6))] [.int (bI ((sm (fun h => h) (nodF E l_) 8).testBit k_ = true))] μ1
          refine V_if_eqB (tgt := 384) hX dX9_minute_249 (by decide) (fun c249 => ?_) (fun c249 => ?_)
          · refine V_aload_n hX dX9_minute_384 0 rfl ?_
            refine V_getr (j := 82) hX fX9_56 rfl rfl dX9_minute_385 ?_
            refine V_bipush (v := nI 8) hX dX9_minute_388 (by decide) ?_
            refine V_iload_n hX dX9_minute_390 1 rfl ?_
            refine V_imulN hX dX9_minute_391 ?_
            refine V_iload hX dX9_minute_392 6 rfl ?_
            refine V_iaddN hX dX9_minute_394 ?_
            refine V_aload_n hX dX9_minute_395 0 rfl ?_
            refine V_getr (j := 78) hX fX9_44 rfl rfl dX9_minute_396 ?_
            refine V_iload hX dX9_minute_399 6 rfl ?_
            refine V_ialdN (x := nI (l_ k_)) hX rfl (by first | omega | exact shl8 (by omega) | (have := sm_lt8 (nodF E l_) (n := 8) (by decide); omega) | (have := (hok.2.2.2.2.2.2.2.1 k_ (by omega)).2.1; omega)) (by decide) ((hV.2.1 k_ (by omega)).trans (by rw [if_neg (by omega)])) dX9_minute_401 ?_
            refine V_iastN hX rfl (by first | omega | exact shl8 (by omega) | (have := sm_lt8 (nodF E l_) (n := 8) (by decide); omega) | (have := (hok.2.2.2.2.2.2.2.1 k_ (by omega)).2.1; omega)) (by decide) dX9_minute_402 ?_
            show V G 11 X 403 [(0, .ref 69), (1, .int (nI m_)), (2, .int (nI sg_)), (3, .int (nI (sm (fun h => h) (nodF E l_) 8))), (4, .int (nI ag_)), (5, .int (nI (sm (fun h => h) (snoF E (nodF E l_)) k_))), (6, .int (nI k_)), (7, .int (nI q_)), (8, .int (-6))] [] (vup μ1.1 82 ((8 * m_) + k_) (nI (l_ k_)), μ1.2)
            refine V_iincN (n := 1) (ls' := [(0, .ref 69), (1, .int (nI m_)), (2, .int (nI sg_)), (3, .int (nI (sm (fun h => h) (nodF E l_) 8))), (4, .int (nI ag_)), (5, .int (nI (sm (fun h => h) (snoF E (nodF E l_)) k_))), (6, .int (nI (k_ + 1))), (7, .int (nI q_)), (8, .int (-6))]) hX dX9_minute_403 6 rfl (by decide) rfl ?_
            refine V_goto (tgt := 218) hX dX9_minute_406 (by decide) ?_
            have hnn : ¬ nodF E l_ k_ = true := fun z => c249 (by rw [sm_id (by omega)]; exact z)
            have h9 := ih (k_ + 1) _ (by omega) (by omega) (hV.step0 (by omega) (fun z => hnn (by unfold elbF at z; rw [Bool.and_eq_true] at z; exact z.1)))
            rw [sm_n (s := fun h => h) (f := snoF E (nodF E l_)) (k := k_) (fun z => hnn (by unfold snoF at z; rw [Bool.and_eq_true, Bool.and_eq_true] at z; exact z.1.1))] at h9
            exact V_sub [0, 1, 2, 3, 4, 5, 6] rfl h9
          · suffices hJ252 : V G 11 X 285 [(0, .ref 69), (1, .int (nI m_)), (2, .int (nI sg_)), (3, .int (nI (sm (fun h => h) (nodF E l_) 8))), (4, .int (nI ag_)), (5, .int (nI (sm (fun h => h) (snoF E (nodF E l_)) k_))), (6, .int (nI k_)), (7, .int (nI q_)), (8, .int (-6))] [.int (bI (snoF E (nodF E l_) k_ = true))] μ1 by
              refine V_iload hX dX9_minute_252 7 rfl ?_
              refine V_if_ltN (tgt := 284) hX dX9_minute_254 (by decide) (by first | omega | exact shl8 (by omega) | (have := sm_lt8 (nodF E l_) (n := 8) (by decide); omega) | (have := (hok.2.2.2.2.2.2.2.1 k_ (by omega)).2.1; omega)) ?_
              refine V_iload hX dX9_minute_257 8 rfl ?_
              refine V_if_lt (tgt := 284) hX dX9_minute_259 (by decide) (fun c259 => ?_) (fun c259 => ?_)
              · refine V_iconst (v := nI 0) hX dX9_minute_284 (by decide) ?_
                rw [show bI (snoF E (nodF E l_) k_ = true) = nI 0 from bI_f (by unfold snoF; simp [hlf, hrg])] at hJ252
                exact hJ252
              · exact absurd (by decide) c259
            refine V_istore (ls' := [(0, .ref 69), (1, .int (nI m_)), (2, .int (nI sg_)), (3, .int (nI (sm (fun h => h) (nodF E l_) 8))), (4, .int (nI ag_)), (5, .int (nI (sm (fun h => h) (snoF E (nodF E l_)) k_))), (6, .int (nI k_)), (7, .int (nI q_)), (8, .int (-6)), (9, .int (bI (snoF E (nodF E l_) k_ = true)))]) hX dX9_minute_285 (by decide) rfl ?_
            suffices hJ287 : V G 11 X 320 [(0, .ref 69), (1, .int (nI m_)), (2, .int (nI sg_)), (3, .int (nI (sm (fun h => h) (nodF E l_) 8))), (4, .int (nI ag_)), (5, .int (nI (sm (fun h => h) (snoF E (nodF E l_)) k_))), (6, .int (nI k_)), (7, .int (nI q_)), (8, .int (-6)), (9, .int (bI (snoF E (nodF E l_) k_ = true)))] [.int (bI (elbF E (nodF E l_) k_ = true))] μ1 by
              refine V_iload hX dX9_minute_287 7 rfl ?_
              refine V_if_ltN (tgt := 301) hX dX9_minute_289 (by decide) (by first | omega | exact shl8 (by omega) | (have := sm_lt8 (nodF E l_) (n := 8) (by decide); omega) | (have := (hok.2.2.2.2.2.2.2.1 k_ (by omega)).2.1; omega)) ?_
              refine V_iload_n hX dX9_minute_292 3 rfl ?_
              refine V_iload hX dX9_minute_293 7 rfl ?_
              refine V_callS (As := [.int (nI (sm (fun h => h) (nodF E l_) 8)), .int (nI q_)]) (st := []) hX mX9_79 (k_has (by first | omega | exact shl8 (by omega) | (have := sm_lt8 (nodF E l_) (n := 8) (by decide); omega) | (have := (hok.2.2.2.2.2.2.2.1 k_ (by omega)).2.1; omega)) (by first | omega | exact shl8 (by omega) | (have := sm_lt8 (nodF E l_) (n := 8) (by decide); omega) | (have := (hok.2.2.2.2.2.2.2.1 k_ (by omega)).2.1; omega)) ?_) rfl (Nat.le_of_ble_eq_true rfl) (Nat.le_of_ble_eq_true rfl) dX9_minute_295
              show V G 11 X 298 [(0, .ref 69), (1, .int (nI m_)), (2, .int (nI sg_)), (3, .int (nI (sm (fun h => h) (nodF E l_) 8))), (4, .int (nI ag_)), (5, .int (nI (sm (fun h => h) (snoF E (nodF E l_)) k_))), (6, .int (nI k_)), (7, .int (nI q_)), (8, .int (-6)), (9, .int (bI (snoF E (nodF E l_) k_ = true)))] [.int (bI ((sm (fun h => h) (nodF E l_) 8).testBit q_ = true))] μ1
              refine V_if_eqB (tgt := 315) hX dX9_minute_298 (by decide) (fun c298 => ?_) (fun c298 => ?_)
              · refine V_iconst (v := nI 1) hX dX9_minute_315 (by decide) ?_
                refine V_goto (tgt := 320) hX dX9_minute_316 (by decide) ?_
                rw [show bI (elbF E (nodF E l_) k_ = true) = nI 1 from bI_t (by unfold elbF; simp [hnk, hlo, hro, c249, c298])] at hJ287
                exact hJ287
              · refine V_iload hX dX9_minute_301 8 rfl ?_
                refine V_if_lt (tgt := 319) hX dX9_minute_303 (by decide) (fun c303 => ?_) (fun c303 => ?_)
                · refine V_iconst (v := nI 0) hX dX9_minute_319 (by decide) ?_
                  rw [show bI (elbF E (nodF E l_) k_ = true) = nI 0 from bI_f (by unfold elbF; simp [hlo, hro, c298])] at hJ287
                  exact hJ287
                · exact absurd (by decide) c303
            refine V_istore (ls' := [(0, .ref 69), (1, .int (nI m_)), (2, .int (nI sg_)), (3, .int (nI (sm (fun h => h) (nodF E l_) 8))), (4, .int (nI ag_)), (5, .int (nI (sm (fun h => h) (snoF E (nodF E l_)) k_))), (6, .int (nI k_)), (7, .int (nI q_)), (8, .int (-6)), (9, .int (bI (snoF E (nodF E l_) k_ = true))), (10, .int (bI (elbF E (nodF E l_) k_ = true)))]) hX dX9_minute_320 (by decide) rfl ?_
            refine V_iload hX dX9_minute_322 5 rfl ?_
            suffices hJ324 : V G 11 X 337 [(0, .ref 69), (1, .int (nI m_)), (2, .int (nI sg_)), (3, .int (nI (sm (fun h => h) (nodF E l_) 8))), (4, .int (nI ag_)), (5, .int (nI (sm (fun h => h) (snoF E (nodF E l_)) k_))), (6, .int (nI k_)), (7, .int (nI q_)), (8, .int (-6)), (9, .int (bI (snoF E (nodF E l_) k_ = true))), (10, .int (bI (elbF E (nodF E l_) k_ = true)))] [.int (nI (if snoF E (nodF E l_) k_ = true then 1 <<< k_ else 0)), .int (nI (sm (fun h => h) (snoF E (nodF E l_)) k_))] μ1 by
              refine V_iload hX dX9_minute_324 9 rfl ?_
              refine V_if_eqB (tgt := 336) hX dX9_minute_326 (by decide) (fun c326 => ?_) (fun c326 => ?_)
              · refine V_iconst (v := nI 0) hX dX9_minute_336 (by decide) ?_
                rw [show nI (if snoF E (nodF E l_) k_ = true then 1 <<< k_ else 0) = nI 0 from by rw [if_neg c326]] at hJ324
                exact hJ324
              · refine V_iconst (v := nI 1) hX dX9_minute_329 (by decide) ?_
                refine V_iload hX dX9_minute_330 6 rfl ?_
                refine V_ishlN hX dX9_minute_332 (by first | omega | exact shl8 (by omega) | (have := sm_lt8 (nodF E l_) (n := 8) (by decide); omega) | (have := (hok.2.2.2.2.2.2.2.1 k_ (by omega)).2.1; omega)) (by first | omega | exact shl8 (by omega) | (have := sm_lt8 (nodF E l_) (n := 8) (by decide); omega) | (have := (hok.2.2.2.2.2.2.2.1 k_ (by omega)).2.1; omega)) ?_
                refine V_goto (tgt := 337) hX dX9_minute_333 (by decide) ?_
                rw [show nI (if snoF E (nodF E l_) k_ = true then 1 <<< k_ else 0) = nI (1 <<< k_) from by rw [if_pos c326]] at hJ324
                exact hJ324
            refine V_iorN hX dX9_minute_337 ?_
            refine V_istore (ls' := [(0, .ref 69), (1, .int (nI m_)), (2, .int (nI sg_)), (3, .int (nI (sm (fun h => h) (nodF E l_) 8))), (4, .int (nI ag_)), (5, .int (nI ((sm (fun h => h) (snoF E (nodF E l_)) k_) ||| (if snoF E (nodF E l_) k_ = true then 1 <<< k_ else 0)))), (6, .int (nI k_)), (7, .int (nI q_)), (8, .int (-6)), (9, .int (bI (snoF E (nodF E l_) k_ = true))), (10, .int (bI (elbF E (nodF E l_) k_ = true)))]) hX dX9_minute_338 (by decide) rfl ?_
            refine V_ls (ls' := [(0, .ref 69), (1, .int (nI m_)), (2, .int (nI sg_)), (3, .int (nI (sm (fun h => h) (nodF E l_) 8))), (4, .int (nI ag_)), (5, .int (nI (sm (fun h => h) (snoF E (nodF E l_)) (k_ + 1)))), (6, .int (nI k_)), (7, .int (nI q_)), (8, .int (-6)), (9, .int (bI (snoF E (nodF E l_) k_ = true))), (10, .int (bI (elbF E (nodF E l_) k_ = true)))]) (by rw [sm_step (f := snoF E (nodF E l_))]) ?_
            refine V_aload_n hX dX9_minute_340 0 rfl ?_
            refine V_getr (j := 78) hX fX9_44 rfl rfl dX9_minute_341 ?_
            refine V_iload hX dX9_minute_344 6 rfl ?_
            suffices hJ346 : V G 11 X 383 [(0, .ref 69), (1, .int (nI m_)), (2, .int (nI sg_)), (3, .int (nI (sm (fun h => h) (nodF E l_) 8))), (4, .int (nI ag_)), (5, .int (nI (sm (fun h => h) (snoF E (nodF E l_)) (k_ + 1)))), (6, .int (nI k_)), (7, .int (nI q_)), (8, .int (-6)), (9, .int (bI (snoF E (nodF E l_) k_ = true))), (10, .int (bI (elbF E (nodF E l_) k_ = true)))] [.int (nI (lev2 E (nodF E l_) l_ k_)), .int (nI k_), .ref 78] μ1 by
              refine V_iload hX dX9_minute_346 10 rfl ?_
              refine V_if_neB (tgt := 361) hX dX9_minute_348 (by decide) (fun c348 => ?_) (fun c348 => ?_)
              · refine V_aload_n hX dX9_minute_361 0 rfl ?_
                refine V_getr (j := 71) hX fX9_17 rfl rfl dX9_minute_362 ?_
                refine V_iload hX dX9_minute_365 6 rfl ?_
                refine V_ialdN (x := nI (E 2 k_)) hX rfl (by first | omega | exact shl8 (by omega) | (have := sm_lt8 (nodF E l_) (n := 8) (by decide); omega) | (have := (hok.2.2.2.2.2.2.2.1 k_ (by omega)).2.1; omega)) (by decide) (hE.2.2.1 _ (by omega)) dX9_minute_367 ?_
                refine V_iconst (v := nI 2) hX dX9_minute_368 (by decide) ?_
                refine V_icmp_geN (tgt := 382) hX dX9_minute_369 (by decide) (by first | omega | exact shl8 (by omega) | (have := sm_lt8 (nodF E l_) (n := 8) (by decide); omega) | (have := (hok.2.2.2.2.2.2.2.1 k_ (by omega)).2.1; omega)) (by first | omega | exact shl8 (by omega) | (have := sm_lt8 (nodF E l_) (n := 8) (by decide); omega) | (have := (hok.2.2.2.2.2.2.2.1 k_ (by omega)).2.1; omega)) (fun c369 => ?_) (fun c369 => ?_)
                · refine V_iconst (v := nI 2) hX dX9_minute_382 (by decide) ?_
                  rw [show nI (lev2 E (nodF E l_) l_ k_) = nI 2 from by rw [show lev2 E (nodF E l_) l_ k_ = min 2 (E 2 k_) from if_pos c348, show min 2 (E 2 k_) = 2 by omega]] at hJ346
                  exact hJ346
                · refine V_aload_n hX dX9_minute_372 0 rfl ?_
                  refine V_getr (j := 71) hX fX9_17 rfl rfl dX9_minute_373 ?_
                  refine V_iload hX dX9_minute_376 6 rfl ?_
                  refine V_ialdN (x := nI (E 2 k_)) hX rfl (by first | omega | exact shl8 (by omega) | (have := sm_lt8 (nodF E l_) (n := 8) (by decide); omega) | (have := (hok.2.2.2.2.2.2.2.1 k_ (by omega)).2.1; omega)) (by decide) (hE.2.2.1 _ (by omega)) dX9_minute_378 ?_
                  refine V_goto (tgt := 383) hX dX9_minute_379 (by decide) ?_
                  rw [show nI (lev2 E (nodF E l_) l_ k_) = nI (E 2 k_) from by rw [show lev2 E (nodF E l_) l_ k_ = min 2 (E 2 k_) from if_pos c348, show min 2 (E 2 k_) = E 2 k_ by omega]] at hJ346
                  exact hJ346
              · refine V_aload_n hX dX9_minute_351 0 rfl ?_
                refine V_getr (j := 78) hX fX9_44 rfl rfl dX9_minute_352 ?_
                refine V_iload hX dX9_minute_355 6 rfl ?_
                refine V_ialdN (x := nI (l_ k_)) hX rfl (by first | omega | exact shl8 (by omega) | (have := sm_lt8 (nodF E l_) (n := 8) (by decide); omega) | (have := (hok.2.2.2.2.2.2.2.1 k_ (by omega)).2.1; omega)) (by decide) ((hV.2.1 k_ (by omega)).trans (by rw [if_neg (by omega)])) dX9_minute_357 ?_
                refine V_goto (tgt := 383) hX dX9_minute_358 (by decide) ?_
                rw [show nI (lev2 E (nodF E l_) l_ k_) = nI (l_ k_) from by rw [show lev2 E (nodF E l_) l_ k_ = l_ k_ from if_neg c348]] at hJ346
                exact hJ346
            refine V_iastN hX rfl (by first | omega | exact shl8 (by omega) | (have := sm_lt8 (nodF E l_) (n := 8) (by decide); omega) | (have := (hok.2.2.2.2.2.2.2.1 k_ (by omega)).2.1; omega)) (by decide) dX9_minute_383 ?_
            show V G 11 X 384 [(0, .ref 69), (1, .int (nI m_)), (2, .int (nI sg_)), (3, .int (nI (sm (fun h => h) (nodF E l_) 8))), (4, .int (nI ag_)), (5, .int (nI (sm (fun h => h) (snoF E (nodF E l_)) (k_ + 1)))), (6, .int (nI k_)), (7, .int (nI q_)), (8, .int (-6)), (9, .int (bI (snoF E (nodF E l_) k_ = true))), (10, .int (bI (elbF E (nodF E l_) k_ = true)))] [] (vup μ1.1 78 k_ (nI (lev2 E (nodF E l_) l_ k_)), μ1.2)
            refine V_aload_n hX dX9_minute_384 0 rfl ?_
            refine V_getr (j := 82) hX fX9_56 rfl rfl dX9_minute_385 ?_
            refine V_bipush (v := nI 8) hX dX9_minute_388 (by decide) ?_
            refine V_iload_n hX dX9_minute_390 1 rfl ?_
            refine V_imulN hX dX9_minute_391 ?_
            refine V_iload hX dX9_minute_392 6 rfl ?_
            refine V_iaddN hX dX9_minute_394 ?_
            refine V_aload_n hX dX9_minute_395 0 rfl ?_
            refine V_getr (j := 78) hX fX9_44 rfl rfl dX9_minute_396 ?_
            refine V_iload hX dX9_minute_399 6 rfl ?_
            refine V_ialdN (x := nI (lev2 E (nodF E l_) l_ k_)) hX rfl (by first | omega | exact shl8 (by omega) | (have := sm_lt8 (nodF E l_) (n := 8) (by decide); omega) | (have := (hok.2.2.2.2.2.2.2.1 k_ (by omega)).2.1; omega)) (by decide) (by dsimp only; exact vup_same _ _ _ _) dX9_minute_401 ?_
            refine V_iastN hX rfl (by first | omega | exact shl8 (by omega) | (have := sm_lt8 (nodF E l_) (n := 8) (by decide); omega) | (have := (hok.2.2.2.2.2.2.2.1 k_ (by omega)).2.1; omega)) (by decide) dX9_minute_402 ?_
            show V G 11 X 403 [(0, .ref 69), (1, .int (nI m_)), (2, .int (nI sg_)), (3, .int (nI (sm (fun h => h) (nodF E l_) 8))), (4, .int (nI ag_)), (5, .int (nI (sm (fun h => h) (snoF E (nodF E l_)) (k_ + 1)))), (6, .int (nI k_)), (7, .int (nI q_)), (8, .int (-6)), (9, .int (bI (snoF E (nodF E l_) k_ = true))), (10, .int (bI (elbF E (nodF E l_) k_ = true)))] [] (vup (vup μ1.1 78 k_ (nI (lev2 E (nodF E l_) l_ k_))) 82 ((8 * m_) + k_) (nI (lev2 E (nodF E l_) l_ k_)), μ1.2)
            refine V_iincN (n := 1) (ls' := [(0, .ref 69), (1, .int (nI m_)), (2, .int (nI sg_)), (3, .int (nI (sm (fun h => h) (nodF E l_) 8))), (4, .int (nI ag_)), (5, .int (nI (sm (fun h => h) (snoF E (nodF E l_)) (k_ + 1)))), (6, .int (nI (k_ + 1))), (7, .int (nI q_)), (8, .int (-6)), (9, .int (bI (snoF E (nodF E l_) k_ = true))), (10, .int (bI (elbF E (nodF E l_) k_ = true)))]) hX dX9_minute_403 6 rfl (by decide) rfl ?_
            refine V_goto (tgt := 218) hX dX9_minute_406 (by decide) ?_
            exact V_sub [0, 1, 2, 3, 4, 5, 6] rfl (ih (k_ + 1) _ (by omega) (by omega) (hV.step1 (by omega) rfl))
        · rw [eL, eR]
          have hnk : nodF E l_ k_ = (sm (fun h => h) (nodF E l_) 8).testBit k_ := (sm_id (by omega)).symm
          have hlf : lftB E (nodF E l_) k_ = (sm (fun h => h) (nodF E l_) 8).testBit q_ := (lft_some hok hq8 hqB (fun _ _ => nod_pres)).trans (sm_id hq8).symm
          have hrg : rgtB E (nodF E l_) k_ = (sm (fun h => h) (nodF E l_) 8).testBit r_ := (rgt_some hok hr8 hrB (fun _ _ => nod_pres)).trans (sm_id hr8).symm
          have hlo : lftB E (othF E (nodF E l_)) k_ = !(sm (fun h => h) (nodF E l_) 8).testBit q_ := (lft_some hok hq8 hqB oth_pres).trans ((oth_at (k := k_) (besL_pres hqB)).trans (by rw [sm_id hq8]))
          have hro : rgtB E (othF E (nodF E l_)) k_ = !(sm (fun h => h) (nodF E l_) 8).testBit r_ := (rgt_some hok hr8 hrB oth_pres).trans ((oth_at (k := k_) (besR_pres hrB)).trans (by rw [sm_id hr8]))
          refine V_iload_n hX dX9_minute_243 3 rfl ?_
          refine V_iload hX dX9_minute_244 6 rfl ?_
          refine V_callS (As := [.int (nI (sm (fun h => h) (nodF E l_) 8)), .int (nI k_)]) (st := []) hX mX9_79 (k_has (by first | omega | exact shl8 (by omega) | (have := sm_lt8 (nodF E l_) (n := 8) (by decide); omega) | (have := (hok.2.2.2.2.2.2.2.1 k_ (by omega)).2.1; omega)) (by first | omega | exact shl8 (by omega) | (have := sm_lt8 (nodF E l_) (n := 8) (by decide); omega) | (have := (hok.2.2.2.2.2.2.2.1 k_ (by omega)).2.1; omega)) ?_) rfl (Nat.le_of_ble_eq_true rfl) (Nat.le_of_ble_eq_true rfl) dX9_minute_246
          show V G 11 X 249 [(0, .ref 69), (1, .int (nI m_)), (2, .int (nI sg_)), (3, .int (nI (sm (fun h => h) (nodF E l_) 8))), (4, .int (nI ag_)), (5, .int (nI (sm (fun h => h) (snoF E (nodF E l_)) k_))), (6, .int (nI k_)), (7, .int (nI q_)), (8, .int (nI r_))] [.int (bI ((sm (fun h => h) (nodF E l_) 8).testBit k_ = true))] μ1
          refine V_if_eqB (tgt := 384) hX dX9_minute_249 (by decide) (fun c249 => ?_) (fun c249 => ?_)
          · refine V_aload_n hX dX9_minute_384 0 rfl ?_
            refine V_getr (j := 82) hX fX9_56 rfl rfl dX9_minute_385 ?_
            refine V_bipush (v := nI 8) hX dX9_minute_388 (by decide) ?_
            refine V_iload_n hX dX9_minute_390 1 rfl ?_
            refine V_imulN hX dX9_minute_391 ?_
            refine V_iload hX dX9_minute_392 6 rfl ?_
            refine V_iaddN hX dX9_minute_394 ?_
            refine V_aload_n hX dX9_minute_395 0 rfl ?_
            refine V_getr (j := 78) hX fX9_44 rfl rfl dX9_minute_396 ?_
            refine V_iload hX dX9_minute_399 6 rfl ?_
            refine V_ialdN (x := nI (l_ k_)) hX rfl (by first | omega | exact shl8 (by omega) | (have := sm_lt8 (nodF E l_) (n := 8) (by decide); omega) | (have := (hok.2.2.2.2.2.2.2.1 k_ (by omega)).2.1; omega)) (by decide) ((hV.2.1 k_ (by omega)).trans (by rw [if_neg (by omega)])) dX9_minute_401 ?_
            refine V_iastN hX rfl (by first | omega | exact shl8 (by omega) | (have := sm_lt8 (nodF E l_) (n := 8) (by decide); omega) | (have := (hok.2.2.2.2.2.2.2.1 k_ (by omega)).2.1; omega)) (by decide) dX9_minute_402 ?_
            show V G 11 X 403 [(0, .ref 69), (1, .int (nI m_)), (2, .int (nI sg_)), (3, .int (nI (sm (fun h => h) (nodF E l_) 8))), (4, .int (nI ag_)), (5, .int (nI (sm (fun h => h) (snoF E (nodF E l_)) k_))), (6, .int (nI k_)), (7, .int (nI q_)), (8, .int (nI r_))] [] (vup μ1.1 82 ((8 * m_) + k_) (nI (l_ k_)), μ1.2)
            refine V_iincN (n := 1) (ls' := [(0, .ref 69), (1, .int (nI m_)), (2, .int (nI sg_)), (3, .int (nI (sm (fun h => h) (nodF E l_) 8))), (4, .int (nI ag_)), (5, .int (nI (sm (fun h => h) (snoF E (nodF E l_)) k_))), (6, .int (nI (k_ + 1))), (7, .int (nI q_)), (8, .int (nI r_))]) hX dX9_minute_403 6 rfl (by decide) rfl ?_
            refine V_goto (tgt := 218) hX dX9_minute_406 (by decide) ?_
            have hnn : ¬ nodF E l_ k_ = true := fun z => c249 (by rw [sm_id (by omega)]; exact z)
            have h9 := ih (k_ + 1) _ (by omega) (by omega) (hV.step0 (by omega) (fun z => hnn (by unfold elbF at z; rw [Bool.and_eq_true] at z; exact z.1)))
            rw [sm_n (s := fun h => h) (f := snoF E (nodF E l_)) (k := k_) (fun z => hnn (by unfold snoF at z; rw [Bool.and_eq_true, Bool.and_eq_true] at z; exact z.1.1))] at h9
            exact V_sub [0, 1, 2, 3, 4, 5, 6] rfl h9
          · suffices hJ252 : V G 11 X 285 [(0, .ref 69), (1, .int (nI m_)), (2, .int (nI sg_)), (3, .int (nI (sm (fun h => h) (nodF E l_) 8))), (4, .int (nI ag_)), (5, .int (nI (sm (fun h => h) (snoF E (nodF E l_)) k_))), (6, .int (nI k_)), (7, .int (nI q_)), (8, .int (nI r_))] [.int (bI (snoF E (nodF E l_) k_ = true))] μ1 by
              refine V_iload hX dX9_minute_252 7 rfl ?_
              refine V_if_ltN (tgt := 284) hX dX9_minute_254 (by decide) (by first | omega | exact shl8 (by omega) | (have := sm_lt8 (nodF E l_) (n := 8) (by decide); omega) | (have := (hok.2.2.2.2.2.2.2.1 k_ (by omega)).2.1; omega)) ?_
              refine V_iload hX dX9_minute_257 8 rfl ?_
              refine V_if_ltN (tgt := 284) hX dX9_minute_259 (by decide) (by first | omega | exact shl8 (by omega) | (have := sm_lt8 (nodF E l_) (n := 8) (by decide); omega) | (have := (hok.2.2.2.2.2.2.2.1 k_ (by omega)).2.1; omega)) ?_
              refine V_iload_n hX dX9_minute_262 3 rfl ?_
              refine V_iload hX dX9_minute_263 7 rfl ?_
              refine V_callS (As := [.int (nI (sm (fun h => h) (nodF E l_) 8)), .int (nI q_)]) (st := []) hX mX9_79 (k_has (by first | omega | exact shl8 (by omega) | (have := sm_lt8 (nodF E l_) (n := 8) (by decide); omega) | (have := (hok.2.2.2.2.2.2.2.1 k_ (by omega)).2.1; omega)) (by first | omega | exact shl8 (by omega) | (have := sm_lt8 (nodF E l_) (n := 8) (by decide); omega) | (have := (hok.2.2.2.2.2.2.2.1 k_ (by omega)).2.1; omega)) ?_) rfl (Nat.le_of_ble_eq_true rfl) (Nat.le_of_ble_eq_true rfl) dX9_minute_265
              show V G 11 X 268 [(0, .ref 69), (1, .int (nI m_)), (2, .int (nI sg_)), (3, .int (nI (sm (fun h => h) (nodF E l_) 8))), (4, .int (nI ag_)), (5, .int (nI (sm (fun h => h) (snoF E (nodF E l_)) k_))), (6, .int (nI k_)), (7, .int (nI q_)), (8, .int (nI r_))] [.int (bI ((sm (fun h => h) (nodF E l_) 8).testBit q_ = true))] μ1
              refine V_if_eqB (tgt := 284) hX dX9_minute_268 (by decide) (fun c268 => ?_) (fun c268 => ?_)
              · refine V_iconst (v := nI 0) hX dX9_minute_284 (by decide) ?_
                rw [show bI (snoF E (nodF E l_) k_ = true) = nI 0 from bI_f (by unfold snoF; simp [hlf, hrg, c268])] at hJ252
                exact hJ252
              · refine V_iload_n hX dX9_minute_271 3 rfl ?_
                refine V_iload hX dX9_minute_272 8 rfl ?_
                refine V_callS (As := [.int (nI (sm (fun h => h) (nodF E l_) 8)), .int (nI r_)]) (st := []) hX mX9_79 (k_has (by first | omega | exact shl8 (by omega) | (have := sm_lt8 (nodF E l_) (n := 8) (by decide); omega) | (have := (hok.2.2.2.2.2.2.2.1 k_ (by omega)).2.1; omega)) (by first | omega | exact shl8 (by omega) | (have := sm_lt8 (nodF E l_) (n := 8) (by decide); omega) | (have := (hok.2.2.2.2.2.2.2.1 k_ (by omega)).2.1; omega)) ?_) rfl (Nat.le_of_ble_eq_true rfl) (Nat.le_of_ble_eq_true rfl) dX9_minute_274
                show V G 11 X 277 [(0, .ref 69), (1, .int (nI m_)), (2, .int (nI sg_)), (3, .int (nI (sm (fun h => h) (nodF E l_) 8))), (4, .int (nI ag_)), (5, .int (nI (sm (fun h => h) (snoF E (nodF E l_)) k_))), (6, .int (nI k_)), (7, .int (nI q_)), (8, .int (nI r_))] [.int (bI ((sm (fun h => h) (nodF E l_) 8).testBit r_ = true))] μ1
                refine V_if_eqB (tgt := 284) hX dX9_minute_277 (by decide) (fun c277 => ?_) (fun c277 => ?_)
                · refine V_iconst (v := nI 0) hX dX9_minute_284 (by decide) ?_
                  rw [show bI (snoF E (nodF E l_) k_ = true) = nI 0 from bI_f (by unfold snoF; simp [hlf, hrg, c268, c277])] at hJ252
                  exact hJ252
                · refine V_iconst (v := nI 1) hX dX9_minute_280 (by decide) ?_
                  refine V_goto (tgt := 285) hX dX9_minute_281 (by decide) ?_
                  rw [show bI (snoF E (nodF E l_) k_ = true) = nI 1 from bI_t (by unfold snoF; simp [hnk, hlf, hrg, c249, c268, c277])] at hJ252
                  exact hJ252
            refine V_istore (ls' := [(0, .ref 69), (1, .int (nI m_)), (2, .int (nI sg_)), (3, .int (nI (sm (fun h => h) (nodF E l_) 8))), (4, .int (nI ag_)), (5, .int (nI (sm (fun h => h) (snoF E (nodF E l_)) k_))), (6, .int (nI k_)), (7, .int (nI q_)), (8, .int (nI r_)), (9, .int (bI (snoF E (nodF E l_) k_ = true)))]) hX dX9_minute_285 (by decide) rfl ?_
            suffices hJ287 : V G 11 X 320 [(0, .ref 69), (1, .int (nI m_)), (2, .int (nI sg_)), (3, .int (nI (sm (fun h => h) (nodF E l_) 8))), (4, .int (nI ag_)), (5, .int (nI (sm (fun h => h) (snoF E (nodF E l_)) k_))), (6, .int (nI k_)), (7, .int (nI q_)), (8, .int (nI r_)), (9, .int (bI (snoF E (nodF E l_) k_ = true)))] [.int (bI (elbF E (nodF E l_) k_ = true))] μ1 by
              refine V_iload hX dX9_minute_287 7 rfl ?_
              refine V_if_ltN (tgt := 301) hX dX9_minute_289 (by decide) (by first | omega | exact shl8 (by omega) | (have := sm_lt8 (nodF E l_) (n := 8) (by decide); omega) | (have := (hok.2.2.2.2.2.2.2.1 k_ (by omega)).2.1; omega)) ?_
              refine V_iload_n hX dX9_minute_292 3 rfl ?_
              refine V_iload hX dX9_minute_293 7 rfl ?_
              refine V_callS (As := [.int (nI (sm (fun h => h) (nodF E l_) 8)), .int (nI q_)]) (st := []) hX mX9_79 (k_has (by first | omega | exact shl8 (by omega) | (have := sm_lt8 (nodF E l_) (n := 8) (by decide); omega) | (have := (hok.2.2.2.2.2.2.2.1 k_ (by omega)).2.1; omega)) (by first | omega | exact shl8 (by omega) | (have := sm_lt8 (nodF E l_) (n := 8) (by decide); omega) | (have := (hok.2.2.2.2.2.2.2.1 k_ (by omega)).2.1; omega)) ?_) rfl (Nat.le_of_ble_eq_true rfl) (Nat.le_of_ble_eq_true rfl) dX9_minute_295
              show V G 11 X 298 [(0, .ref 69), (1, .int (nI m_)), (2, .int (nI sg_)), (3, .int (nI (sm (fun h => h) (nodF E l_) 8))), (4, .int (nI ag_)), (5, .int (nI (sm (fun h => h) (snoF E (nodF E l_)) k_))), (6, .int (nI k_)), (7, .int (nI q_)), (8, .int (nI r_)), (9, .int (bI (snoF E (nodF E l_) k_ = true)))] [.int (bI ((sm (fun h => h) (nodF E l_) 8).testBit q_ = true))] μ1
              refine V_if_eqB (tgt := 315) hX dX9_minute_298 (by decide) (fun c298 => ?_) (fun c298 => ?_)
              · refine V_iconst (v := nI 1) hX dX9_minute_315 (by decide) ?_
                refine V_goto (tgt := 320) hX dX9_minute_316 (by decide) ?_
                rw [show bI (elbF E (nodF E l_) k_ = true) = nI 1 from bI_t (by unfold elbF; simp [hnk, hlo, hro, c249, c298])] at hJ287
                exact hJ287
              · refine V_iload hX dX9_minute_301 8 rfl ?_
                refine V_if_ltN (tgt := 319) hX dX9_minute_303 (by decide) (by first | omega | exact shl8 (by omega) | (have := sm_lt8 (nodF E l_) (n := 8) (by decide); omega) | (have := (hok.2.2.2.2.2.2.2.1 k_ (by omega)).2.1; omega)) ?_
                refine V_iload_n hX dX9_minute_306 3 rfl ?_
                refine V_iload hX dX9_minute_307 8 rfl ?_
                refine V_callS (As := [.int (nI (sm (fun h => h) (nodF E l_) 8)), .int (nI r_)]) (st := []) hX mX9_79 (k_has (by first | omega | exact shl8 (by omega) | (have := sm_lt8 (nodF E l_) (n := 8) (by decide); omega) | (have := (hok.2.2.2.2.2.2.2.1 k_ (by omega)).2.1; omega)) (by first | omega | exact shl8 (by omega) | (have := sm_lt8 (nodF E l_) (n := 8) (by decide); omega) | (have := (hok.2.2.2.2.2.2.2.1 k_ (by omega)).2.1; omega)) ?_) rfl (Nat.le_of_ble_eq_true rfl) (Nat.le_of_ble_eq_true rfl) dX9_minute_309
                show V G 11 X 312 [(0, .ref 69), (1, .int (nI m_)), (2, .int (nI sg_)), (3, .int (nI (sm (fun h => h) (nodF E l_) 8))), (4, .int (nI ag_)), (5, .int (nI (sm (fun h => h) (snoF E (nodF E l_)) k_))), (6, .int (nI k_)), (7, .int (nI q_)), (8, .int (nI r_)), (9, .int (bI (snoF E (nodF E l_) k_ = true)))] [.int (bI ((sm (fun h => h) (nodF E l_) 8).testBit r_ = true))] μ1
                refine V_if_neB (tgt := 319) hX dX9_minute_312 (by decide) (fun c312 => ?_) (fun c312 => ?_)
                · refine V_iconst (v := nI 0) hX dX9_minute_319 (by decide) ?_
                  rw [show bI (elbF E (nodF E l_) k_ = true) = nI 0 from bI_f (by unfold elbF; simp [hlo, hro, c298, c312])] at hJ287
                  exact hJ287
                · refine V_iconst (v := nI 1) hX dX9_minute_315 (by decide) ?_
                  refine V_goto (tgt := 320) hX dX9_minute_316 (by decide) ?_
                  rw [show bI (elbF E (nodF E l_) k_ = true) = nI 1 from bI_t (by unfold elbF; simp [hnk, hlo, hro, c249, c298, c312])] at hJ287
                  exact hJ287
            refine V_istore (ls' := [(0, .ref 69), (1, .int (nI m_)), (2, .int (nI sg_)), (3, .int (nI (sm (fun h => h) (nodF E l_) 8))), (4, .int (nI ag_)), (5, .int (nI (sm (fun h => h) (snoF E (nodF E l_)) k_))), (6, .int (nI k_)), (7, .int (nI q_)), (8, .int (nI r_)), (9, .int (bI (snoF E (nodF E l_) k_ = true))), (10, .int (bI (elbF E (nodF E l_) k_ = true)))]) hX dX9_minute_320 (by decide) rfl ?_
            refine V_iload hX dX9_minute_322 5 rfl ?_
            suffices hJ324 : V G 11 X 337 [(0, .ref 69), (1, .int (nI m_)), (2, .int (nI sg_)), (3, .int (nI (sm (fun h => h) (nodF E l_) 8))), (4, .int (nI ag_)), (5, .int (nI (sm (fun h => h) (snoF E (nodF E l_)) k_))), (6, .int (nI k_)), (7, .int (nI q_)), (8, .int (nI r_)), (9, .int (bI (snoF E (nodF E l_) k_ = true))), (10, .int (bI (elbF E (nodF E l_) k_ = true)))] [.int (nI (if snoF E (nodF E l_) k_ = true then 1 <<< k_ else 0)), .int (nI (sm (fun h => h) (snoF E (nodF E l_)) k_))] μ1 by
              refine V_iload hX dX9_minute_324 9 rfl ?_
              refine V_if_eqB (tgt := 336) hX dX9_minute_326 (by decide) (fun c326 => ?_) (fun c326 => ?_)
              · refine V_iconst (v := nI 0) hX dX9_minute_336 (by decide) ?_
                rw [show nI (if snoF E (nodF E l_) k_ = true then 1 <<< k_ else 0) = nI 0 from by rw [if_neg c326]] at hJ324
                exact hJ324
              · refine V_iconst (v := nI 1) hX dX9_minute_329 (by decide) ?_
                refine V_iload hX dX9_minute_330 6 rfl ?_
                refine V_ishlN hX dX9_minute_332 (by first | omega | exact shl8 (by omega) | (have := sm_lt8 (nodF E l_) (n := 8) (by decide); omega) | (have := (hok.2.2.2.2.2.2.2.1 k_ (by omega)).2.1; omega)) (by first | omega | exact shl8 (by omega) | (have := sm_lt8 (nodF E l_) (n := 8) (by decide); omega) | (have := (hok.2.2.2.2.2.2.2.1 k_ (by omega)).2.1; omega)) ?_
                refine V_goto (tgt := 337) hX dX9_minute_333 (by decide) ?_
                rw [show nI (if snoF E (nodF E l_) k_ = true then 1 <<< k_ else 0) = nI (1 <<< k_) from by rw [if_pos c326]] at hJ324
                exact hJ324
            refine V_iorN hX dX9_minute_337 ?_
            refine V_istore (ls' := [(0, .ref 69), (1, .int (nI m_)), (2, .int (nI sg_)), (3, .int (nI (sm (fun h => h) (nodF E l_) 8))), (4, .int (nI ag_)), (5, .int (nI ((sm (fun h => h) (snoF E (nodF E l_)) k_) ||| (if snoF E (nodF E l_) k_ = true then 1 <<< k_ else 0)))), (6, .int (nI k_)), (7, .int (nI q_)), (8, .int (nI r_)), (9, .int (bI (snoF E (nodF E l_) k_ = true))), (10, .int (bI (elbF E (nodF E l_) k_ = true)))]) hX dX9_minute_338 (by decide) rfl ?_
            refine V_ls (ls' := [(0, .ref 69), (1, .int (nI m_)), (2, .int (nI sg_)), (3, .int (nI (sm (fun h => h) (nodF E l_) 8))), (4, .int (nI ag_)), (5, .int (nI (sm (fun h => h) (snoF E (nodF E l_)) (k_ + 1)))), (6, .int (nI k_)), (7, .int (nI q_)), (8, .int (nI r_)), (9, .int (bI (snoF E (nodF E l_) k_ = true))), (10, .int (bI (elbF E (nodF E l_) k_ = true)))]) (by rw [sm_step (f := snoF E (nodF E l_))]) ?_
            refine V_aload_n hX dX9_minute_340 0 rfl ?_
            refine V_getr (j := 78) hX fX9_44 rfl rfl dX9_minute_341 ?_
            refine V_iload hX dX9_minute_344 6 rfl ?_
            suffices hJ346 : V G 11 X 383 [(0, .ref 69), (1, .int (nI m_)), (2, .int (nI sg_)), (3, .int (nI (sm (fun h => h) (nodF E l_) 8))), (4, .int (nI ag_)), (5, .int (nI (sm (fun h => h) (snoF E (nodF E l_)) (k_ + 1)))), (6, .int (nI k_)), (7, .int (nI q_)), (8, .int (nI r_)), (9, .int (bI (snoF E (nodF E l_) k_ = true))), (10, .int (bI (elbF E (nodF E l_) k_ = true)))] [.int (nI (lev2 E (nodF E l_) l_ k_)), .int (nI k_), .ref 78] μ1 by
              refine V_iload hX dX9_minute_346 10 rfl ?_
              refine V_if_neB (tgt := 361) hX dX9_minute_348 (by decide) (fun c348 => ?_) (fun c348 => ?_)
              · refine V_aload_n hX dX9_minute_361 0 rfl ?_
                refine V_getr (j := 71) hX fX9_17 rfl rfl dX9_minute_362 ?_
                refine V_iload hX dX9_minute_365 6 rfl ?_
                refine V_ialdN (x := nI (E 2 k_)) hX rfl (by first | omega | exact shl8 (by omega) | (have := sm_lt8 (nodF E l_) (n := 8) (by decide); omega) | (have := (hok.2.2.2.2.2.2.2.1 k_ (by omega)).2.1; omega)) (by decide) (hE.2.2.1 _ (by omega)) dX9_minute_367 ?_
                refine V_iconst (v := nI 2) hX dX9_minute_368 (by decide) ?_
                refine V_icmp_geN (tgt := 382) hX dX9_minute_369 (by decide) (by first | omega | exact shl8 (by omega) | (have := sm_lt8 (nodF E l_) (n := 8) (by decide); omega) | (have := (hok.2.2.2.2.2.2.2.1 k_ (by omega)).2.1; omega)) (by first | omega | exact shl8 (by omega) | (have := sm_lt8 (nodF E l_) (n := 8) (by decide); omega) | (have := (hok.2.2.2.2.2.2.2.1 k_ (by omega)).2.1; omega)) (fun c369 => ?_) (fun c369 => ?_)
                · refine V_iconst (v := nI 2) hX dX9_minute_382 (by decide) ?_
                  rw [show nI (lev2 E (nodF E l_) l_ k_) = nI 2 from by rw [show lev2 E (nodF E l_) l_ k_ = min 2 (E 2 k_) from if_pos c348, show min 2 (E 2 k_) = 2 by omega]] at hJ346
                  exact hJ346
                · refine V_aload_n hX dX9_minute_372 0 rfl ?_
                  refine V_getr (j := 71) hX fX9_17 rfl rfl dX9_minute_373 ?_
                  refine V_iload hX dX9_minute_376 6 rfl ?_
                  refine V_ialdN (x := nI (E 2 k_)) hX rfl (by first | omega | exact shl8 (by omega) | (have := sm_lt8 (nodF E l_) (n := 8) (by decide); omega) | (have := (hok.2.2.2.2.2.2.2.1 k_ (by omega)).2.1; omega)) (by decide) (hE.2.2.1 _ (by omega)) dX9_minute_378 ?_
                  refine V_goto (tgt := 383) hX dX9_minute_379 (by decide) ?_
                  rw [show nI (lev2 E (nodF E l_) l_ k_) = nI (E 2 k_) from by rw [show lev2 E (nodF E l_) l_ k_ = min 2 (E 2 k_) from if_pos c348, show min 2 (E 2 k_) = E 2 k_ by omega]] at hJ346
                  exact hJ346
              · refine V_aload_n hX dX9_minute_351 0 rfl ?_
                refine V_getr (j := 78) hX fX9_44 rfl rfl dX9_minute_352 ?_
                refine V_iload hX dX9_minute_355 6 rfl ?_
                refine V_ialdN (x := nI (l_ k_)) hX rfl (by first | omega | exact shl8 (by omega) | (have := sm_lt8 (nodF E l_) (n := 8) (by decide); omega) | (have := (hok.2.2.2.2.2.2.2.1 k_ (by omega)).2.1; omega)) (by decide) ((hV.2.1 k_ (by omega)).trans (by rw [if_neg (by omega)])) dX9_minute_357 ?_
                refine V_goto (tgt := 383) hX dX9_minute_358 (by decide) ?_
                rw [show nI (lev2 E (nodF E l_) l_ k_) = nI (l_ k_) from by rw [show lev2 E (nodF E l_) l_ k_ = l_ k_ from if_neg c348]] at hJ346
                exact hJ346
            refine V_iastN hX rfl (by first | omega | exact shl8 (by omega) | (have := sm_lt8 (nodF E l_) (n := 8) (by decide); omega) | (have := (hok.2.2.2.2.2.2.2.1 k_ (by omega)).2.1; omega)) (by decide) dX9_minute_383 ?_
            show V G 11 X 384 [(0, .ref 69), (1, .int (nI m_)), (2, .int (nI sg_)), (3, .int (nI (sm (fun h => h) (nodF E l_) 8))), (4, .int (nI ag_)), (5, .int (nI (sm (fun h => h) (snoF E (nodF E l_)) (k_ + 1)))), (6, .int (nI k_)), (7, .int (nI q_)), (8, .int (nI r_)), (9, .int (bI (snoF E (nodF E l_) k_ = true))), (10, .int (bI (elbF E (nodF E l_) k_ = true)))] [] (vup μ1.1 78 k_ (nI (lev2 E (nodF E l_) l_ k_)), μ1.2)
            refine V_aload_n hX dX9_minute_384 0 rfl ?_
            refine V_getr (j := 82) hX fX9_56 rfl rfl dX9_minute_385 ?_
            refine V_bipush (v := nI 8) hX dX9_minute_388 (by decide) ?_
            refine V_iload_n hX dX9_minute_390 1 rfl ?_
            refine V_imulN hX dX9_minute_391 ?_
            refine V_iload hX dX9_minute_392 6 rfl ?_
            refine V_iaddN hX dX9_minute_394 ?_
            refine V_aload_n hX dX9_minute_395 0 rfl ?_
            refine V_getr (j := 78) hX fX9_44 rfl rfl dX9_minute_396 ?_
            refine V_iload hX dX9_minute_399 6 rfl ?_
            refine V_ialdN (x := nI (lev2 E (nodF E l_) l_ k_)) hX rfl (by first | omega | exact shl8 (by omega) | (have := sm_lt8 (nodF E l_) (n := 8) (by decide); omega) | (have := (hok.2.2.2.2.2.2.2.1 k_ (by omega)).2.1; omega)) (by decide) (by dsimp only; exact vup_same _ _ _ _) dX9_minute_401 ?_
            refine V_iastN hX rfl (by first | omega | exact shl8 (by omega) | (have := sm_lt8 (nodF E l_) (n := 8) (by decide); omega) | (have := (hok.2.2.2.2.2.2.2.1 k_ (by omega)).2.1; omega)) (by decide) dX9_minute_402 ?_
            show V G 11 X 403 [(0, .ref 69), (1, .int (nI m_)), (2, .int (nI sg_)), (3, .int (nI (sm (fun h => h) (nodF E l_) 8))), (4, .int (nI ag_)), (5, .int (nI (sm (fun h => h) (snoF E (nodF E l_)) (k_ + 1)))), (6, .int (nI k_)), (7, .int (nI q_)), (8, .int (nI r_)), (9, .int (bI (snoF E (nodF E l_) k_ = true))), (10, .int (bI (elbF E (nodF E l_) k_ = true)))] [] (vup (vup μ1.1 78 k_ (nI (lev2 E (nodF E l_) l_ k_))) 82 ((8 * m_) + k_) (nI (lev2 E (nodF E l_) l_ k_)), μ1.2)
            refine V_iincN (n := 1) (ls' := [(0, .ref 69), (1, .int (nI m_)), (2, .int (nI sg_)), (3, .int (nI (sm (fun h => h) (nodF E l_) 8))), (4, .int (nI ag_)), (5, .int (nI (sm (fun h => h) (snoF E (nodF E l_)) (k_ + 1)))), (6, .int (nI (k_ + 1))), (7, .int (nI q_)), (8, .int (nI r_)), (9, .int (bI (snoF E (nodF E l_) k_ = true))), (10, .int (bI (elbF E (nodF E l_) k_ = true)))]) hX dX9_minute_403 6 rfl (by decide) rfl ?_
            refine V_goto (tgt := 218) hX dX9_minute_406 (by decide) ?_
            exact V_sub [0, 1, 2, 3, 4, 5, 6] rfl (ih (k_ + 1) _ (by omega) (by omega) (hV.step1 (by omega) rfl))
