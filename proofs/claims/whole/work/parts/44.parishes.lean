def crB (P : PC) (a : Nat → Nat) (c g : Nat) : Bool := pPres P g && decide (a g = c)
def crN (P : PC) (a : Nat → Nat) (c : Nat) : Nat := cnt (crB P a c) 8
def otB (P : PC) (a : Nat → Nat) (h c g : Nat) : Bool := pPres P g && !decide (g = h) && decide (a g = c)
def otN (P : PC) (a : Nat → Nat) (h c : Nat) : Nat := cnt (otB P a h c) 8
def mnN (P : PC) (h c : Nat) : Nat := if P 4 h = 0 then c else 2 - c
def lkZ (P : PC) (a : Nat → Nat) (h c : Nat) : Int := 2 * (mnN P h c : Int) - otN P a h c
def fk (l : Nat → Int) (x : Nat) : Nat → Nat
  | 0 => x
  | k + 1 => if l (fk l x k) < l k then k else fk l x k
theorem fk3 {l : Nat → Int} {x : Nat} (hx : x < 3) : fk l x 3 = if l x < l (fk l 0 3) then fk l 0 3 else x := by
  by_cases h01 : l 0 < l 1 <;> by_cases h02 : l 0 < l 2 <;> by_cases h12 : l 1 < l 2 <;> by_cases h10 : l 1 < l 0 <;> by_cases h20 : l 2 < l 0 <;> by_cases h21 : l 2 < l 1 <;> first | (exfalso; omega) | (rcases (by omega : x = 0 ∨ x = 1 ∨ x = 2) with e | e | e <;> subst e <;> simp [fk, h01, h02, h12, h10, h20, h21])
theorem fk_lt {l : Nat → Int} {x : Nat} (hx : x < 3) : ∀ k, k ≤ 3 → fk l x k < 3
  | 0, _ => hx
  | k + 1, hk => by
    have := fk_lt (l := l) hx k (by omega)
    unfold fk
    split <;> omega
def swp (P : PC) (a : Nat → Nat) : Nat → Nat → Nat
  | 0 => a
  | h + 1 => if pPres P h = true then upN (swp P a h) h (fk (lkZ P (swp P a h) h) (swp P a h h) 3) else swp P a h
def mvd (P : PC) (a : Nat → Nat) : Nat → Bool
  | 0 => false
  | h + 1 => mvd P a h || (pPres P h && !decide (fk (lkZ P (swp P a h) h) (swp P a h h) 3 = swp P a h h))
def paR (P : PC) : Nat → Nat → (Nat → Nat) → Int32 × (Nat → Nat)
  | 0, _, a => (-6, a)
  | j + 1, r, a => if mvd P a 8 = true then paR P j (r + 1) (swp P a 8) else (nI (r + 1), swp P a 8)
def parS (P : PC) (c : Int32) : Int32 := if -1 ≤ c ∧ c ≤ nI 2 then (if c = -1 then (paR P 99 0 (fun _ => 0)).1 else nI (crN P (paR P 99 0 (fun _ => 0)).2 c.toNatClampNeg)) else -2
theorem cr_ot {P : PC} {a : Nat → Nat} {h c : Nat} (hh : h < 8) (hp : pPres P h = true) : crN P a c = otN P a h c + (if a h = c then 1 else 0) := by
  unfold crN otN
  by_cases e : a h = c
  · rw [if_pos e]
    refine cnt_one (b := h) hh ?_ ?_ (fun i hi => ?_)
    · unfold otB; simp
    · unfold crB; rw [hp, decide_eq_true e]; rfl
    · unfold crB otB; rw [decide_eq_false hi]; simp
  · rw [if_neg e, Nat.add_zero]
    refine cnt_congr (fun i _ => ?_)
    unfold crB otB
    by_cases z : i = h
    · rw [z, decide_eq_false e]; simp
    · rw [decide_eq_false z]; simp
theorem ot_up {P : PC} {a : Nat → Nat} {h c v : Nat} : otN P (upN a h v) h c = otN P a h c := cnt_congr (fun i _ => by
  unfold otB upN
  by_cases z : i = h
  · rw [decide_eq_true z]; simp
  · rw [if_neg z])
theorem cr_up {P : PC} {a : Nat → Nat} {h c v : Nat} (hh : h < 8) (hp : pPres P h = true) : crN P (upN a h v) c + (if a h = c then 1 else 0) = crN P a c + (if v = c then 1 else 0) := by
  rw [cr_ot (a := a) hh hp, cr_ot (a := upN a h v) hh hp, ot_up, show upN a h v h = v from if_pos rfl]
  omega
theorem cr_le (P : PC) (a : Nat → Nat) (c : Nat) : crN P a c ≤ 8 := cnt_le _ 8
theorem ot_le (P : PC) (a : Nat → Nat) (h c : Nat) : otN P a h c ≤ 8 := cnt_le _ 8
theorem lk_bd (P : PC) (a : Nat → Nat) (h : Nat) {c : Nat} (hc : c < 3) : -10 ≤ lkZ P a h c ∧ lkZ P a h c ≤ 10 := by
  have := ot_le P a h c
  unfold lkZ mnN
  split <;> omega
theorem lk_lt {P : PC} {a : Nat → Nat} {h c q : Nat} (hc : c < 3) (hq : q < 3) : zI (lkZ P a h c) < zI (lkZ P a h q) ↔ lkZ P a h c < lkZ P a h q := by
  have h1 := lk_bd P a h hc
  have h2 := lk_bd P a h hq
  exact zI_lt (by omega) (by omega)
theorem swp_lt {P : PC} {a : Nat → Nat} (ha : ∀ g, a g < 3) : ∀ h g, swp P a h g < 3
  | 0, g => ha g
  | h + 1, g => by
    have ih := swp_lt (P := P) ha h
    unfold swp
    split
    · unfold upN
      split
      · exact fk_lt (ih h) 3 (by decide)
      · exact ih g
    · exact ih g
theorem upN_id {a : Nat → Nat} {h : Nat} : upN a h (a h) = a := by
  funext i
  unfold upN
  by_cases e : i = h
  · rw [if_pos e, e]
  · rw [if_neg e]
theorem swp_n {P : PC} {a : Nat → Nat} {h : Nat} (hp : ¬ pPres P h = true) : swp P a (h + 1) = swp P a h := if_neg hp
theorem swp_y {P : PC} {a : Nat → Nat} {h : Nat} (hp : pPres P h = true) : swp P a (h + 1) = upN (swp P a h) h (fk (lkZ P (swp P a h) h) (swp P a h h) 3) := if_pos hp
theorem mvd_n {P : PC} {a : Nat → Nat} {h : Nat} (hp : ¬ pPres P h = true) : mvd P a (h + 1) = mvd P a h := by
  show (mvd P a h || (pPres P h && _)) = _
  rw [Bool.eq_false_iff.mpr hp, Bool.false_and, Bool.or_false]
theorem mvd_y {P : PC} {a : Nat → Nat} {h : Nat} (hp : pPres P h = true) (e : ¬ fk (lkZ P (swp P a h) h) (swp P a h h) 3 = swp P a h h) : mvd P a (h + 1) = true := by
  show (mvd P a h || (pPres P h && _)) = _
  rw [hp, decide_eq_false e]; simp
theorem mvd_s {P : PC} {a : Nat → Nat} {h : Nat} (e : fk (lkZ P (swp P a h) h) (swp P a h h) 3 = swp P a h h) : mvd P a (h + 1) = mvd P a h := by
  show (mvd P a h || (pPres P h && _)) = _
  rw [decide_eq_true e]; simp
theorem mvd_m {P : PC} {a : Nat → Nat} {h : Nat} (e : mvd P a h = true) : mvd P a (h + 1) = true := by
  show (mvd P a h || _) = _
  rw [e]; rfl
theorem swp_s {P : PC} {a : Nat → Nat} {h : Nat} (e : fk (lkZ P (swp P a h) h) (swp P a h h) 3 = swp P a h h) : swp P a (h + 1) = swp P a h := by
  by_cases hp : pPres P h = true
  · rw [swp_y hp, e, upN_id]
  · exact swp_n hp
/-- the class's three churches -/
def isRv (μ : VS) (P : PC) (a : Nat → Nat) : Prop := (∀ g, g < 8 → μ.1 67 g = nI (a g)) ∧ ∀ c, c < 3 → μ.1 66 c = nI (crN P a c)
set_option maxRecDepth 100000 in
set_option maxHeartbeats 4000000 in
theorem k_liking {G : VG} {d : Nat} {μ : VS} {Q : Option Value → VS → Prop} {P : PC} {h_ c_ : Nat} {a_ : Nat → Nat} (hv : isRv μ P a_) (hok : okP P) (hal : ∀ g, a_ g < 3) (hh : h_ < 8) (hc : c_ < 3) (hp : pPres P h_ = true) (hQ : Q (some (.int (zI (lkZ P a_ h_ c_)))) μ) : Call G d yX5_liking cX5_liking 6 (some .int) [.ref 65, .int (nI h_), .int (nI (P 4 h_)), .int (nI c_)] μ Q := by
  intro X hX hR
  show V G 6 X 0 [(0, .ref 65), (1, .int (nI h_)), (2, .int (nI (P 4 h_))), (3, .int (nI c_))] [] μ
  refine V_iload_n hX dX5_liking_0 2 rfl ?_
  refine V_if_neN (tgt := 8) hX dX5_liking_1 (by decide) (by first | omega | (have := (hok.2.2.2.2.2.2.2.1 h_ hh).2.2.2; omega) | (have := hal h_; omega)) (fun c1 => ?_) (fun c1 => ?_)
  · refine V_iconst (v := nI 2) hX dX5_liking_8 (by decide) ?_
    refine V_iload_n hX dX5_liking_9 3 rfl ?_
    refine V_isubN hX dX5_liking_10 (by omega) ?_
    refine V_istore (ls' := [(0, .ref 65), (1, .int (nI h_)), (2, .int (nI (P 4 h_))), (3, .int (nI c_)), (4, .int (nI (2 - c_)))]) hX dX5_liking_11 (by decide) rfl ?_
    refine V_aload_n hX dX5_liking_13 0 rfl ?_
    refine V_getr (j := 67) hX fX5_19 rfl rfl dX5_liking_14 ?_
    refine V_iload_n hX dX5_liking_17 1 rfl ?_
    refine V_ialdN (x := nI (a_ h_)) hX rfl (by first | omega | (have := (hok.2.2.2.2.2.2.2.1 h_ hh).2.2.2; omega) | (have := hal h_; omega)) (by decide) (hv.1 _ (by omega)) dX5_liking_18 ?_
    refine V_iload_n hX dX5_liking_19 3 rfl ?_
    refine V_icmp_neN (tgt := 34) hX dX5_liking_20 (by decide) (by first | omega | (have := (hok.2.2.2.2.2.2.2.1 h_ hh).2.2.2; omega) | (have := hal h_; omega)) (by first | omega | (have := (hok.2.2.2.2.2.2.2.1 h_ hh).2.2.2; omega) | (have := hal h_; omega)) (fun c20 => ?_) (fun c20 => ?_)
    · refine V_aload_n hX dX5_liking_34 0 rfl ?_
      refine V_getr (j := 66) hX fX5_9 rfl rfl dX5_liking_35 ?_
      refine V_iload_n hX dX5_liking_38 3 rfl ?_
      refine V_ialdN (x := nI (crN P a_ c_)) hX rfl (by first | omega | (have := (hok.2.2.2.2.2.2.2.1 h_ hh).2.2.2; omega) | (have := hal h_; omega)) (by decide) (hv.2 _ (by omega)) dX5_liking_39 ?_
      refine V_istore (ls' := [(0, .ref 65), (1, .int (nI h_)), (2, .int (nI (P 4 h_))), (3, .int (nI c_)), (4, .int (nI (2 - c_))), (5, .int (nI (crN P a_ c_)))]) hX dX5_liking_40 (by decide) rfl ?_
      refine V_iconst (v := nI 2) hX dX5_liking_42 (by decide) ?_
      refine V_iload hX dX5_liking_43 4 rfl ?_
      refine V_imulN hX dX5_liking_45 ?_
      refine V_iload hX dX5_liking_46 5 rfl ?_
      refine V_isub hX dX5_liking_48 ?_
      refine V_iret hX rfl dX5_liking_49 ?_
      have hcr := cr_ot (P := P) (a := a_) (c := c_) hh hp
      rw [if_neg c20] at hcr
      have hm : mnN P h_ c_ = _ := (if_neg c1)
      exact hR _ _ (by rw [show (nI (2 * (2 - c_))) - (nI (crN P a_ c_)) = zI (lkZ P a_ h_ c_) from by unfold lkZ; rw [hm]; simp only [zI_nat, zI_sub]; congr 1; omega]; exact hQ)
    · refine V_aload_n hX dX5_liking_23 0 rfl ?_
      refine V_getr (j := 66) hX fX5_9 rfl rfl dX5_liking_24 ?_
      refine V_iload_n hX dX5_liking_27 3 rfl ?_
      refine V_ialdN (x := nI (crN P a_ c_)) hX rfl (by first | omega | (have := (hok.2.2.2.2.2.2.2.1 h_ hh).2.2.2; omega) | (have := hal h_; omega)) (by decide) (hv.2 _ (by omega)) dX5_liking_28 ?_
      refine V_iconst (v := nI 1) hX dX5_liking_29 (by decide) ?_
      refine V_isub hX dX5_liking_30 ?_
      refine V_goto (tgt := 40) hX dX5_liking_31 (by decide) ?_
      refine V_istore (ls' := [(0, .ref 65), (1, .int (nI h_)), (2, .int (nI (P 4 h_))), (3, .int (nI c_)), (4, .int (nI (2 - c_))), (5, .int ((nI (crN P a_ c_)) - (nI 1)))]) hX dX5_liking_40 (by decide) rfl ?_
      refine V_iconst (v := nI 2) hX dX5_liking_42 (by decide) ?_
      refine V_iload hX dX5_liking_43 4 rfl ?_
      refine V_imulN hX dX5_liking_45 ?_
      refine V_iload hX dX5_liking_46 5 rfl ?_
      refine V_isub hX dX5_liking_48 ?_
      refine V_iret hX rfl dX5_liking_49 ?_
      have hcr := cr_ot (P := P) (a := a_) (c := c_) hh hp
      rw [if_pos c20] at hcr
      have hm : mnN P h_ c_ = _ := (if_neg c1)
      exact hR _ _ (by rw [show (nI (2 * (2 - c_))) - ((nI (crN P a_ c_)) - (nI 1)) = zI (lkZ P a_ h_ c_) from by unfold lkZ; rw [hm]; simp only [zI_nat, zI_sub]; congr 1; omega]; exact hQ)
  · refine V_iload_n hX dX5_liking_4 3 rfl ?_
    refine V_goto (tgt := 11) hX dX5_liking_5 (by decide) ?_
    refine V_istore (ls' := [(0, .ref 65), (1, .int (nI h_)), (2, .int (nI (P 4 h_))), (3, .int (nI c_)), (4, .int (nI c_))]) hX dX5_liking_11 (by decide) rfl ?_
    refine V_aload_n hX dX5_liking_13 0 rfl ?_
    refine V_getr (j := 67) hX fX5_19 rfl rfl dX5_liking_14 ?_
    refine V_iload_n hX dX5_liking_17 1 rfl ?_
    refine V_ialdN (x := nI (a_ h_)) hX rfl (by first | omega | (have := (hok.2.2.2.2.2.2.2.1 h_ hh).2.2.2; omega) | (have := hal h_; omega)) (by decide) (hv.1 _ (by omega)) dX5_liking_18 ?_
    refine V_iload_n hX dX5_liking_19 3 rfl ?_
    refine V_icmp_neN (tgt := 34) hX dX5_liking_20 (by decide) (by first | omega | (have := (hok.2.2.2.2.2.2.2.1 h_ hh).2.2.2; omega) | (have := hal h_; omega)) (by first | omega | (have := (hok.2.2.2.2.2.2.2.1 h_ hh).2.2.2; omega) | (have := hal h_; omega)) (fun c20 => ?_) (fun c20 => ?_)
    · refine V_aload_n hX dX5_liking_34 0 rfl ?_
      refine V_getr (j := 66) hX fX5_9 rfl rfl dX5_liking_35 ?_
      refine V_iload_n hX dX5_liking_38 3 rfl ?_
      refine V_ialdN (x := nI (crN P a_ c_)) hX rfl (by first | omega | (have := (hok.2.2.2.2.2.2.2.1 h_ hh).2.2.2; omega) | (have := hal h_; omega)) (by decide) (hv.2 _ (by omega)) dX5_liking_39 ?_
      refine V_istore (ls' := [(0, .ref 65), (1, .int (nI h_)), (2, .int (nI (P 4 h_))), (3, .int (nI c_)), (4, .int (nI c_)), (5, .int (nI (crN P a_ c_)))]) hX dX5_liking_40 (by decide) rfl ?_
      refine V_iconst (v := nI 2) hX dX5_liking_42 (by decide) ?_
      refine V_iload hX dX5_liking_43 4 rfl ?_
      refine V_imulN hX dX5_liking_45 ?_
      refine V_iload hX dX5_liking_46 5 rfl ?_
      refine V_isub hX dX5_liking_48 ?_
      refine V_iret hX rfl dX5_liking_49 ?_
      have hcr := cr_ot (P := P) (a := a_) (c := c_) hh hp
      rw [if_neg c20] at hcr
      have hm : mnN P h_ c_ = _ := (if_pos c1)
      exact hR _ _ (by rw [show (nI (2 * c_)) - (nI (crN P a_ c_)) = zI (lkZ P a_ h_ c_) from by unfold lkZ; rw [hm]; simp only [zI_nat, zI_sub]; congr 1; omega]; exact hQ)
    · refine V_aload_n hX dX5_liking_23 0 rfl ?_
      refine V_getr (j := 66) hX fX5_9 rfl rfl dX5_liking_24 ?_
      refine V_iload_n hX dX5_liking_27 3 rfl ?_
      refine V_ialdN (x := nI (crN P a_ c_)) hX rfl (by first | omega | (have := (hok.2.2.2.2.2.2.2.1 h_ hh).2.2.2; omega) | (have := hal h_; omega)) (by decide) (hv.2 _ (by omega)) dX5_liking_28 ?_
      refine V_iconst (v := nI 1) hX dX5_liking_29 (by decide) ?_
      refine V_isub hX dX5_liking_30 ?_
      refine V_goto (tgt := 40) hX dX5_liking_31 (by decide) ?_
      refine V_istore (ls' := [(0, .ref 65), (1, .int (nI h_)), (2, .int (nI (P 4 h_))), (3, .int (nI c_)), (4, .int (nI c_)), (5, .int ((nI (crN P a_ c_)) - (nI 1)))]) hX dX5_liking_40 (by decide) rfl ?_
      refine V_iconst (v := nI 2) hX dX5_liking_42 (by decide) ?_
      refine V_iload hX dX5_liking_43 4 rfl ?_
      refine V_imulN hX dX5_liking_45 ?_
      refine V_iload hX dX5_liking_46 5 rfl ?_
      refine V_isub hX dX5_liking_48 ?_
      refine V_iret hX rfl dX5_liking_49 ?_
      have hcr := cr_ot (P := P) (a := a_) (c := c_) hh hp
      rw [if_pos c20] at hcr
      have hm : mnN P h_ c_ = _ := (if_pos c1)
      exact hR _ _ (by rw [show (nI (2 * c_)) - ((nI (crN P a_ c_)) - (nI 1)) = zI (lkZ P a_ h_ c_) from by unfold lkZ; rw [hm]; simp only [zI_nat, zI_sub]; congr 1; omega]; exact hQ)
set_option maxRecDepth 100000 in
set_option maxHeartbeats 4000000 in
theorem lpC_best {G : VG} {d : Nat} {μ : VS} {Q : Option Value → VS → Prop} {X : VX} {P : PC} {h_ : Nat} {a_ : Nat → Nat} (hX : Cx G (d + 1) yX5_bestChurch cX5_bestChurch 5 (some .int) X) (hR : ∀ r μ', Q r μ' → Ret G X r μ') (hv : isRv μ P a_) (hok : okP P) (hal : ∀ g, a_ g < 3) (hh : h_ < 8) (hp : pPres P h_ = true) (hQ : Q (some (.int (nI (fk (lkZ P a_ h_) (a_ h_) 3)))) μ) : ∀ (j k_ : Nat), 1 ≤ k_ ∧ k_ ≤ 3 → 4 ≤ k_ + j → V G 5 X 5 [(0, .ref 65), (1, .int (nI h_)), (2, .int (nI (P 4 h_))), (3, .int (nI (fk (lkZ P a_ h_) 0 k_))), (4, .int (nI k_))] [] μ := by
  intro j
  induction j with
  | zero =>
    intro k_ h1 h2
    exact absurd h2 (by omega)
  | succ j ih =>
    intro k_ h1 h2
    refine V_iload hX dX5_bestChurch_5 4 rfl ?_
    refine V_iconst (v := nI 3) hX dX5_bestChurch_7 (by decide) ?_
    refine V_icmp_geN (tgt := 38) hX dX5_bestChurch_8 (by decide) (by first | omega | (have := fk_lt (l := lkZ P a_ h_) (x := 0) (by decide) k_ (by omega); omega)) (by first | omega | (have := fk_lt (l := lkZ P a_ h_) (x := 0) (by decide) k_ (by omega); omega)) (fun c8 => ?_) (fun c8 => ?_)
    · obtain rfl : k_ = 3 := by omega
      refine V_aload_n hX dX5_bestChurch_38 0 rfl ?_
      refine V_iload_n hX dX5_bestChurch_39 1 rfl ?_
      refine V_iload_n hX dX5_bestChurch_40 2 rfl ?_
      refine V_iload_n hX dX5_bestChurch_41 3 rfl ?_
      refine V_callV (As := [.int (nI h_), .int (nI (P 4 h_)), .int (nI (fk (lkZ P a_ h_) 0 3))]) (st := []) hX mX5_43 rfl (k_liking hv hok hal hh (by exact fk_lt (by decide) _ (by omega)) hp ?_) rfl (Nat.le_of_ble_eq_true rfl) (Nat.le_of_ble_eq_true rfl) dX5_bestChurch_42
      show V G 5 X 45 [(0, .ref 65), (1, .int (nI h_)), (2, .int (nI (P 4 h_))), (3, .int (nI (fk (lkZ P a_ h_) 0 3))), (4, .int (nI 3))] [.int (zI (lkZ P a_ h_ (fk (lkZ P a_ h_) 0 3)))] μ
      refine V_aload_n hX dX5_bestChurch_45 0 rfl ?_
      refine V_iload_n hX dX5_bestChurch_46 1 rfl ?_
      refine V_iload_n hX dX5_bestChurch_47 2 rfl ?_
      refine V_aload_n hX dX5_bestChurch_48 0 rfl ?_
      refine V_getr (j := 67) hX fX5_19 rfl rfl dX5_bestChurch_49 ?_
      refine V_iload_n hX dX5_bestChurch_52 1 rfl ?_
      refine V_ialdN (x := nI (a_ h_)) hX rfl (by first | omega | (have := fk_lt (l := lkZ P a_ h_) (x := 0) (by decide) k_ (by omega); omega)) (by decide) (hv.1 _ (by omega)) dX5_bestChurch_53 ?_
      refine V_callV (As := [.int (nI h_), .int (nI (P 4 h_)), .int (nI (a_ h_))]) (st := [.int (zI (lkZ P a_ h_ (fk (lkZ P a_ h_) 0 3)))]) hX mX5_43 rfl (k_liking hv hok hal hh (by exact hal _) hp ?_) rfl (Nat.le_of_ble_eq_true rfl) (Nat.le_of_ble_eq_true rfl) dX5_bestChurch_54
      show V G 5 X 57 [(0, .ref 65), (1, .int (nI h_)), (2, .int (nI (P 4 h_))), (3, .int (nI (fk (lkZ P a_ h_) 0 3))), (4, .int (nI 3))] [.int (zI (lkZ P a_ h_ (a_ h_))), .int (zI (lkZ P a_ h_ (fk (lkZ P a_ h_) 0 3)))] μ
      refine V_icmp_le (tgt := 64) hX dX5_bestChurch_57 (by decide) (fun c57 => ?_) (fun c57 => ?_)
      · refine V_aload_n hX dX5_bestChurch_64 0 rfl ?_
        refine V_getr (j := 67) hX fX5_19 rfl rfl dX5_bestChurch_65 ?_
        refine V_iload_n hX dX5_bestChurch_68 1 rfl ?_
        refine V_ialdN (x := nI (a_ h_)) hX rfl (by first | omega | (have := fk_lt (l := lkZ P a_ h_) (x := 0) (by decide) k_ (by omega); omega)) (by decide) (hv.1 _ (by omega)) dX5_bestChurch_69 ?_
        refine V_iret hX rfl dX5_bestChurch_70 ?_
        exact hR _ _ (by rw [show a_ h_ = fk (lkZ P a_ h_) (a_ h_) 3 from ((fk3 (hal h_)).trans (if_neg (fun z => Int32.not_lt.mpr c57 ((lk_lt (hal h_) (fk_lt (l := lkZ P a_ h_) (x := 0) (by decide) 3 (by omega))).mpr z)))).symm]; exact hQ)
      · refine V_iload_n hX dX5_bestChurch_60 3 rfl ?_
        refine V_goto (tgt := 70) hX dX5_bestChurch_61 (by decide) ?_
        refine V_iret hX rfl dX5_bestChurch_70 ?_
        exact hR _ _ (by rw [show fk (lkZ P a_ h_) 0 3 = fk (lkZ P a_ h_) (a_ h_) 3 from ((fk3 (hal h_)).trans (if_pos ((lk_lt (hal h_) (fk_lt (l := lkZ P a_ h_) (x := 0) (by decide) 3 (by omega))).mp (Int32.not_le.mp c57)))).symm]; exact hQ)
    · refine V_aload_n hX dX5_bestChurch_11 0 rfl ?_
      refine V_iload_n hX dX5_bestChurch_12 1 rfl ?_
      refine V_iload_n hX dX5_bestChurch_13 2 rfl ?_
      refine V_iload hX dX5_bestChurch_14 4 rfl ?_
      refine V_callV (As := [.int (nI h_), .int (nI (P 4 h_)), .int (nI k_)]) (st := []) hX mX5_43 rfl (k_liking hv hok hal hh (by omega) hp ?_) rfl (Nat.le_of_ble_eq_true rfl) (Nat.le_of_ble_eq_true rfl) dX5_bestChurch_16
      show V G 5 X 19 [(0, .ref 65), (1, .int (nI h_)), (2, .int (nI (P 4 h_))), (3, .int (nI (fk (lkZ P a_ h_) 0 k_))), (4, .int (nI k_))] [.int (zI (lkZ P a_ h_ k_))] μ
      refine V_aload_n hX dX5_bestChurch_19 0 rfl ?_
      refine V_iload_n hX dX5_bestChurch_20 1 rfl ?_
      refine V_iload_n hX dX5_bestChurch_21 2 rfl ?_
      refine V_iload_n hX dX5_bestChurch_22 3 rfl ?_
      refine V_callV (As := [.int (nI h_), .int (nI (P 4 h_)), .int (nI (fk (lkZ P a_ h_) 0 k_))]) (st := [.int (zI (lkZ P a_ h_ k_))]) hX mX5_43 rfl (k_liking hv hok hal hh (by exact fk_lt (by decide) _ (by omega)) hp ?_) rfl (Nat.le_of_ble_eq_true rfl) (Nat.le_of_ble_eq_true rfl) dX5_bestChurch_23
      show V G 5 X 26 [(0, .ref 65), (1, .int (nI h_)), (2, .int (nI (P 4 h_))), (3, .int (nI (fk (lkZ P a_ h_) 0 k_))), (4, .int (nI k_))] [.int (zI (lkZ P a_ h_ (fk (lkZ P a_ h_) 0 k_))), .int (zI (lkZ P a_ h_ k_))] μ
      refine V_icmp_le (tgt := 32) hX dX5_bestChurch_26 (by decide) (fun c26 => ?_) (fun c26 => ?_)
      · refine V_iincN (n := 1) (ls' := [(0, .ref 65), (1, .int (nI h_)), (2, .int (nI (P 4 h_))), (3, .int (nI (fk (lkZ P a_ h_) 0 k_))), (4, .int (nI (k_ + 1)))]) hX dX5_bestChurch_32 4 rfl (by decide) rfl ?_
        refine V_goto (tgt := 5) hX dX5_bestChurch_35 (by decide) ?_
        have h9 := ih (k_ + 1) (by omega) (by omega)
        rw [show fk (lkZ P a_ h_) 0 (k_ + 1) = fk (lkZ P a_ h_) 0 k_ from if_neg (fun z => Int32.not_lt.mpr c26 ((lk_lt (fk_lt (l := lkZ P a_ h_) (x := 0) (by decide) k_ (by omega)) (by omega)).mpr z))] at h9
        exact h9
      · refine V_iload hX dX5_bestChurch_29 4 rfl ?_
        refine V_istore_n (ls' := [(0, .ref 65), (1, .int (nI h_)), (2, .int (nI (P 4 h_))), (3, .int (nI k_)), (4, .int (nI k_))]) hX dX5_bestChurch_31 (by decide) rfl ?_
        refine V_iincN (n := 1) (ls' := [(0, .ref 65), (1, .int (nI h_)), (2, .int (nI (P 4 h_))), (3, .int (nI k_)), (4, .int (nI (k_ + 1)))]) hX dX5_bestChurch_32 4 rfl (by decide) rfl ?_
        refine V_goto (tgt := 5) hX dX5_bestChurch_35 (by decide) ?_
        have h9 := ih (k_ + 1) (by omega) (by omega)
        rw [show fk (lkZ P a_ h_) 0 (k_ + 1) = k_ from if_pos ((lk_lt (fk_lt (l := lkZ P a_ h_) (x := 0) (by decide) k_ (by omega)) (by omega)).mp (Int32.not_le.mp c26))] at h9
        exact h9
set_option maxRecDepth 100000 in
set_option maxHeartbeats 4000000 in
theorem k_bestChurch {G : VG} {d : Nat} {μ : VS} {Q : Option Value → VS → Prop} {P : PC} {h_ : Nat} {a_ : Nat → Nat} (hv : isRv μ P a_) (hok : okP P) (hal : ∀ g, a_ g < 3) (hh : h_ < 8) (hp : pPres P h_ = true) (hQ : Q (some (.int (nI (fk (lkZ P a_ h_) (a_ h_) 3)))) μ) : Call G (d + 1) yX5_bestChurch cX5_bestChurch 5 (some .int) [.ref 65, .int (nI h_), .int (nI (P 4 h_))] μ Q := by
  intro X hX hR
  show V G 5 X 0 [(0, .ref 65), (1, .int (nI h_)), (2, .int (nI (P 4 h_)))] [] μ
  refine V_iconst (v := nI 0) hX dX5_bestChurch_0 (by decide) ?_
  refine V_istore_n (ls' := [(0, .ref 65), (1, .int (nI h_)), (2, .int (nI (P 4 h_))), (3, .int (nI 0))]) hX dX5_bestChurch_1 (by decide) rfl ?_
  refine V_iconst (v := nI 1) hX dX5_bestChurch_2 (by decide) ?_
  refine V_istore (ls' := [(0, .ref 65), (1, .int (nI h_)), (2, .int (nI (P 4 h_))), (3, .int (nI 0)), (4, .int (nI 1))]) hX dX5_bestChurch_3 (by decide) rfl ?_
  have h9 := lpC_best hX hR hv hok hal hh hp hQ 3 1 (by decide) (by decide)
  rw [show fk (lkZ P a_ h_) 0 1 = 0 from by simp [fk]] at h9
  exact h9
theorem isRv.move {μ : VS} {P : PC} {a : Nat → Nat} {h v : Nat} (hv : isRv μ P a) (hh : h < 8) (hp : pPres P h = true) (ho : a h < 3) (hn : v < 3) (e : ¬ v = a h) : isRv (vup (vup (vup μ.1 66 (a h) (nI (crN P a (a h)) - nI 1)) 66 v (nI (crN P a v + 1))) 67 h (nI v), μ.2) P (upN a h v) := by
  refine ⟨fun g hg => ?_, fun c hc => ?_⟩
  · dsimp only
    rw [vup_get]
    unfold upN
    by_cases z : g = h
    · rw [if_pos ⟨rfl, z⟩, if_pos z]
    · rw [if_neg (fun q => z q.2), if_neg z, vup_row _ _ _ (by decide), vup_row _ _ _ (by decide)]; exact hv.1 g hg
  · dsimp only
    rw [vup_row _ _ _ (by decide), vup_get, vup_get]
    have hcu := cr_up (P := P) (a := a) (h := h) (c := c) (v := v) hh hp
    by_cases e1 : c = v
    · subst e1
      rw [if_pos ⟨rfl, rfl⟩]
      rw [if_neg (show ¬ a h = c from fun z => e z.symm), if_pos (show c = c from rfl)] at hcu
      rw [← hcu, Nat.add_zero]
    · rw [if_neg (fun z => e1 z.2)]
      rw [if_neg (show ¬ v = c from fun z => e1 z.symm)] at hcu
      by_cases e2 : c = a h
      · subst e2
        rw [if_pos ⟨rfl, rfl⟩]
        rw [if_pos (show a h = a h from rfl)] at hcu
        rw [zI_nat, zI_nat, zI_nat, zI_sub]
        congr 1
        omega
      · rw [if_neg (fun z => e2 z.2), hv.2 c hc]
        rw [if_neg (show ¬ a h = c from fun z => e2 z.symm)] at hcu
        rw [show crN P (upN a h v) c = crN P a c by omega]
set_option maxRecDepth 100000 in
set_option maxHeartbeats 4000000 in
theorem lpC_go {G : VG} {d : Nat} {μ : VS} {Q : Option Value → VS → Prop} {X : VX} {P : PC} {a_ : Nat → Nat} (hX : Cx G (d + 2) yX5_doesAnybodyGo cX5_doesAnybodyGo 5 (some .boolean) X) (hR : ∀ r μ', Q r μ' → Ret G X r μ') (hP : isP μ 1 P) (hok : okP P) (hal : ∀ g, a_ g < 3) (hQ : ∀ μ' : VS, (∀ b, b ≠ 66 → b ≠ 67 → μ'.1 b = μ.1 b) → isRv μ' P (swp P a_ 8) → Q (some (.int (bI (mvd P a_ 8 = true)))) μ') : ∀ (j h_ : Nat) (μ1 : VS), h_ ≤ 8 → 9 ≤ h_ + j → (∀ b, b ≠ 66 → b ≠ 67 → μ1.1 b = μ.1 b) → isRv μ1 P (swp P a_ h_) → V G 5 X 4 [(0, .ref 65), (1, .ref 1), (2, .int (bI (mvd P a_ h_ = true))), (3, .int (nI h_))] [] μ1 := by
  have hP4 := hok.2.2.2.2.1
  intro j
  induction j with
  | zero =>
    intro h_ μ1 h1 h2
    exact absurd h2 (by omega)
  | succ j ih =>
    intro h_ μ1 h1 h2 hV hv
    have hP1 : isP μ1 1 P := hP.frame (fun j hj => hV _ (by omega) (by omega))
    refine V_iload_n hX dX5_doesAnybodyGo_4 3 rfl ?_
    refine V_bipush (v := nI 8) hX dX5_doesAnybodyGo_5 (by decide) ?_
    refine V_icmp_geN (tgt := 84) hX dX5_doesAnybodyGo_7 (by decide) (by omega) (by omega) (fun c7 => ?_) (fun c7 => ?_)
    · refine V_iload_n hX dX5_doesAnybodyGo_84 2 rfl ?_
      refine V_zret hX rfl bI_nar dX5_doesAnybodyGo_85 ?_
      obtain rfl : h_ = 8 := by omega
      exact hR _ _ (hQ μ1 hV hv)
    · refine V_aload_n hX dX5_doesAnybodyGo_10 1 rfl ?_
      refine V_iload_n hX dX5_doesAnybodyGo_11 3 rfl ?_
      refine V_callV (As := [.int (nI h_)]) (st := []) hX mX5_32 rfl (kC_isThere rfl hP1 hP4 ?_) rfl (Nat.le_of_ble_eq_true rfl) (Nat.le_of_ble_eq_true rfl) dX5_doesAnybodyGo_12
      show V G 5 X 15 [(0, .ref 65), (1, .ref 1), (2, .int (bI (mvd P a_ h_ = true))), (3, .int (nI h_))] [.int (bI (thr P (nI h_)))] μ1
      refine V_if_eqB (tgt := 78) hX dX5_doesAnybodyGo_15 (by decide) (fun c15 => ?_) (fun c15 => ?_)
      · refine V_iincN (n := 1) (ls' := [(0, .ref 65), (1, .ref 1), (2, .int (bI (mvd P a_ h_ = true))), (3, .int (nI (h_ + 1)))]) hX dX5_doesAnybodyGo_78 3 rfl (by decide) rfl ?_
        refine V_goto (tgt := 4) hX dX5_doesAnybodyGo_81 (by decide) ?_
        have hpn : ¬ pPres P h_ = true := fun z => c15 (thr_of (by omega) z)
        have h9 := ih (h_ + 1) μ1 (by omega) (by omega) hV (by rw [swp_n hpn]; exact hv)
        rw [mvd_n hpn] at h9
        exact h9
      · have hph : pPres P h_ = true := by have := c15.2; rw [nI_clamp (by omega)] at this; exact this
        refine V_aload_n hX dX5_doesAnybodyGo_18 0 rfl ?_
        refine V_iload_n hX dX5_doesAnybodyGo_19 3 rfl ?_
        refine V_aload_n hX dX5_doesAnybodyGo_20 1 rfl ?_
        refine V_getr (j := 5) hX fX5_36 rfl rfl dX5_doesAnybodyGo_21 ?_
        refine V_iload_n hX dX5_doesAnybodyGo_24 3 rfl ?_
        refine V_ialdN (x := nI (P 4 h_)) hX rfl (by omega) (by decide) (hP1.2 3 (by decide) _ (by omega)) dX5_doesAnybodyGo_25 ?_
        refine V_callV (As := [.int (nI h_), .int (nI (P 4 h_))]) (st := []) hX mX5_39 rfl (k_bestChurch (a_ := (swp P a_ h_)) hv hok (swp_lt hal h_) (by omega) hph ?_) rfl (Nat.le_of_ble_eq_true rfl) (Nat.le_of_ble_eq_true rfl) dX5_doesAnybodyGo_26
        show V G 5 X 29 [(0, .ref 65), (1, .ref 1), (2, .int (bI (mvd P a_ h_ = true))), (3, .int (nI h_))] [.int (nI (fk (lkZ P (swp P a_ h_) h_) ((swp P a_ h_) h_) 3))] μ1
        have hnw : fk (lkZ P (swp P a_ h_) h_) ((swp P a_ h_) h_) 3 < 3 := fk_lt (swp_lt hal h_ h_) 3 (by decide)
        have hol : (swp P a_ h_) h_ < 3 := swp_lt hal h_ h_
        refine V_istore (ls' := [(0, .ref 65), (1, .ref 1), (2, .int (bI (mvd P a_ h_ = true))), (3, .int (nI h_)), (4, .int (nI (fk (lkZ P (swp P a_ h_) h_) ((swp P a_ h_) h_) 3)))]) hX dX5_doesAnybodyGo_29 (by decide) rfl ?_
        refine V_iload hX dX5_doesAnybodyGo_31 4 rfl ?_
        refine V_aload_n hX dX5_doesAnybodyGo_33 0 rfl ?_
        refine V_getr (j := 67) hX fX5_19 rfl rfl dX5_doesAnybodyGo_34 ?_
        refine V_iload_n hX dX5_doesAnybodyGo_37 3 rfl ?_
        refine V_ialdN (x := nI ((swp P a_ h_) h_)) hX rfl (by omega) (by decide) (hv.1 _ (by omega)) dX5_doesAnybodyGo_38 ?_
        refine V_icmp_eqN (tgt := 78) hX dX5_doesAnybodyGo_39 (by decide) (by omega) (by omega) (fun c39 => ?_) (fun c39 => ?_)
        · refine V_iincN (n := 1) (ls' := [(0, .ref 65), (1, .ref 1), (2, .int (bI (mvd P a_ h_ = true))), (3, .int (nI (h_ + 1))), (4, .int (nI (fk (lkZ P (swp P a_ h_) h_) ((swp P a_ h_) h_) 3)))]) hX dX5_doesAnybodyGo_78 3 rfl (by decide) rfl ?_
          refine V_goto (tgt := 4) hX dX5_doesAnybodyGo_81 (by decide) ?_
          have h9 := ih (h_ + 1) μ1 (by omega) (by omega) hV (by rw [swp_s c39]; exact hv)
          rw [mvd_s c39] at h9
          exact V_sub [0, 1, 2, 3] rfl h9
        · refine V_aload_n hX dX5_doesAnybodyGo_42 0 rfl ?_
          refine V_getr (j := 66) hX fX5_9 rfl rfl dX5_doesAnybodyGo_43 ?_
          refine V_aload_n hX dX5_doesAnybodyGo_46 0 rfl ?_
          refine V_getr (j := 67) hX fX5_19 rfl rfl dX5_doesAnybodyGo_47 ?_
          refine V_iload_n hX dX5_doesAnybodyGo_50 3 rfl ?_
          refine V_ialdN (x := nI ((swp P a_ h_) h_)) hX rfl (by omega) (by decide) (hv.1 _ (by omega)) dX5_doesAnybodyGo_51 ?_
          refine V_dup2 hX dX5_doesAnybodyGo_52 rfl rfl ?_
          refine V_ialdN (x := nI (crN P (swp P a_ h_) ((swp P a_ h_) h_))) hX rfl (by omega) (by decide) (hv.2 _ (by omega)) dX5_doesAnybodyGo_53 ?_
          refine V_iconst (v := nI 1) hX dX5_doesAnybodyGo_54 (by decide) ?_
          refine V_isub hX dX5_doesAnybodyGo_55 ?_
          refine V_iastN hX rfl (by omega) (by decide) dX5_doesAnybodyGo_56 ?_
          show V G 5 X 57 [(0, .ref 65), (1, .ref 1), (2, .int (bI (mvd P a_ h_ = true))), (3, .int (nI h_)), (4, .int (nI (fk (lkZ P (swp P a_ h_) h_) ((swp P a_ h_) h_) 3)))] [] (vup μ1.1 66 ((swp P a_ h_) h_) ((nI (crN P (swp P a_ h_) ((swp P a_ h_) h_))) - (nI 1)), μ1.2)
          refine V_aload_n hX dX5_doesAnybodyGo_57 0 rfl ?_
          refine V_getr (j := 66) hX fX5_9 rfl rfl dX5_doesAnybodyGo_58 ?_
          refine V_iload hX dX5_doesAnybodyGo_61 4 rfl ?_
          refine V_dup2 hX dX5_doesAnybodyGo_63 rfl rfl ?_
          refine V_ialdN (x := nI (crN P (swp P a_ h_) (fk (lkZ P (swp P a_ h_) h_) ((swp P a_ h_) h_) 3))) hX rfl (by omega) (by decide) ((vup_ne (fun z => c39 z)).trans (hv.2 _ (by omega))) dX5_doesAnybodyGo_64 ?_
          refine V_iconst (v := nI 1) hX dX5_doesAnybodyGo_65 (by decide) ?_
          refine V_iaddN hX dX5_doesAnybodyGo_66 ?_
          refine V_iastN hX rfl (by omega) (by decide) dX5_doesAnybodyGo_67 ?_
          show V G 5 X 68 [(0, .ref 65), (1, .ref 1), (2, .int (bI (mvd P a_ h_ = true))), (3, .int (nI h_)), (4, .int (nI (fk (lkZ P (swp P a_ h_) h_) ((swp P a_ h_) h_) 3)))] [] (vup (vup μ1.1 66 ((swp P a_ h_) h_) ((nI (crN P (swp P a_ h_) ((swp P a_ h_) h_))) - (nI 1))) 66 (fk (lkZ P (swp P a_ h_) h_) ((swp P a_ h_) h_) 3) (nI ((crN P (swp P a_ h_) (fk (lkZ P (swp P a_ h_) h_) ((swp P a_ h_) h_) 3)) + 1)), μ1.2)
          refine V_aload_n hX dX5_doesAnybodyGo_68 0 rfl ?_
          refine V_getr (j := 67) hX fX5_19 rfl rfl dX5_doesAnybodyGo_69 ?_
          refine V_iload_n hX dX5_doesAnybodyGo_72 3 rfl ?_
          refine V_iload hX dX5_doesAnybodyGo_73 4 rfl ?_
          refine V_iastN hX rfl (by omega) (by decide) dX5_doesAnybodyGo_75 ?_
          show V G 5 X 76 [(0, .ref 65), (1, .ref 1), (2, .int (bI (mvd P a_ h_ = true))), (3, .int (nI h_)), (4, .int (nI (fk (lkZ P (swp P a_ h_) h_) ((swp P a_ h_) h_) 3)))] [] (vup (vup (vup μ1.1 66 ((swp P a_ h_) h_) ((nI (crN P (swp P a_ h_) ((swp P a_ h_) h_))) - (nI 1))) 66 (fk (lkZ P (swp P a_ h_) h_) ((swp P a_ h_) h_) 3) (nI ((crN P (swp P a_ h_) (fk (lkZ P (swp P a_ h_) h_) ((swp P a_ h_) h_) 3)) + 1))) 67 h_ (nI (fk (lkZ P (swp P a_ h_) h_) ((swp P a_ h_) h_) 3)), μ1.2)
          refine V_iconst (v := nI 1) hX dX5_doesAnybodyGo_76 (by decide) ?_
          refine V_istore_n (ls' := [(0, .ref 65), (1, .ref 1), (2, .int (nI 1)), (3, .int (nI h_)), (4, .int (nI (fk (lkZ P (swp P a_ h_) h_) ((swp P a_ h_) h_) 3)))]) hX dX5_doesAnybodyGo_77 (by decide) rfl ?_
          refine V_iincN (n := 1) (ls' := [(0, .ref 65), (1, .ref 1), (2, .int (nI 1)), (3, .int (nI (h_ + 1))), (4, .int (nI (fk (lkZ P (swp P a_ h_) h_) ((swp P a_ h_) h_) 3)))]) hX dX5_doesAnybodyGo_78 3 rfl (by decide) rfl ?_
          refine V_goto (tgt := 4) hX dX5_doesAnybodyGo_81 (by decide) ?_
          have h9 := ih (h_ + 1) (vup (vup (vup μ1.1 66 ((swp P a_ h_) h_) ((nI (crN P (swp P a_ h_) ((swp P a_ h_) h_))) - (nI 1))) 66 (fk (lkZ P (swp P a_ h_) h_) ((swp P a_ h_) h_) 3) (nI ((crN P (swp P a_ h_) (fk (lkZ P (swp P a_ h_) h_) ((swp P a_ h_) h_) 3)) + 1))) 67 h_ (nI (fk (lkZ P (swp P a_ h_) h_) ((swp P a_ h_) h_) 3)), μ1.2) (by omega) (by omega) (fun b b1 b2 => by dsimp only; rw [vup_row _ _ _ b2, vup_row _ _ _ b1, vup_row _ _ _ b1]; exact hV b b1 b2) (by rw [swp_y hph]; exact hv.move (by omega) hph hol hnw c39)
          rw [show bI (mvd P a_ (h_ + 1) = true) = nI 1 from bI_t (mvd_y hph c39)] at h9
          exact V_sub [0, 1, 2, 3] rfl h9
set_option maxRecDepth 100000 in
set_option maxHeartbeats 4000000 in
theorem k_anybody {G : VG} {d : Nat} {μ : VS} {Q : Option Value → VS → Prop} {P : PC} {a_ : Nat → Nat} (hP : isP μ 1 P) (hok : okP P) (hal : ∀ g, a_ g < 3) (hv : isRv μ P a_) (hQ : ∀ μ' : VS, (∀ b, b ≠ 66 → b ≠ 67 → μ'.1 b = μ.1 b) → isRv μ' P (swp P a_ 8) → Q (some (.int (bI (mvd P a_ 8 = true)))) μ') : Call G (d + 2) yX5_doesAnybodyGo cX5_doesAnybodyGo 5 (some .boolean) [.ref 65, .ref 1] μ Q := by
  intro X hX hR
  show V G 5 X 0 [(0, .ref 65), (1, .ref 1)] [] μ
  refine V_iconst (v := nI 0) hX dX5_doesAnybodyGo_0 (by decide) ?_
  refine V_istore_n (ls' := [(0, .ref 65), (1, .ref 1), (2, .int (nI 0))]) hX dX5_doesAnybodyGo_1 (by decide) rfl ?_
  refine V_iconst (v := nI 0) hX dX5_doesAnybodyGo_2 (by decide) ?_
  refine V_istore_n (ls' := [(0, .ref 65), (1, .ref 1), (2, .int (nI 0)), (3, .int (nI 0))]) hX dX5_doesAnybodyGo_3 (by decide) rfl ?_
  exact lpC_go hX hR hP hok hal hQ 9 0 μ (by decide) (by decide) (fun _ _ _ => rfl) hv
set_option maxRecDepth 100000 in
set_option maxHeartbeats 4000000 in
theorem lpC_set0 {G : VG} {d : Nat} {μ : VS} {X : VX} (hX : Cx G d yX5_settle cX5_settle 3 none X) (hF : ∀ μ1 : VS, (∀ b, b ≠ 65 → b ≠ 66 → b ≠ 67 → μ1.1 b = μ.1 b) → (∀ g, g < 8 → μ1.1 67 g = nI 0) → V G 3 X 21 [(0, .ref 65), (1, .ref 1), (2, .int (nI 8))] [] μ1) : ∀ (j h_ : Nat) (μ1 : VS), h_ ≤ 8 → 9 ≤ h_ + j → (∀ b, b ≠ 65 → b ≠ 66 → b ≠ 67 → μ1.1 b = μ.1 b) → (∀ g, g < h_ → μ1.1 67 g = nI 0) → V G 3 X 2 [(0, .ref 65), (1, .ref 1), (2, .int (nI h_))] [] μ1 := by
  intro j
  induction j with
  | zero =>
    intro h_ μ1 h1 h2
    exact absurd h2 (by omega)
  | succ j ih =>
    intro h_ μ1 h1 h2 hV hz
    refine V_iload_n hX dX5_settle_2 2 rfl ?_
    refine V_bipush (v := nI 8) hX dX5_settle_3 (by decide) ?_
    refine V_icmp_geN (tgt := 21) hX dX5_settle_5 (by decide) (by omega) (by omega) (fun c5 => ?_) (fun c5 => ?_)
    · obtain rfl : h_ = 8 := by omega
      exact hF μ1 hV hz
    · refine V_aload_n hX dX5_settle_8 0 rfl ?_
      refine V_getr (j := 67) hX fX5_19 rfl rfl dX5_settle_9 ?_
      refine V_iload_n hX dX5_settle_12 2 rfl ?_
      refine V_iconst (v := nI 0) hX dX5_settle_13 (by decide) ?_
      refine V_iastN hX rfl (by omega) (by decide) dX5_settle_14 ?_
      show V G 3 X 15 [(0, .ref 65), (1, .ref 1), (2, .int (nI h_))] [] (vup μ1.1 67 h_ (nI 0), μ1.2)
      refine V_iincN (n := 1) (ls' := [(0, .ref 65), (1, .ref 1), (2, .int (nI (h_ + 1)))]) hX dX5_settle_15 2 rfl (by decide) rfl ?_
      refine V_goto (tgt := 2) hX dX5_settle_18 (by decide) ?_
      refine ih (h_ + 1) _ (by omega) (by omega) (fun b b1 b2 b3 => by dsimp only; rw [vup_row _ _ _ b3]; exact hV b b1 b2 b3) (fun g hg => ?_)
      dsimp only
      rw [vup_get]
      by_cases e : g = h_
      · rw [if_pos ⟨rfl, e⟩]
      · rw [if_neg (fun z => e z.2)]; exact hz g (by omega)
set_option maxRecDepth 100000 in
set_option maxHeartbeats 4000000 in
theorem lpC_set2 {G : VG} {d : Nat} {μ : VS} {Q : Option Value → VS → Prop} {X : VX} {P : PC} {RES : Int32 × (Nat → Nat)} (hX : Cx G (d + 3) yX5_settle cX5_settle 3 none X) (hR : ∀ r μ', Q r μ' → Ret G X r μ') (hP : isP μ 1 P) (hok : okP P) (hQ : ∀ μ' : VS, (∀ b, b ≠ 65 → b ≠ 66 → b ≠ 67 → μ'.1 b = μ.1 b) → isRv μ' P RES.2 → μ'.1 65 1 = RES.1 → Q none μ') : ∀ (j r_ : Nat) (a_ : Nat → Nat) (μ1 : VS), r_ + j = 99 → (∀ g, a_ g < 3) → (∀ b, b ≠ 65 → b ≠ 66 → b ≠ 67 → μ1.1 b = μ.1 b) → isRv μ1 P a_ → μ1.1 65 1 = -6 → paR P j r_ a_ = RES → V G 3 X 60 [(0, .ref 65), (1, .ref 1), (2, .int (nI (r_ + 1)))] [] μ1 := by
  intro j
  induction j with
  | zero =>
    intro r_ a_ μ1 h1 hal hV hv hrd hres
    refine V_aload_n hX dX5_settle_60 0 rfl ?_
    refine V_getN (x := (-6)) hX fX5_15 rfl hrd dX5_settle_61 ?_
    refine V_bipush (v := (-6)) hX dX5_settle_64 (by decide) ?_
    refine V_icmp_ne (tgt := 94) hX dX5_settle_66 (by decide) (fun c66 => ?_) (fun c66 => ?_)
    · exact absurd (by decide) c66
    · refine V_iload_n hX dX5_settle_69 2 rfl ?_
      refine V_bipush (v := nI 99) hX dX5_settle_70 (by decide) ?_
      refine V_icmp_gtN (tgt := 94) hX dX5_settle_72 (by decide) (by omega) (by omega) (fun c72 => ?_) (fun c72 => ?_)
      · refine V_vret hX rfl dX5_settle_94 ?_
        exact hR _ _ (hQ μ1 hV (by rw [← hres]; exact hv) (by rw [← hres]; exact hrd))
      · exact absurd c72 (by omega)
  | succ j ih =>
    intro r_ a_ μ1 h1 hal hV hv hrd hres
    have hP1 : isP μ1 1 P := hP.frame (fun j hj => hV _ (by omega) (by omega) (by omega))
    refine V_aload_n hX dX5_settle_60 0 rfl ?_
    refine V_getN (x := (-6)) hX fX5_15 rfl hrd dX5_settle_61 ?_
    refine V_bipush (v := (-6)) hX dX5_settle_64 (by decide) ?_
    refine V_icmp_ne (tgt := 94) hX dX5_settle_66 (by decide) (fun c66 => ?_) (fun c66 => ?_)
    · exact absurd (by decide) c66
    · refine V_iload_n hX dX5_settle_69 2 rfl ?_
      refine V_bipush (v := nI 99) hX dX5_settle_70 (by decide) ?_
      refine V_icmp_gtN (tgt := 94) hX dX5_settle_72 (by decide) (by omega) (by omega) (fun c72 => ?_) (fun c72 => ?_)
      · exact absurd c72 (by omega)
      · refine V_aload_n hX dX5_settle_75 0 rfl ?_
        refine V_aload_n hX dX5_settle_76 1 rfl ?_
        refine V_callV (As := [.ref 1]) (st := []) hX mX5_28 rfl (k_anybody hP1 hok hal hv (fun μ2 f2 v2 => ?_)) rfl (Nat.le_of_ble_eq_true rfl) (Nat.le_of_ble_eq_true rfl) dX5_settle_77
        show V G 3 X 80 [(0, .ref 65), (1, .ref 1), (2, .int (nI (r_ + 1)))] [.int (bI (mvd P a_ 8 = true))] μ2
        refine V_if_neB (tgt := 88) hX dX5_settle_80 (by decide) (fun c80 => ?_) (fun c80 => ?_)
        · refine V_iincN (n := 1) (ls' := [(0, .ref 65), (1, .ref 1), (2, .int (nI ((r_ + 1) + 1)))]) hX dX5_settle_88 2 rfl (by decide) rfl ?_
          refine V_goto (tgt := 60) hX dX5_settle_91 (by decide) ?_
          refine ih (r_ + 1) (swp P a_ 8) μ2 (by omega) (fun g => swp_lt hal 8 g) (fun b b1 b2 b3 => by rw [f2 b b2 b3]; exact hV b b1 b2 b3) v2 (by rw [f2 65 (by decide) (by decide)]; exact hrd) ?_
          rw [← hres]
          exact (if_pos c80).symm
        · refine V_aload_n hX dX5_settle_83 0 rfl ?_
          refine V_iload_n hX dX5_settle_84 2 rfl ?_
          refine V_puti hX fX5_15 fw_4_1 rfl dX5_settle_85 ?_
          show V G 3 X 88 [(0, .ref 65), (1, .ref 1), (2, .int (nI (r_ + 1)))] [] (vup μ2.1 65 1 (nI (r_ + 1)), μ2.2)
          refine V_iincN (n := 1) (ls' := [(0, .ref 65), (1, .ref 1), (2, .int (nI ((r_ + 1) + 1)))]) hX dX5_settle_88 2 rfl (by decide) rfl ?_
          refine V_goto (tgt := 60) hX dX5_settle_91 (by decide) ?_
          refine V_aload_n hX dX5_settle_60 0 rfl ?_
          refine V_getN (x := nI (r_ + 1)) hX fX5_15 rfl rfl dX5_settle_61 ?_
          refine V_bipush (v := (-6)) hX dX5_settle_64 (by decide) ?_
          refine V_icmp_ne (tgt := 94) hX dX5_settle_66 (by decide) (fun c66 => ?_) (fun c66 => ?_)
          · refine V_vret hX rfl dX5_settle_94 ?_
            have hres2 : RES = (nI (r_ + 1), swp P a_ 8) := hres.symm.trans (if_neg c80)
            refine hR _ _ (hQ _ (fun b b1 b2 b3 => ?_) ?_ ?_)
            · dsimp only; rw [vup_row _ _ _ b1, f2 b b2 b3]; exact hV b b1 b2 b3
            · rw [hres2]; exact ⟨v2.1, v2.2⟩
            · rw [hres2]; rfl
          · exact absurd c66 (nI_n6 (by omega))
theorem cr_zero {P : PC} : crN P (fun _ => 0) 0 = popN (P 0 4) 8 := by
  rw [popN_cnt]
  exact cnt_congr (fun i _ => by unfold crB pPres; simp)
theorem cr_else {P : PC} {c : Nat} (h : ¬ c = 0) : crN P (fun _ => 0) c = 0 := by
  have : ∀ n, cnt (crB P (fun _ => 0) c) n = 0 := fun n => by
    induction n with
    | zero => rfl
    | succ n ih =>
      unfold cnt
      rw [ih, if_neg]
      unfold crB
      rw [decide_eq_false (fun z => h z.symm), Bool.and_false]
      decide
  exact this 8
set_option maxRecDepth 100000 in
set_option maxHeartbeats 4000000 in
theorem k_settle {G : VG} {d : Nat} {μ : VS} {Q : Option Value → VS → Prop} {P : PC} (hP : isP μ 1 P) (hok : okP P) (hQ : ∀ μ' : VS, (∀ b, b ≠ 65 → b ≠ 66 → b ≠ 67 → μ'.1 b = μ.1 b) → isRv μ' P (paR P 99 0 (fun _ => 0)).2 → μ'.1 65 1 = (paR P 99 0 (fun _ => 0)).1 → Q none μ') : Call G (d + 3) yX5_settle cX5_settle 3 none [.ref 65, .ref 1] μ Q := by
  intro X hX hR
  have hP4 := hok.2.2.2.2.1
  show V G 3 X 0 [(0, .ref 65), (1, .ref 1)] [] μ
  refine V_iconst (v := nI 0) hX dX5_settle_0 (by decide) ?_
  refine V_istore_n (ls' := [(0, .ref 65), (1, .ref 1), (2, .int (nI 0))]) hX dX5_settle_1 (by decide) rfl ?_
  refine lpC_set0 (μ := μ) hX (fun μ1 hV hz => ?_) 9 0 μ (by decide) (by decide) (fun _ _ _ _ => rfl) (fun g hg => absurd hg (by omega))
  have hP1 : isP μ1 1 P := hP.frame (fun j hj => hV _ (by omega) (by omega) (by omega))
  refine V_iconst (v := nI 0) hX dX5_settle_21 (by decide) ?_
  refine V_istore_n (ls' := [(0, .ref 65), (1, .ref 1), (2, .int (nI 0))]) hX dX5_settle_22 (by decide) rfl ?_
  refine V_iload_n hX dX5_settle_23 2 rfl ?_
  refine V_iconst (v := nI 3) hX dX5_settle_24 (by decide) ?_
  refine V_icmp_geN (tgt := 52) hX dX5_settle_25 (by decide) (by omega) (by omega) (fun c25 => ?_) (fun c25 => ?_)
  · exact absurd c25 (by decide)
  · refine V_aload_n hX dX5_settle_28 0 rfl ?_
    refine V_getr (j := 66) hX fX5_9 rfl rfl dX5_settle_29 ?_
    refine V_iload_n hX dX5_settle_32 2 rfl ?_
    refine V_iload_n hX dX5_settle_33 2 rfl ?_
    refine V_if_neN (tgt := 44) hX dX5_settle_34 (by decide) (by omega) (fun c34 => ?_) (fun c34 => ?_)
    · exact absurd c34 (by decide)
    · refine V_aload_n hX dX5_settle_37 1 rfl ?_
      refine V_callV (As := []) (st := [.int (nI 0), .ref 66]) hX mX5_22 rfl (kC_howMany rfl hP1 hP4 ?_) rfl (Nat.le_of_ble_eq_true rfl) (Nat.le_of_ble_eq_true rfl) dX5_settle_38
      show V G 3 X 41 [(0, .ref 65), (1, .ref 1), (2, .int (nI 0))] [.int (nI (popN (P 0 4) 8)), .int (nI 0), .ref 66] μ1
      refine V_goto (tgt := 45) hX dX5_settle_41 (by decide) ?_
      refine V_iastN hX rfl (by omega) (by decide) dX5_settle_45 ?_
      show V G 3 X 46 [(0, .ref 65), (1, .ref 1), (2, .int (nI 0))] [] (vup μ1.1 66 0 (nI (popN (P 0 4) 8)), μ1.2)
      refine V_iincN (n := 1) (ls' := [(0, .ref 65), (1, .ref 1), (2, .int (nI 1))]) hX dX5_settle_46 2 rfl (by decide) rfl ?_
      refine V_goto (tgt := 23) hX dX5_settle_49 (by decide) ?_
      refine V_iload_n hX dX5_settle_23 2 rfl ?_
      refine V_iconst (v := nI 3) hX dX5_settle_24 (by decide) ?_
      refine V_icmp_geN (tgt := 52) hX dX5_settle_25 (by decide) (by omega) (by omega) (fun c25 => ?_) (fun c25 => ?_)
      · exact absurd c25 (by decide)
      · refine V_aload_n hX dX5_settle_28 0 rfl ?_
        refine V_getr (j := 66) hX fX5_9 rfl rfl dX5_settle_29 ?_
        refine V_iload_n hX dX5_settle_32 2 rfl ?_
        refine V_iload_n hX dX5_settle_33 2 rfl ?_
        refine V_if_neN (tgt := 44) hX dX5_settle_34 (by decide) (by omega) (fun c34 => ?_) (fun c34 => ?_)
        · refine V_iconst (v := nI 0) hX dX5_settle_44 (by decide) ?_
          refine V_iastN hX rfl (by omega) (by decide) dX5_settle_45 ?_
          show V G 3 X 46 [(0, .ref 65), (1, .ref 1), (2, .int (nI 1))] [] (vup (vup μ1.1 66 0 (nI (popN (P 0 4) 8))) 66 1 (nI 0), μ1.2)
          refine V_iincN (n := 1) (ls' := [(0, .ref 65), (1, .ref 1), (2, .int (nI 2))]) hX dX5_settle_46 2 rfl (by decide) rfl ?_
          refine V_goto (tgt := 23) hX dX5_settle_49 (by decide) ?_
          refine V_iload_n hX dX5_settle_23 2 rfl ?_
          refine V_iconst (v := nI 3) hX dX5_settle_24 (by decide) ?_
          refine V_icmp_geN (tgt := 52) hX dX5_settle_25 (by decide) (by omega) (by omega) (fun c25 => ?_) (fun c25 => ?_)
          · exact absurd c25 (by decide)
          · refine V_aload_n hX dX5_settle_28 0 rfl ?_
            refine V_getr (j := 66) hX fX5_9 rfl rfl dX5_settle_29 ?_
            refine V_iload_n hX dX5_settle_32 2 rfl ?_
            refine V_iload_n hX dX5_settle_33 2 rfl ?_
            refine V_if_neN (tgt := 44) hX dX5_settle_34 (by decide) (by omega) (fun c34 => ?_) (fun c34 => ?_)
            · refine V_iconst (v := nI 0) hX dX5_settle_44 (by decide) ?_
              refine V_iastN hX rfl (by omega) (by decide) dX5_settle_45 ?_
              show V G 3 X 46 [(0, .ref 65), (1, .ref 1), (2, .int (nI 2))] [] (vup (vup (vup μ1.1 66 0 (nI (popN (P 0 4) 8))) 66 1 (nI 0)) 66 2 (nI 0), μ1.2)
              refine V_iincN (n := 1) (ls' := [(0, .ref 65), (1, .ref 1), (2, .int (nI 3))]) hX dX5_settle_46 2 rfl (by decide) rfl ?_
              refine V_goto (tgt := 23) hX dX5_settle_49 (by decide) ?_
              refine V_iload_n hX dX5_settle_23 2 rfl ?_
              refine V_iconst (v := nI 3) hX dX5_settle_24 (by decide) ?_
              refine V_icmp_geN (tgt := 52) hX dX5_settle_25 (by decide) (by omega) (by omega) (fun c25 => ?_) (fun c25 => ?_)
              · refine V_aload_n hX dX5_settle_52 0 rfl ?_
                refine V_bipush (v := (-6)) hX dX5_settle_53 (by decide) ?_
                refine V_puti hX fX5_15 fw_4_1 rfl dX5_settle_55 ?_
                show V G 3 X 58 [(0, .ref 65), (1, .ref 1), (2, .int (nI 3))] [] (vup (vup (vup (vup μ1.1 66 0 (nI (popN (P 0 4) 8))) 66 1 (nI 0)) 66 2 (nI 0)) 65 1 (-6), μ1.2)
                refine V_iconst (v := nI 1) hX dX5_settle_58 (by decide) ?_
                refine V_istore_n (ls' := [(0, .ref 65), (1, .ref 1), (2, .int (nI 1))]) hX dX5_settle_59 (by decide) rfl ?_
                refine lpC_set2 (μ := μ) hX hR hP hok hQ 99 0 (fun _ => 0) _ rfl (fun _ => by decide) (fun b b1 b2 b3 => ?_) ⟨fun g hg => ?_, fun c hc => ?_⟩ rfl rfl
                · dsimp only; rw [vup_row _ _ _ b1, vup_row _ _ _ b2, vup_row _ _ _ b2, vup_row _ _ _ b2]; exact hV b b1 b2 b3
                · exact hz g hg
                · rcases (by omega : c = 0 ∨ c = 1 ∨ c = 2) with e | e | e <;> subst e
                  · rw [cr_zero]; rfl
                  · rw [cr_else (by decide)]; rfl
                  · rw [cr_else (by decide)]; rfl
              · exact absurd c25 (by decide)
            · exact absurd c34 (by decide)
        · exact absurd c34 (by decide)
theorem c012 {c : Int32} (h : ¬ (c < -1 ∨ nI 2 < c)) (g : ¬ c = -1) : ∃ b, b < 3 ∧ c = nI b := by
  have h1 : ¬ c < -1 := fun z => h (Or.inl z)
  have h2 : ¬ nI 2 < c := fun z => h (Or.inr z)
  have g1 := Int32.le_iff_toInt_le.mp (Int32.not_lt.mp h1)
  have e1 : (-1 : Int32).toInt = -1 := by decide
  rw [e1] at g1
  have hne : ¬ c.toInt = -1 := fun z => g (Int32.toInt_inj.mp (by rw [z, e1]))
  have h0 : ¬ c < 0 := fun z => by
    have := Int32.lt_iff_toInt_lt.mp z
    have e2 : (0 : Int32).toInt = 0 := by decide
    rw [e2] at this
    omega
  obtain ⟨b, hb, rfl⟩ := nI_of h0
  exact ⟨b, by have := (nI_leI hb (by decide)).mp (Int32.not_lt.mp h2); omega, rfl⟩
set_option maxRecDepth 100000 in
set_option maxHeartbeats 4000000 in
theorem kC_parishes {G : VG} {d : Nat} {μ : VS} {Q : Option Value → VS → Prop} {P : PC} {L : Nat} {S κ : Nat → Nat} {I : Nat → PC} {c_ : Int32} (hRC : RC μ P L S κ I) (hok : okP P) (hpd : okPad L S) (hQ : ∀ μ', RC μ' P L S κ I → keepM μ μ' → Q (some (.int (parS P c_))) μ') : Call G (d + 4) yX8_parishes cX8_parishes 2 (some .int) [.ref 0, .int c_] μ Q := by
  intro X hX hR
  have hP := hRC.1
  have hL := hRC.2.1
  have hS := hpd.2
  have hL60 := hpd.1
  have hP4 := hok.2.2.2.2.1
  show V G 2 X 0 [(0, .ref 0), (1, .int c_)] [] μ
  refine V_iload_n hX dX8_parishes_0 1 rfl ?_
  refine V_iconst (v := (-1)) hX dX8_parishes_1 (by decide) ?_
  refine V_iconst (v := nI 2) hX dX8_parishes_2 (by decide) ?_
  refine V_callS (As := [.int c_, .int (-1), .int (nI 2)]) (st := []) hX mX8_73 (k_isOutside ?_) rfl (Nat.le_of_ble_eq_true rfl) (Nat.le_of_ble_eq_true rfl) dX8_parishes_3
  show V G 2 X 6 [(0, .ref 0), (1, .int c_)] [.int (bI (c_ < (-1) ∨ nI 2 < c_))] μ
  refine V_if_eqB (tgt := 12) hX dX8_parishes_6 (by decide) (fun c6 => ?_) (fun c6 => ?_)
  · refine V_aload_n hX dX8_parishes_12 0 rfl ?_
    refine V_getr (j := 65) hX fX8_64 rfl rfl dX8_parishes_13 ?_
    refine V_aload_n hX dX8_parishes_16 0 rfl ?_
    refine V_getr (j := 1) hX fX8_10 rfl rfl dX8_parishes_17 ?_
    refine V_callV (As := [.ref 1]) (st := []) hX mX8_234 rfl (k_settle hP hok (fun μ2 f2 v2 r2 => ?_)) rfl (Nat.le_of_ble_eq_true rfl) (Nat.le_of_ble_eq_true rfl) dX8_parishes_20
    show V G 2 X 23 [(0, .ref 0), (1, .int c_)] [] μ2
    have hRC2 : RC μ2 P L S κ I := hRC.frame (fun a ha => f2 a (by omega) (by omega) (by omega))
    have hkM : keepM μ μ2 := fun a ha => f2 a (by omega) (by omega) (by omega)
    refine V_iload_n hX dX8_parishes_23 1 rfl ?_
    refine V_iconst (v := (-1)) hX dX8_parishes_24 (by decide) ?_
    refine V_icmp_ne (tgt := 38) hX dX8_parishes_25 (by decide) (fun c25 => ?_) (fun c25 => ?_)
    · obtain ⟨b_, hb, rfl⟩ := c012 c6 c25
      refine V_aload_n hX dX8_parishes_38 0 rfl ?_
      refine V_getr (j := 65) hX fX8_64 rfl rfl dX8_parishes_39 ?_
      refine V_getr (j := 66) hX fX8_241 rfl rfl dX8_parishes_42 ?_
      refine V_iload_n hX dX8_parishes_45 1 rfl ?_
      refine V_ialdN (x := nI (crN P (paR P 99 0 (fun _ => 0)).2 b_)) hX rfl (by omega) (by decide) (v2.2 _ (by omega)) dX8_parishes_46 ?_
      refine V_iret hX rfl dX8_parishes_47 ?_
      have h9 := hQ μ2
      rw [show parS P (nI b_) = _ from (if_pos (in_of_not_out c6)).trans (if_neg c25), nI_clamp (by omega)] at h9
      exact hR _ _ (h9 hRC2 hkM)
    · refine V_aload_n hX dX8_parishes_28 0 rfl ?_
      refine V_getr (j := 65) hX fX8_64 rfl rfl dX8_parishes_29 ?_
      refine V_getN (x := (paR P 99 0 (fun _ => 0)).1) hX fX8_238 rfl r2 dX8_parishes_32 ?_
      refine V_goto (tgt := 47) hX dX8_parishes_35 (by decide) ?_
      refine V_iret hX rfl dX8_parishes_47 ?_
      have h9 := hQ μ2
      rw [show parS P c_ = _ from (if_pos (in_of_not_out c6)).trans (if_pos c25)] at h9
      exact hR _ _ (h9 hRC2 hkM)
  · refine V_bipush (v := (-2)) hX dX8_parishes_9 (by decide) ?_
    refine V_iret hX rfl dX8_parishes_11 ?_
    have h9 := hQ μ
    rw [show parS P c_ = -2 from if_neg (not_in_of_out c6)] at h9
    exact hR _ _ (h9 hRC (keepM.rf μ))
