/-! what the questions of a sermon answer -/
abbrev uAt (P : PC) (S : Nat → Nat) (m : Nat) : MW := mwR P S noC (mw0 P) m
abbrev lAt (P : PC) (S : Nat → Nat) (m : Nat) : Nat → Nat := mwL1 P (S m) false (uAt P S m)
abbrev inM (m : Int32) (L : Nat) : Prop := nI 0 ≤ m ∧ m ≤ nI L - nI 1
theorem sub1_z {L : Nat} : nI L - nI 1 = zI ((L : Int) - 1) := by rw [zI_nat, zI_nat, zI_sub]; rfl
theorem inM_nat {m : Int32} {L : Nat} (hL : L ≤ 1000) (h : inM m L) : ∃ j, j < L ∧ m = nI j := by
  obtain ⟨h1, h2⟩ := h
  have h0 : ¬ m < 0 := Int32.not_lt.mpr h1
  obtain ⟨j, hj, rfl⟩ := nI_of h0
  refine ⟨j, ?_, rfl⟩
  rw [sub1_z] at h2
  have h3 := Int32.le_iff_toInt_le.mp h2
  rw [nI_toInt hj, zI_toInt (by omega) (by omega)] at h3
  omega
theorem nat_inM {j L : Nat} (hL : L ≤ 1000) (h : j < L) : inM (nI j) L := by
  refine ⟨nI_le (Nat.zero_le _) (by omega), ?_⟩
  rw [sub1_z]
  apply Int32.le_iff_toInt_le.mpr
  rw [nI_toInt (by omega), zI_toInt (by omega) (by omega)]
  omega
def tix (w : Nat) : Nat := match w with
  | 0 => 7
  | 1 => 8
  | 2 => 9
  | 3 => 10
  | _ => 12
def heardV (P : PC) (S : Nat → Nat) (h m w : Nat) : Int32 := if w = 0 then nI ((uAt P S (m + 1)).1 h) else if w = 1 then bI (nodF P (lAt P S m) h = true) else if w = 2 then bI (agrF P (S m) (lAt P S m) h = true) else bI (snoF P (nodF P (lAt P S m)) h = true)
def heardS (P : PC) (L : Nat) (S : Nat → Nat) (h m w : Int32) : Int32 := if thr P h then (if inZ w 0 3 then (if fltU S L = -6 then (if inM m L then heardV P S h.toNatClampNeg m.toNatClampNeg w.toNatClampNeg else -2) else -5) else -2) else -1
def sumS (P : PC) (L : Nat) (S : Nat → Nat) (m w : Int32) : Int32 := if inZ w 0 4 then (if fltU S L = -6 then (if m = -1 then nI ((uAt P S L).2.2.2 (tix w.toNatClampNeg)) else if inM m L then nI ((uAt P S (m.toNatClampNeg + 1)).2.2.2 (tix w.toNatClampNeg)) else -2) else -5) else -2
def fstU (f : Nat → Bool) : Nat → Int32
  | 0 => -6
  | k + 1 => if fstU f k = -6 ∧ f k = true then nI k else fstU f k
theorem fst_none {f : Nat → Bool} : ∀ L, (∀ i, i < L → ¬ f i = true) → fstU f L = -6
  | 0, _ => rfl
  | L + 1, h => by
    unfold fstU
    rw [if_neg (fun z => h L (by omega) z.2)]
    exact fst_none L (fun i hi => h i (by omega))
theorem fst_at {f : Nat → Bool} {k : Nat} : ∀ L, k < L → L < 1000 → (∀ i, i < k → ¬ f i = true) → f k = true → fstU f L = nI k
  | L + 1, hk, hL, h, hn => by
    unfold fstU
    rcases Nat.lt_or_ge k L with q | q
    · have e := fst_at L q (by omega) h hn
      rw [e, if_neg (fun z => absurd z.1 (by
        intro z2
        have := nI_pos (n := k) (by omega)
        rw [z2] at this
        exact this (by decide)))]
    · obtain rfl : k = L := by omega
      rw [if_pos ⟨fst_none k h, hn⟩]
def evB (P : PC) (S : Nat → Nat) (w m : Nat) : Bool := if w = 0 then anyB (nodF P (lAt P S m)) 8 else anyB (snoF P (nodF P (lAt P S m))) 8
def firstS (P : PC) (L : Nat) (S : Nat → Nat) (w : Int32) : Int32 := if inZ w 0 1 then (if fltU S L = -6 then fstU (evB P S w.toNatClampNeg) L else -5) else -2
def gainI (u : MW) : Int32 := zI (10000 + (u.2.2.2 10 : Int) - u.2.2.2 9)
def gainS (P : PC) (L : Nat) (S : Nat → Nat) : Int32 := if fltU S L = -6 then gainI (uAt P S L) else -5
set_option maxRecDepth 100000 in
set_option maxHeartbeats 4000000 in
theorem k_gained {G : VG} {d : Nat} {μ : VS} {Q : Option Value → VS → Prop} {w_ : Nat} {u_ : MW} (hkw : vk w_ = (5, 0)) (hU : isW μ w_ u_) (hQ : Q (some (.int (gainI u_))) μ) : Call G d yX6_gained cX6_gained 1 (some .int) [.ref w_] μ Q := by
  intro X hX hR
  show V G 1 X 0 [(0, .ref w_)] [] μ
  refine V_sipush (v := nI 10000) hX dX6_gained_0 (by decide) ?_
  refine V_aload_n hX dX6_gained_3 0 rfl ?_
  refine V_getN (x := nI (u_.2.2.2 10)) hX fX6_43 hkw (hU.2.2.2 10 (by decide) (by decide)) dX6_gained_4 ?_
  refine V_iaddN hX dX6_gained_7 ?_
  refine V_aload_n hX dX6_gained_8 0 rfl ?_
  refine V_getN (x := nI (u_.2.2.2 9)) hX fX6_40 hkw (hU.2.2.2 9 (by decide) (by decide)) dX6_gained_9 ?_
  refine V_isub hX dX6_gained_12 ?_
  refine V_iret hX rfl dX6_gained_13 ?_
  exact hR _ _ (by rw [show (nI (10000 + (u_.2.2.2 10))) - (nI (u_.2.2.2 9)) = gainI u_ from by unfold gainI; rw [zI_nat, zI_nat, zI_sub]; congr 1]; exact hQ)
set_option maxRecDepth 100000 in
set_option maxHeartbeats 4000000 in
theorem k_total0 {G : VG} {d : Nat} {μ : VS} {Q : Option Value → VS → Prop} {w_ : Nat} {u_ : MW} (hkw : vk w_ = (5, 0)) (hU : isW μ w_ u_) (hQ : Q (some (.int (nI (u_.2.2.2 (tix 0))))) μ) : Call G d yX6_total cX6_total 2 (some .int) [.ref w_, .int (nI 0)] μ Q := by
  intro X hX hR
  show V G 2 X 0 [(0, .ref w_), (1, .int (nI 0))] [] μ
  refine V_iload_n hX dX6_total_0 1 rfl ?_
  refine V_tableIn (x := nI 0) (off := 31) (tgt := 32) hX dX6_total_1 (by decide) (by decide) (by decide) (by decide) ?_
  refine V_aload_n hX dX6_total_32 0 rfl ?_
  refine V_getN (x := nI (u_.2.2.2 7)) hX fX6_34 hkw (hU.2.2.2 7 (by decide) (by decide)) dX6_total_33 ?_
  refine V_iret hX rfl dX6_total_36 ?_
  exact hR _ _ hQ
set_option maxRecDepth 100000 in
set_option maxHeartbeats 4000000 in
theorem k_total1 {G : VG} {d : Nat} {μ : VS} {Q : Option Value → VS → Prop} {w_ : Nat} {u_ : MW} (hkw : vk w_ = (5, 0)) (hU : isW μ w_ u_) (hQ : Q (some (.int (nI (u_.2.2.2 (tix 1))))) μ) : Call G d yX6_total cX6_total 2 (some .int) [.ref w_, .int (nI 1)] μ Q := by
  intro X hX hR
  show V G 2 X 0 [(0, .ref w_), (1, .int (nI 1))] [] μ
  refine V_iload_n hX dX6_total_0 1 rfl ?_
  refine V_tableIn (x := nI 1) (off := 36) (tgt := 37) hX dX6_total_1 (by decide) (by decide) (by decide) (by decide) ?_
  refine V_aload_n hX dX6_total_37 0 rfl ?_
  refine V_getN (x := nI (u_.2.2.2 8)) hX fX6_37 hkw (hU.2.2.2 8 (by decide) (by decide)) dX6_total_38 ?_
  refine V_iret hX rfl dX6_total_41 ?_
  exact hR _ _ hQ
set_option maxRecDepth 100000 in
set_option maxHeartbeats 4000000 in
theorem k_total2 {G : VG} {d : Nat} {μ : VS} {Q : Option Value → VS → Prop} {w_ : Nat} {u_ : MW} (hkw : vk w_ = (5, 0)) (hU : isW μ w_ u_) (hQ : Q (some (.int (nI (u_.2.2.2 (tix 2))))) μ) : Call G d yX6_total cX6_total 2 (some .int) [.ref w_, .int (nI 2)] μ Q := by
  intro X hX hR
  show V G 2 X 0 [(0, .ref w_), (1, .int (nI 2))] [] μ
  refine V_iload_n hX dX6_total_0 1 rfl ?_
  refine V_tableIn (x := nI 2) (off := 41) (tgt := 42) hX dX6_total_1 (by decide) (by decide) (by decide) (by decide) ?_
  refine V_aload_n hX dX6_total_42 0 rfl ?_
  refine V_getN (x := nI (u_.2.2.2 9)) hX fX6_40 hkw (hU.2.2.2 9 (by decide) (by decide)) dX6_total_43 ?_
  refine V_iret hX rfl dX6_total_46 ?_
  exact hR _ _ hQ
set_option maxRecDepth 100000 in
set_option maxHeartbeats 4000000 in
theorem k_total3 {G : VG} {d : Nat} {μ : VS} {Q : Option Value → VS → Prop} {w_ : Nat} {u_ : MW} (hkw : vk w_ = (5, 0)) (hU : isW μ w_ u_) (hQ : Q (some (.int (nI (u_.2.2.2 (tix 3))))) μ) : Call G d yX6_total cX6_total 2 (some .int) [.ref w_, .int (nI 3)] μ Q := by
  intro X hX hR
  show V G 2 X 0 [(0, .ref w_), (1, .int (nI 3))] [] μ
  refine V_iload_n hX dX6_total_0 1 rfl ?_
  refine V_tableIn (x := nI 3) (off := 46) (tgt := 47) hX dX6_total_1 (by decide) (by decide) (by decide) (by decide) ?_
  refine V_aload_n hX dX6_total_47 0 rfl ?_
  refine V_getN (x := nI (u_.2.2.2 10)) hX fX6_43 hkw (hU.2.2.2 10 (by decide) (by decide)) dX6_total_48 ?_
  refine V_iret hX rfl dX6_total_51 ?_
  exact hR _ _ hQ
set_option maxRecDepth 100000 in
set_option maxHeartbeats 4000000 in
theorem k_total4 {G : VG} {d : Nat} {μ : VS} {Q : Option Value → VS → Prop} {w_ : Nat} {u_ : MW} (hkw : vk w_ = (5, 0)) (hU : isW μ w_ u_) (hQ : Q (some (.int (nI (u_.2.2.2 (tix 4))))) μ) : Call G d yX6_total cX6_total 2 (some .int) [.ref w_, .int (nI 4)] μ Q := by
  intro X hX hR
  show V G 2 X 0 [(0, .ref w_), (1, .int (nI 4))] [] μ
  refine V_iload_n hX dX6_total_0 1 rfl ?_
  refine V_tableOut (x := nI 4) (tgt := 52) hX dX6_total_1 (by decide) (by decide) ?_
  refine V_aload_n hX dX6_total_52 0 rfl ?_
  refine V_getN (x := nI (u_.2.2.2 12)) hX fX6_49 hkw (hU.2.2.2 12 (by decide) (by decide)) dX6_total_53 ?_
  refine V_iret hX rfl dX6_total_56 ?_
  exact hR _ _ hQ
theorem k_total {G : VG} {d : Nat} {μ : VS} {Q : Option Value → VS → Prop} {w_ j_ : Nat} {u_ : MW} (hj : j_ ≤ 4) (hkw : vk w_ = (5, 0)) (hU : isW μ w_ u_) (hQ : Q (some (.int (nI (u_.2.2.2 (tix j_))))) μ) : Call G d yX6_total cX6_total 2 (some .int) [.ref w_, .int (nI j_)] μ Q := by
  match j_, hj with
  | 0, _ => exact k_total0 hkw hU hQ
  | 1, _ => exact k_total1 hkw hU hQ
  | 2, _ => exact k_total2 hkw hU hQ
  | 3, _ => exact k_total3 hkw hU hQ
  | 4, _ => exact k_total4 hkw hU hQ
set_option maxRecDepth 100000 in
set_option maxHeartbeats 4000000 in
theorem k_didHe1 {G : VG} {d : Nat} {μ : VS} {Q : Option Value → VS → Prop} {w_ h_ sg_ : Nat} {P : PC} {l_ : Nat → Nat} (hkw : vk w_ = (5, 0)) (hok : okP P) (hK : isK μ w_ P sg_ l_) (hh : h_ < 8) (hp : pPres P h_ = true) (hQ : Q (some (.int (bI (nodF P l_ h_ = true)))) μ) : Call G d yX6_didHe cX6_didHe 4 (some .int) [.ref w_, .int (nI 1), .int (nI (P 1 h_))] μ Q := by
  intro X hX hR
  have h12 : ∀ h, h < 8 → P 1 h < 12 := fun h hh => (hok.2.2.2.2.2.2.2.1 h hh).1
  have hinj := hok.2.2.2.2.2.2.2.2.2.2
  show V G 4 X 0 [(0, .ref w_), (1, .int (nI 1)), (2, .int (nI (P 1 h_)))] [] μ
  refine V_iload_n hX dX6_didHe_0 1 rfl ?_
  refine V_iconst (v := nI 1) hX dX6_didHe_1 (by decide) ?_
  refine V_icmp_neN (tgt := 12) hX dX6_didHe_2 (by decide) (by first | omega | (have := sm_lt12 h12 (nodF P l_) (n := 8) (by decide); omega) | (have := h12 h_ hh; omega)) (by first | omega | (have := sm_lt12 h12 (nodF P l_) (n := 8) (by decide); omega) | (have := h12 h_ hh; omega)) (fun c2 => ?_) (fun c2 => ?_)
  · exact absurd c2 (by decide)
  · refine V_aload_n hX dX6_didHe_5 0 rfl ?_
    refine V_getN (x := nI (sm (P 1) (nodF P l_) 8)) hX fX6_25 hkw hK.2.1 dX6_didHe_6 ?_
    refine V_goto (tgt := 28) hX dX6_didHe_9 (by decide) ?_
    refine V_istore_n (ls' := [(0, .ref w_), (1, .int (nI 1)), (2, .int (nI (P 1 h_))), (3, .int (nI (sm (P 1) (nodF P l_) 8)))]) hX dX6_didHe_28 (by decide) rfl ?_
    refine V_iload_n hX dX6_didHe_29 3 rfl ?_
    refine V_iload_n hX dX6_didHe_30 2 rfl ?_
    refine V_ishrN hX dX6_didHe_31 (by first | omega | (have := sm_lt12 h12 (nodF P l_) (n := 8) (by decide); omega) | (have := h12 h_ hh; omega)) (by first | omega | (have := sm_lt12 h12 (nodF P l_) (n := 8) (by decide); omega) | (have := h12 h_ hh; omega)) ?_
    refine V_iconst (v := nI 1) hX dX6_didHe_32 (by decide) ?_
    refine V_iandN hX dX6_didHe_33 ?_
    refine V_iret hX rfl dX6_didHe_34 ?_
    exact hR _ _ (by rw [shr_bI, sm_at (e := pPres P) hinj (fun _ _ => nod_pres) hh hp]; exact hQ)
set_option maxRecDepth 100000 in
set_option maxHeartbeats 4000000 in
theorem k_didHe2 {G : VG} {d : Nat} {μ : VS} {Q : Option Value → VS → Prop} {w_ h_ sg_ : Nat} {P : PC} {l_ : Nat → Nat} (hkw : vk w_ = (5, 0)) (hok : okP P) (hK : isK μ w_ P sg_ l_) (hh : h_ < 8) (hp : pPres P h_ = true) (hQ : Q (some (.int (bI (agrF P sg_ l_ h_ = true)))) μ) : Call G d yX6_didHe cX6_didHe 4 (some .int) [.ref w_, .int (nI 2), .int (nI (P 1 h_))] μ Q := by
  intro X hX hR
  have h12 : ∀ h, h < 8 → P 1 h < 12 := fun h hh => (hok.2.2.2.2.2.2.2.1 h hh).1
  have hinj := hok.2.2.2.2.2.2.2.2.2.2
  show V G 4 X 0 [(0, .ref w_), (1, .int (nI 2)), (2, .int (nI (P 1 h_)))] [] μ
  refine V_iload_n hX dX6_didHe_0 1 rfl ?_
  refine V_iconst (v := nI 1) hX dX6_didHe_1 (by decide) ?_
  refine V_icmp_neN (tgt := 12) hX dX6_didHe_2 (by decide) (by first | omega | (have := sm_lt12 h12 (agrF P sg_ l_) (n := 8) (by decide); omega) | (have := h12 h_ hh; omega)) (by first | omega | (have := sm_lt12 h12 (agrF P sg_ l_) (n := 8) (by decide); omega) | (have := h12 h_ hh; omega)) (fun c2 => ?_) (fun c2 => ?_)
  · refine V_iload_n hX dX6_didHe_12 1 rfl ?_
    refine V_iconst (v := nI 2) hX dX6_didHe_13 (by decide) ?_
    refine V_icmp_neN (tgt := 24) hX dX6_didHe_14 (by decide) (by first | omega | (have := sm_lt12 h12 (agrF P sg_ l_) (n := 8) (by decide); omega) | (have := h12 h_ hh; omega)) (by first | omega | (have := sm_lt12 h12 (agrF P sg_ l_) (n := 8) (by decide); omega) | (have := h12 h_ hh; omega)) (fun c14 => ?_) (fun c14 => ?_)
    · exact absurd c14 (by decide)
    · refine V_aload_n hX dX6_didHe_17 0 rfl ?_
      refine V_getN (x := nI (sm (P 1) (agrF P sg_ l_) 8)) hX fX6_28 hkw hK.2.2.1 dX6_didHe_18 ?_
      refine V_goto (tgt := 28) hX dX6_didHe_21 (by decide) ?_
      refine V_istore_n (ls' := [(0, .ref w_), (1, .int (nI 2)), (2, .int (nI (P 1 h_))), (3, .int (nI (sm (P 1) (agrF P sg_ l_) 8)))]) hX dX6_didHe_28 (by decide) rfl ?_
      refine V_iload_n hX dX6_didHe_29 3 rfl ?_
      refine V_iload_n hX dX6_didHe_30 2 rfl ?_
      refine V_ishrN hX dX6_didHe_31 (by first | omega | (have := sm_lt12 h12 (agrF P sg_ l_) (n := 8) (by decide); omega) | (have := h12 h_ hh; omega)) (by first | omega | (have := sm_lt12 h12 (agrF P sg_ l_) (n := 8) (by decide); omega) | (have := h12 h_ hh; omega)) ?_
      refine V_iconst (v := nI 1) hX dX6_didHe_32 (by decide) ?_
      refine V_iandN hX dX6_didHe_33 ?_
      refine V_iret hX rfl dX6_didHe_34 ?_
      exact hR _ _ (by rw [shr_bI, sm_at (e := pPres P) hinj (fun _ _ => agr_pres) hh hp]; exact hQ)
  · exact absurd c2 (by decide)
set_option maxRecDepth 100000 in
set_option maxHeartbeats 4000000 in
theorem k_didHe3 {G : VG} {d : Nat} {μ : VS} {Q : Option Value → VS → Prop} {w_ h_ sg_ : Nat} {P : PC} {l_ : Nat → Nat} (hkw : vk w_ = (5, 0)) (hok : okP P) (hK : isK μ w_ P sg_ l_) (hh : h_ < 8) (hp : pPres P h_ = true) (hQ : Q (some (.int (bI (snoF P (nodF P l_) h_ = true)))) μ) : Call G d yX6_didHe cX6_didHe 4 (some .int) [.ref w_, .int (nI 3), .int (nI (P 1 h_))] μ Q := by
  intro X hX hR
  have h12 : ∀ h, h < 8 → P 1 h < 12 := fun h hh => (hok.2.2.2.2.2.2.2.1 h hh).1
  have hinj := hok.2.2.2.2.2.2.2.2.2.2
  show V G 4 X 0 [(0, .ref w_), (1, .int (nI 3)), (2, .int (nI (P 1 h_)))] [] μ
  refine V_iload_n hX dX6_didHe_0 1 rfl ?_
  refine V_iconst (v := nI 1) hX dX6_didHe_1 (by decide) ?_
  refine V_icmp_neN (tgt := 12) hX dX6_didHe_2 (by decide) (by first | omega | (have := sm_lt12 h12 (snoF P (nodF P l_)) (n := 8) (by decide); omega) | (have := h12 h_ hh; omega)) (by first | omega | (have := sm_lt12 h12 (snoF P (nodF P l_)) (n := 8) (by decide); omega) | (have := h12 h_ hh; omega)) (fun c2 => ?_) (fun c2 => ?_)
  · refine V_iload_n hX dX6_didHe_12 1 rfl ?_
    refine V_iconst (v := nI 2) hX dX6_didHe_13 (by decide) ?_
    refine V_icmp_neN (tgt := 24) hX dX6_didHe_14 (by decide) (by first | omega | (have := sm_lt12 h12 (snoF P (nodF P l_)) (n := 8) (by decide); omega) | (have := h12 h_ hh; omega)) (by first | omega | (have := sm_lt12 h12 (snoF P (nodF P l_)) (n := 8) (by decide); omega) | (have := h12 h_ hh; omega)) (fun c14 => ?_) (fun c14 => ?_)
    · refine V_aload_n hX dX6_didHe_24 0 rfl ?_
      refine V_getN (x := nI (sm (P 1) (snoF P (nodF P l_)) 8)) hX fX6_31 hkw hK.2.2.2 dX6_didHe_25 ?_
      refine V_istore_n (ls' := [(0, .ref w_), (1, .int (nI 3)), (2, .int (nI (P 1 h_))), (3, .int (nI (sm (P 1) (snoF P (nodF P l_)) 8)))]) hX dX6_didHe_28 (by decide) rfl ?_
      refine V_iload_n hX dX6_didHe_29 3 rfl ?_
      refine V_iload_n hX dX6_didHe_30 2 rfl ?_
      refine V_ishrN hX dX6_didHe_31 (by first | omega | (have := sm_lt12 h12 (snoF P (nodF P l_)) (n := 8) (by decide); omega) | (have := h12 h_ hh; omega)) (by first | omega | (have := sm_lt12 h12 (snoF P (nodF P l_)) (n := 8) (by decide); omega) | (have := h12 h_ hh; omega)) ?_
      refine V_iconst (v := nI 1) hX dX6_didHe_32 (by decide) ?_
      refine V_iandN hX dX6_didHe_33 ?_
      refine V_iret hX rfl dX6_didHe_34 ?_
      exact hR _ _ (by rw [shr_bI, sm_at (e := pPres P) hinj sno_pres hh hp]; exact hQ)
    · exact absurd c14 (by decide)
  · exact absurd c2 (by decide)
set_option maxRecDepth 100000 in
set_option maxHeartbeats 4000000 in
theorem kC_gain {G : VG} {d : Nat} {μ : VS} {Q : Option Value → VS → Prop} {P : PC} {L : Nat} {S κ : Nat → Nat} {I : Nat → PC} (hRC : RC μ P L S κ I) (hok : okP P) (hpd : okPad L S) (hQ : ∀ μ', RC μ' P L S κ I → keepM μ μ' → Q (some (.int (gainS P L S))) μ') : Call G (d + 6) yX8_gain cX8_gain 1 (some .int) [.ref 0] μ Q := by
  intro X hX hR
  have hP := hRC.1
  have hL := hRC.2.1
  have hS := hpd.2
  have hL60 := hpd.1
  have hP4 := hok.2.2.2.2.1
  show V G 1 X 0 [(0, .ref 0)] [] μ
  refine V_aload_n hX dX8_gain_0 0 rfl ?_
  refine V_getr (j := 31) hX fX8_30 rfl rfl dX8_gain_1 ?_
  refine V_callV (As := []) (st := []) hX mX8_137 rfl (kC_hasFault hL hS hL60 ?_) rfl (Nat.le_of_ble_eq_true rfl) (Nat.le_of_ble_eq_true rfl) dX8_gain_4
  show V G 1 X 7 [(0, .ref 0)] [.int (bI (¬ fltU S L = -6))] μ
  refine V_if_eqB (tgt := 15) hX dX8_gain_7 (by decide) (fun c7 => ?_) (fun c7 => ?_)
  · refine V_aload_n hX dX8_gain_15 0 rfl ?_
    refine V_aload_n hX dX8_gain_16 0 rfl ?_
    refine V_getr (j := 31) hX fX8_30 rfl rfl dX8_gain_17 ?_
    refine V_getN (x := nI L) hX fX8_128 rfl hL.1 dX8_gain_20 ?_
    refine V_callV (As := [.int (nI L)]) (st := []) hX mX8_141 rfl (k_goneThrough hP hok hL hS hL60 (by omega) (fun μ2 a2 b2 k2 d2 => ?_)) rfl (Nat.le_of_ble_eq_true rfl) (Nat.le_of_ble_eq_true rfl) dX8_gain_23
    show V G 1 X 26 [(0, .ref 0)] [.ref 34] μ2
    have hRC2 : RC μ2 P L S κ I := hRC.frame (fun a ha => a2 a (by omega) (by omega))
    have hkM : keepM μ μ2 := fun a ha => a2 a (by omega) (by omega)
    refine V_callV (As := []) (st := []) hX mX8_165 rfl (k_gained rfl b2 ?_) rfl (Nat.le_of_ble_eq_true rfl) (Nat.le_of_ble_eq_true rfl) dX8_gain_26
    show V G 1 X 29 [(0, .ref 0)] [.int (gainI (uAt P S L))] μ2
    refine V_iret hX rfl dX8_gain_29 ?_
    have h9 := hQ μ2
    rw [show gainS P L S = _ from if_pos (Decidable.not_not.mp c7)] at h9
    exact hR _ _ (h9 hRC2 hkM)
  · refine V_bipush (v := (-5)) hX dX8_gain_10 (by decide) ?_
    refine V_goto (tgt := 29) hX dX8_gain_12 (by decide) ?_
    refine V_iret hX rfl dX8_gain_29 ?_
    have h9 := hQ μ
    rw [show gainS P L S = -5 from if_neg c7] at h9
    exact hR _ _ (h9 hRC (keepM.rf μ))
theorem out_m1 {m : Int32} {L : Nat} (hL : L ≤ 1000) (h : m < -1 ∨ nI L - nI 1 < m) : ¬ m = -1 ∧ ¬ inM m L := by
  rcases h with h | h
  · refine ⟨fun e => ?_, fun z => ?_⟩
    · rw [e] at h; exact absurd h (by decide)
    · have h1 := Int32.lt_iff_toInt_lt.mp h
      have h2 := Int32.le_iff_toInt_le.mp z.1
      have e1 : (-1 : Int32).toInt = -1 := by decide
      have e2 : (nI 0).toInt = 0 := by decide
      rw [e1] at h1
      rw [e2] at h2
      omega
  · refine ⟨fun e => ?_, fun z => absurd z.2 (Int32.not_le.mpr h)⟩
    rw [e, sub1_z] at h
    have := Int32.lt_iff_toInt_lt.mp h
    rw [zI_toInt (by omega) (by omega)] at this
    have e1 : (-1 : Int32).toInt = -1 := by decide
    rw [e1] at this
    omega
theorem in_m1 {m : Int32} {L : Nat} (h : ¬ (m < -1 ∨ nI L - nI 1 < m)) (hm : ¬ m = -1) : inM m L := by
  have h1 : ¬ m < -1 := fun z => h (Or.inl z)
  have h2 : ¬ nI L - nI 1 < m := fun z => h (Or.inr z)
  refine ⟨?_, Int32.not_lt.mp h2⟩
  have g1 := Int32.le_iff_toInt_le.mp (Int32.not_lt.mp h1)
  apply Int32.le_iff_toInt_le.mpr
  have e1 : (-1 : Int32).toInt = -1 := by decide
  have e2 : (nI 0).toInt = 0 := by decide
  rw [e1] at g1
  rw [e2]
  have hne : ¬ m.toInt = -1 := fun z => hm (Int32.toInt_inj.mp (by rw [z, e1]))
  omega
set_option maxRecDepth 100000 in
set_option maxHeartbeats 4000000 in
theorem kC_sum {G : VG} {d : Nat} {μ : VS} {Q : Option Value → VS → Prop} {P : PC} {L : Nat} {S κ : Nat → Nat} {I : Nat → PC} {m_ w_ : Int32} (hRC : RC μ P L S κ I) (hok : okP P) (hpd : okPad L S) (hQ : ∀ μ', RC μ' P L S κ I → keepM μ μ' → Q (some (.int (sumS P L S m_ w_))) μ') : Call G (d + 6) yX8_sum cX8_sum 3 (some .int) [.ref 0, .int m_, .int w_] μ Q := by
  intro X hX hR
  have hP := hRC.1
  have hL := hRC.2.1
  have hS := hpd.2
  have hL60 := hpd.1
  have hP4 := hok.2.2.2.2.1
  show V G 3 X 0 [(0, .ref 0), (1, .int m_), (2, .int w_)] [] μ
  refine V_iload_n hX dX8_sum_0 2 rfl ?_
  refine V_iconst (v := nI 0) hX dX8_sum_1 (by decide) ?_
  refine V_iconst (v := nI 4) hX dX8_sum_2 (by decide) ?_
  refine V_callS (As := [.int w_, .int (nI 0), .int (nI 4)]) (st := []) hX mX8_73 (k_isOutside ?_) rfl (Nat.le_of_ble_eq_true rfl) (Nat.le_of_ble_eq_true rfl) dX8_sum_3
  show V G 3 X 6 [(0, .ref 0), (1, .int m_), (2, .int w_)] [.int (bI (w_ < nI 0 ∨ nI 4 < w_))] μ
  refine V_if_eqB (tgt := 12) hX dX8_sum_6 (by decide) (fun c6 => ?_) (fun c6 => ?_)
  · obtain ⟨b_, hb0, hb7, rfl⟩ := nat_of_out (by decide) (by decide) c6
    refine V_aload_n hX dX8_sum_12 0 rfl ?_
    refine V_getr (j := 31) hX fX8_30 rfl rfl dX8_sum_13 ?_
    refine V_callV (As := []) (st := []) hX mX8_137 rfl (kC_hasFault hL hS hL60 ?_) rfl (Nat.le_of_ble_eq_true rfl) (Nat.le_of_ble_eq_true rfl) dX8_sum_16
    show V G 3 X 19 [(0, .ref 0), (1, .int m_), (2, .int (nI b_))] [.int (bI (¬ fltU S L = -6))] μ
    refine V_if_eqB (tgt := 25) hX dX8_sum_19 (by decide) (fun c19 => ?_) (fun c19 => ?_)
    · refine V_iload_n hX dX8_sum_25 1 rfl ?_
      refine V_iconst (v := (-1)) hX dX8_sum_26 (by decide) ?_
      refine V_aload_n hX dX8_sum_27 0 rfl ?_
      refine V_getr (j := 31) hX fX8_30 rfl rfl dX8_sum_28 ?_
      refine V_getN (x := nI L) hX fX8_128 rfl hL.1 dX8_sum_31 ?_
      refine V_iconst (v := nI 1) hX dX8_sum_34 (by decide) ?_
      refine V_isub hX dX8_sum_35 ?_
      refine V_callS (As := [.int m_, .int (-1), .int ((nI L) - (nI 1))]) (st := []) hX mX8_73 (k_isOutside ?_) rfl (Nat.le_of_ble_eq_true rfl) (Nat.le_of_ble_eq_true rfl) dX8_sum_36
      show V G 3 X 39 [(0, .ref 0), (1, .int m_), (2, .int (nI b_))] [.int (bI (m_ < (-1) ∨ (nI L) - (nI 1) < m_))] μ
      refine V_if_eqB (tgt := 45) hX dX8_sum_39 (by decide) (fun c39 => ?_) (fun c39 => ?_)
      · refine V_aload_n hX dX8_sum_45 0 rfl ?_
        refine V_iload_n hX dX8_sum_46 1 rfl ?_
        refine V_iconst (v := (-1)) hX dX8_sum_47 (by decide) ?_
        refine V_icmp_ne (tgt := 61) hX dX8_sum_48 (by decide) (fun c48 => ?_) (fun c48 => ?_)
        · obtain ⟨j_, hj_, rfl⟩ := inM_nat (by omega) (in_m1 c39 c48)
          refine V_iload_n hX dX8_sum_61 1 rfl ?_
          refine V_iconst (v := nI 1) hX dX8_sum_62 (by decide) ?_
          refine V_iaddN hX dX8_sum_63 ?_
          refine V_callV (As := [.int (nI (j_ + 1))]) (st := []) hX mX8_141 rfl (k_goneThrough hP hok hL hS hL60 (by omega) (fun μ2 a2 b2 k2 d2 => ?_)) rfl (Nat.le_of_ble_eq_true rfl) (Nat.le_of_ble_eq_true rfl) dX8_sum_64
          show V G 3 X 67 [(0, .ref 0), (1, .int (nI j_)), (2, .int (nI b_))] [.ref 34] μ2
          have hRC2 : RC μ2 P L S κ I := hRC.frame (fun a ha => a2 a (by omega) (by omega))
          have hkM : keepM μ μ2 := fun a ha => a2 a (by omega) (by omega)
          refine V_iload_n hX dX8_sum_67 2 rfl ?_
          refine V_callV (As := [.int (nI b_)]) (st := []) hX mX8_152 rfl (k_total (by omega) rfl b2 ?_) rfl (Nat.le_of_ble_eq_true rfl) (Nat.le_of_ble_eq_true rfl) dX8_sum_68
          show V G 3 X 71 [(0, .ref 0), (1, .int (nI j_)), (2, .int (nI b_))] [.int (nI ((uAt P S (j_ + 1)).2.2.2 (tix b_)))] μ2
          refine V_iret hX rfl dX8_sum_71 ?_
          have h9 := hQ μ2
          rw [show sumS P L S (nI j_) (nI b_) = _ from (if_pos (in_of_not_out c6)).trans ((if_pos (Decidable.not_not.mp c19)).trans ((if_neg c48).trans (if_pos (in_m1 c39 c48))))] at h9
          rw [nI_clamp (by omega), nI_clamp (by omega)] at h9
          exact hR _ _ (h9 hRC2 hkM)
        · refine V_aload_n hX dX8_sum_51 0 rfl ?_
          refine V_getr (j := 31) hX fX8_30 rfl rfl dX8_sum_52 ?_
          refine V_getN (x := nI L) hX fX8_128 rfl hL.1 dX8_sum_55 ?_
          refine V_goto (tgt := 64) hX dX8_sum_58 (by decide) ?_
          refine V_callV (As := [.int (nI L)]) (st := []) hX mX8_141 rfl (k_goneThrough hP hok hL hS hL60 (by omega) (fun μ2 a2 b2 k2 d2 => ?_)) rfl (Nat.le_of_ble_eq_true rfl) (Nat.le_of_ble_eq_true rfl) dX8_sum_64
          show V G 3 X 67 [(0, .ref 0), (1, .int m_), (2, .int (nI b_))] [.ref 34] μ2
          have hRC2 : RC μ2 P L S κ I := hRC.frame (fun a ha => a2 a (by omega) (by omega))
          have hkM : keepM μ μ2 := fun a ha => a2 a (by omega) (by omega)
          refine V_iload_n hX dX8_sum_67 2 rfl ?_
          refine V_callV (As := [.int (nI b_)]) (st := []) hX mX8_152 rfl (k_total (by omega) rfl b2 ?_) rfl (Nat.le_of_ble_eq_true rfl) (Nat.le_of_ble_eq_true rfl) dX8_sum_68
          show V G 3 X 71 [(0, .ref 0), (1, .int m_), (2, .int (nI b_))] [.int (nI ((uAt P S L).2.2.2 (tix b_)))] μ2
          refine V_iret hX rfl dX8_sum_71 ?_
          have h9 := hQ μ2
          rw [show sumS P L S m_ (nI b_) = _ from (if_pos (in_of_not_out c6)).trans ((if_pos (Decidable.not_not.mp c19)).trans (if_pos c48))] at h9
          rw [nI_clamp (by omega)] at h9
          exact hR _ _ (h9 hRC2 hkM)
      · refine V_bipush (v := (-2)) hX dX8_sum_42 (by decide) ?_
        refine V_iret hX rfl dX8_sum_44 ?_
        have h9 := hQ μ
        rw [show sumS P L S m_ (nI b_) = -2 from (if_pos (in_of_not_out c6)).trans ((if_pos (Decidable.not_not.mp c19)).trans ((if_neg (out_m1 (by omega) c39).1).trans (if_neg (out_m1 (by omega) c39).2)))] at h9
        exact hR _ _ (h9 hRC (keepM.rf μ))
    · refine V_bipush (v := (-5)) hX dX8_sum_22 (by decide) ?_
      refine V_iret hX rfl dX8_sum_24 ?_
      have h9 := hQ μ
      rw [show sumS P L S m_ (nI b_) = -5 from (if_pos (in_of_not_out c6)).trans (if_neg c19)] at h9
      exact hR _ _ (h9 hRC (keepM.rf μ))
  · refine V_bipush (v := (-2)) hX dX8_sum_9 (by decide) ?_
    refine V_iret hX rfl dX8_sum_11 ?_
    have h9 := hQ μ
    rw [show sumS P L S m_ w_ = -2 from if_neg (not_in_of_out c6)] at h9
    exact hR _ _ (h9 hRC (keepM.rf μ))
theorem k_didHe {G : VG} {d : Nat} {μ : VS} {Q : Option Value → VS → Prop} {w_ h_ sg_ j_ : Nat} {P : PC} {l_ : Nat → Nat} (hj : 1 ≤ j_ ∧ j_ ≤ 3) (hkw : vk w_ = (5, 0)) (hok : okP P) (hK : isK μ w_ P sg_ l_) (hh : h_ < 8) (hp : pPres P h_ = true) (hQ : Q (some (.int (if j_ = 1 then bI (nodF P l_ h_ = true) else if j_ = 2 then bI (agrF P sg_ l_ h_ = true) else bI (snoF P (nodF P l_) h_ = true)))) μ) : Call G d yX6_didHe cX6_didHe 4 (some .int) [.ref w_, .int (nI j_), .int (nI (P 1 h_))] μ Q := by
  rcases (by omega : j_ = 1 ∨ j_ = 2 ∨ j_ = 3) with e | e | e <;> subst e
  · exact k_didHe1 hkw hok hK hh hp hQ
  · exact k_didHe2 hkw hok hK hh hp hQ
  · exact k_didHe3 hkw hok hK hh hp hQ
set_option maxRecDepth 100000 in
set_option maxHeartbeats 4000000 in
theorem kC_heard {G : VG} {d : Nat} {μ : VS} {Q : Option Value → VS → Prop} {P : PC} {L : Nat} {S κ : Nat → Nat} {I : Nat → PC} {h_ m_ w_ : Int32} (hRC : RC μ P L S κ I) (hok : okP P) (hpd : okPad L S) (hQ : ∀ μ', RC μ' P L S κ I → keepM μ μ' → Q (some (.int (heardS P L S h_ m_ w_))) μ') : Call G (d + 6) yX8_heard cX8_heard 5 (some .int) [.ref 0, .int h_, .int m_, .int w_] μ Q := by
  intro X hX hR
  have hP := hRC.1
  have hL := hRC.2.1
  have hS := hpd.2
  have hL60 := hpd.1
  have hP4 := hok.2.2.2.2.1
  show V G 5 X 0 [(0, .ref 0), (1, .int h_), (2, .int m_), (3, .int w_)] [] μ
  refine V_aload_n hX dX8_heard_0 0 rfl ?_
  refine V_getr (j := 1) hX fX8_10 rfl rfl dX8_heard_1 ?_
  refine V_iload_n hX dX8_heard_4 1 rfl ?_
  refine V_callV (As := [.int h_]) (st := []) hX mX8_115 rfl (kC_isThere rfl hP hP4 ?_) rfl (Nat.le_of_ble_eq_true rfl) (Nat.le_of_ble_eq_true rfl) dX8_heard_5
  show V G 5 X 8 [(0, .ref 0), (1, .int h_), (2, .int m_), (3, .int w_)] [.int (bI (thr P h_))] μ
  refine V_if_neB (tgt := 13) hX dX8_heard_8 (by decide) (fun c8 => ?_) (fun c8 => ?_)
  · obtain ⟨g_, hg7, rfl, hpg⟩ := thr_nat c8
    refine V_iload_n hX dX8_heard_13 3 rfl ?_
    refine V_iconst (v := nI 0) hX dX8_heard_14 (by decide) ?_
    refine V_iconst (v := nI 3) hX dX8_heard_15 (by decide) ?_
    refine V_callS (As := [.int w_, .int (nI 0), .int (nI 3)]) (st := []) hX mX8_73 (k_isOutside ?_) rfl (Nat.le_of_ble_eq_true rfl) (Nat.le_of_ble_eq_true rfl) dX8_heard_16
    show V G 5 X 19 [(0, .ref 0), (1, .int (nI g_)), (2, .int m_), (3, .int w_)] [.int (bI (w_ < nI 0 ∨ nI 3 < w_))] μ
    refine V_if_eqB (tgt := 25) hX dX8_heard_19 (by decide) (fun c19 => ?_) (fun c19 => ?_)
    · obtain ⟨b_, hb0, hb7, rfl⟩ := nat_of_out (by decide) (by decide) c19
      refine V_aload_n hX dX8_heard_25 0 rfl ?_
      refine V_getr (j := 31) hX fX8_30 rfl rfl dX8_heard_26 ?_
      refine V_callV (As := []) (st := []) hX mX8_137 rfl (kC_hasFault hL hS hL60 ?_) rfl (Nat.le_of_ble_eq_true rfl) (Nat.le_of_ble_eq_true rfl) dX8_heard_29
      show V G 5 X 32 [(0, .ref 0), (1, .int (nI g_)), (2, .int m_), (3, .int (nI b_))] [.int (bI (¬ fltU S L = -6))] μ
      refine V_if_eqB (tgt := 38) hX dX8_heard_32 (by decide) (fun c32 => ?_) (fun c32 => ?_)
      · refine V_iload_n hX dX8_heard_38 2 rfl ?_
        refine V_iconst (v := nI 0) hX dX8_heard_39 (by decide) ?_
        refine V_aload_n hX dX8_heard_40 0 rfl ?_
        refine V_getr (j := 31) hX fX8_30 rfl rfl dX8_heard_41 ?_
        refine V_getN (x := nI L) hX fX8_128 rfl hL.1 dX8_heard_44 ?_
        refine V_iconst (v := nI 1) hX dX8_heard_47 (by decide) ?_
        refine V_isub hX dX8_heard_48 ?_
        refine V_callS (As := [.int m_, .int (nI 0), .int ((nI L) - (nI 1))]) (st := []) hX mX8_73 (k_isOutside ?_) rfl (Nat.le_of_ble_eq_true rfl) (Nat.le_of_ble_eq_true rfl) dX8_heard_49
        show V G 5 X 52 [(0, .ref 0), (1, .int (nI g_)), (2, .int m_), (3, .int (nI b_))] [.int (bI (m_ < nI 0 ∨ (nI L) - (nI 1) < m_))] μ
        refine V_if_eqB (tgt := 58) hX dX8_heard_52 (by decide) (fun c52 => ?_) (fun c52 => ?_)
        · obtain ⟨j_, hj_, rfl⟩ := inM_nat (by omega) (in_of_not_out c52)
          refine V_aload_n hX dX8_heard_58 0 rfl ?_
          refine V_iload_n hX dX8_heard_59 2 rfl ?_
          refine V_iconst (v := nI 1) hX dX8_heard_60 (by decide) ?_
          refine V_iaddN hX dX8_heard_61 ?_
          refine V_callV (As := [.int (nI (j_ + 1))]) (st := []) hX mX8_141 rfl (k_goneThrough hP hok hL hS hL60 (by omega) (fun μ2 a2 b2 k2 d2 => ?_)) rfl (Nat.le_of_ble_eq_true rfl) (Nat.le_of_ble_eq_true rfl) dX8_heard_62
          show V G 5 X 65 [(0, .ref 0), (1, .int (nI g_)), (2, .int (nI j_)), (3, .int (nI b_))] [.ref 34] μ2
          have hRC2 : RC μ2 P L S κ I := hRC.frame (fun a ha => a2 a (by omega) (by omega))
          have hkM : keepM μ μ2 := fun a ha => a2 a (by omega) (by omega)
          refine V_astore (ls' := [(0, .ref 0), (1, .int (nI g_)), (2, .int (nI j_)), (3, .int (nI b_)), (4, .ref 34)]) hX dX8_heard_65 (by decide) rfl ?_
          refine V_iload_n hX dX8_heard_67 3 rfl ?_
          refine V_if_neN (tgt := 81) hX dX8_heard_68 (by decide) (by omega) (fun c68 => ?_) (fun c68 => ?_)
          · refine V_aload hX dX8_heard_81 4 rfl ?_
            refine V_iload_n hX dX8_heard_83 3 rfl ?_
            refine V_aload_n hX dX8_heard_84 0 rfl ?_
            refine V_getr (j := 1) hX fX8_10 rfl rfl dX8_heard_85 ?_
            refine V_getr (j := 2) hX fX8_93 rfl rfl dX8_heard_88 ?_
            refine V_iload_n hX dX8_heard_91 1 rfl ?_
            refine V_ialdN (x := nI (P 1 g_)) hX rfl (by omega) (by decide) (hRC2.1.2 0 (by decide) _ (by omega)) dX8_heard_92 ?_
            refine V_callV (As := [.int (nI b_), .int (nI (P 1 g_))]) (st := []) hX mX8_148 rfl (k_didHe (sg_ := S j_) (l_ := lAt P S j_) (by omega) rfl hok (by have z := k2 (by omega); rw [show j_ + 1 - 1 = j_ by omega] at z; exact z) (by omega) hpg ?_) rfl (Nat.le_of_ble_eq_true rfl) (Nat.le_of_ble_eq_true rfl) dX8_heard_93
            show V G 5 X 96 [(0, .ref 0), (1, .int (nI g_)), (2, .int (nI j_)), (3, .int (nI b_)), (4, .ref 34)] [.int (if b_ = 1 then bI (nodF P (lAt P S j_) g_ = true) else if b_ = 2 then bI (agrF P (S j_) (lAt P S j_) g_ = true) else bI (snoF P (nodF P (lAt P S j_)) g_ = true))] μ2
            refine V_iret hX rfl dX8_heard_96 ?_
            have h9 := hQ μ2
            rw [show heardS P L S (nI g_) (nI j_) (nI b_) = _ from (if_pos c8).trans ((if_pos (in_of_not_out c19)).trans ((if_pos (Decidable.not_not.mp c32)).trans (if_pos (in_of_not_out c52))))] at h9
            rw [nI_clamp (by omega), nI_clamp (by omega), nI_clamp (by omega)] at h9
            rw [show heardV P S g_ j_ b_ = _ from if_neg c68] at h9
            exact hR _ _ (h9 hRC2 hkM)
          · refine V_aload hX dX8_heard_71 4 rfl ?_
            refine V_getr (j := 35) hX fX8_145 rfl rfl dX8_heard_73 ?_
            refine V_iload_n hX dX8_heard_76 1 rfl ?_
            refine V_ialdN (x := nI ((uAt P S (j_ + 1)).1 g_)) hX rfl (by omega) (by decide) (b2.1 _ (by omega)) dX8_heard_77 ?_
            refine V_goto (tgt := 96) hX dX8_heard_78 (by decide) ?_
            refine V_iret hX rfl dX8_heard_96 ?_
            have h9 := hQ μ2
            rw [show heardS P L S (nI g_) (nI j_) (nI b_) = _ from (if_pos c8).trans ((if_pos (in_of_not_out c19)).trans ((if_pos (Decidable.not_not.mp c32)).trans (if_pos (in_of_not_out c52))))] at h9
            rw [nI_clamp (by omega), nI_clamp (by omega), nI_clamp (by omega)] at h9
            rw [show heardV P S g_ j_ b_ = _ from if_pos c68] at h9
            exact hR _ _ (h9 hRC2 hkM)
        · refine V_bipush (v := (-2)) hX dX8_heard_55 (by decide) ?_
          refine V_iret hX rfl dX8_heard_57 ?_
          have h9 := hQ μ
          rw [show heardS P L S (nI g_) m_ (nI b_) = -2 from (if_pos c8).trans ((if_pos (in_of_not_out c19)).trans ((if_pos (Decidable.not_not.mp c32)).trans (if_neg (not_in_of_out c52))))] at h9
          exact hR _ _ (h9 hRC (keepM.rf μ))
      · refine V_bipush (v := (-5)) hX dX8_heard_35 (by decide) ?_
        refine V_iret hX rfl dX8_heard_37 ?_
        have h9 := hQ μ
        rw [show heardS P L S (nI g_) m_ (nI b_) = -5 from (if_pos c8).trans ((if_pos (in_of_not_out c19)).trans (if_neg c32))] at h9
        exact hR _ _ (h9 hRC (keepM.rf μ))
    · refine V_bipush (v := (-2)) hX dX8_heard_22 (by decide) ?_
      refine V_iret hX rfl dX8_heard_24 ?_
      have h9 := hQ μ
      rw [show heardS P L S (nI g_) m_ w_ = -2 from (if_pos c8).trans (if_neg (not_in_of_out c19))] at h9
      exact hR _ _ (h9 hRC (keepM.rf μ))
  · refine V_iconst (v := (-1)) hX dX8_heard_11 (by decide) ?_
    refine V_iret hX rfl dX8_heard_12 ?_
    have h9 := hQ μ
    rw [show heardS P L S h_ m_ w_ = -1 from if_neg c8] at h9
    exact hR _ _ (h9 hRC (keepM.rf μ))
