def chF (P : PC) (h s b : Nat) : Nat := if b = h then s else if pPres P b = true ∧ P 1 b = s then P 1 h else P 1 b
def chP (P : PC) (h s : Nat) : PC := fun a b => if a = 1 then chF P h s b else P a b
def seZ (P : PC) (S : Nat → Nat) (L h s : Nat) : Nat := (uAt (chP P h s) S L).2.2.2 7
def seI (P : PC) (S : Nat → Nat) (L : Nat) (b : Nat × Int32) (h : Nat) : Nat → Nat × Int32
  | 0 => b
  | s + 1 => if pPres P h = true ∧ ¬ s = P 1 h ∧ seZ P S L h s < (seI P S L b h s).1 then (seZ P S L h s, nI (100 * h + s)) else seI P S L b h s
def seO (P : PC) (S : Nat → Nat) (L : Nat) : Nat → Nat × Int32
  | 0 => ((uAt P S L).2.2.2 7, -6)
  | h + 1 => seI P S L (seO P S L h) h (4 * P 0 0)
def seatedS (P : PC) (L : Nat) (S : Nat → Nat) (w : Int32) : Int32 := if inZ w 0 1 then (if fltU S L = -6 then (if w.toNatClampNeg = 0 then nI (seO P S L 8).1 else (seO P S L 8).2) else -5) else -2
theorem seI_le {P : PC} {S : Nat → Nat} {L : Nat} {b : Nat × Int32} {h : Nat} : ∀ s, (seI P S L b h s).1 ≤ b.1
  | 0 => Nat.le_refl _
  | s + 1 => by
    have ih := seI_le (P := P) (S := S) (L := L) (b := b) (h := h) s
    unfold seI
    split
    · rename_i z
      exact Nat.le_trans (Nat.le_of_lt z.2.2) ih
    · exact ih
theorem seI_at {P : PC} {S : Nat → Nat} {L : Nat} {b : Nat × Int32} {h q : Nat} (hp : pPres P h = true) (hq : ¬ q = P 1 h) : ∀ s, q < s → (seI P S L b h s).1 ≤ seZ P S L h q
  | 0, z => absurd z (by omega)
  | s + 1, z => by
    by_cases e : q = s
    · subst e
      unfold seI
      by_cases c : seZ P S L h q < (seI P S L b h q).1
      · rw [if_pos ⟨hp, hq, c⟩]; exact Nat.le_refl _
      · rw [if_neg (fun w => c w.2.2)]; omega
    · have ih := seI_at (P := P) (S := S) (L := L) (b := b) hp hq s (by omega)
      unfold seI
      split
      · rename_i w
        exact Nat.le_trans (Nat.le_of_lt w.2.2) ih
      · exact ih
theorem seO_le {P : PC} {S : Nat → Nat} {L o q : Nat} (hp : pPres P o = true) (hq : ¬ q = P 1 o) (hR : q < 4 * P 0 0) : ∀ h, o < h → (seO P S L h).1 ≤ seZ P S L o q
  | 0, z => absurd z (by omega)
  | h + 1, z => by
    unfold seO
    by_cases e : o = h
    · subst e; exact seI_at hp hq _ hR
    · exact Nat.le_trans (seI_le _) (seO_le hp hq hR h (by omega))
theorem seO_bd {P : PC} {S : Nat → Nat} {L : Nat} : ∀ h, (seO P S L h).1 ≤ (uAt P S L).2.2.2 7
  | 0 => Nat.le_refl _
  | h + 1 => Nat.le_trans (seI_le _) (seO_bd h)
theorem pres_lt {P : PC} (hok : okP P) {b : Nat} (h : pPres P b = true) : b < 8 := by
  rcases Nat.lt_or_ge b 8 with q | q
  · exact q
  · have h2 : P 0 4 < 2 ^ b := Nat.lt_of_lt_of_le hok.2.2.2.2.1 (by have : 2 ^ 8 ≤ 2 ^ b := Nat.pow_le_pow_right (by decide) q; exact this)
    unfold pPres at h
    rw [Nat.testBit_lt_two_pow h2] at h
    cases h
theorem ch_sym {P : PC} (hok : okP P) {h o : Nat} (hh : pPres P h = true) (ho : pPres P o = true) (hne : ¬ o = h) : chP P h (P 1 o) = chP P o (P 1 h) := by
  have inj := hok.2.2.2.2.2.2.2.2.2.2
  funext a b
  unfold chP chF
  by_cases e1 : a = 1
  · rw [if_pos e1, if_pos e1]
    by_cases e2 : b = h
    · subst e2
      rw [if_pos rfl, if_neg (fun z => hne z.symm), if_pos ⟨hh, rfl⟩]
    · rw [if_neg e2]
      by_cases e3 : b = o
      · subst e3
        rw [if_pos ⟨ho, rfl⟩, if_pos rfl]
      · rw [if_neg e3, if_neg (fun z => e3 (inj b (pres_lt hok z.1) o (pres_lt hok ho) z.1 ho z.2)), if_neg (fun z => e2 (inj b (pres_lt hok z.1) h (pres_lt hok hh) z.1 hh z.2))]
  · rw [if_neg e1, if_neg e1]
theorem ch_ok {P : PC} (hok : okP P) {h s : Nat} (hp : pPres P h = true) (hs : s < 4 * P 0 0) : okP (chP P h s) := by
  have hh := pres_lt hok hp
  have r3 := hok.1.2
  have h12 : ∀ b, b < 8 → P 1 b < 12 := fun b hb => (hok.2.2.2.2.2.2.2.1 b hb).1
  have hr := hok.2.2.2.2.2.2.2.2.2.1
  have inj := hok.2.2.2.2.2.2.2.2.2.2
  refine ⟨hok.1, hok.2.1, hok.2.2.1, hok.2.2.2.1, hok.2.2.2.2.1, hok.2.2.2.2.2.1, hok.2.2.2.2.2.2.1, fun b hb => ⟨?_, (hok.2.2.2.2.2.2.2.1 b hb).2⟩, hok.2.2.2.2.2.2.2.2.1, fun b hb pb => ?_, fun b hb g hg pb pg e => ?_⟩
  · show chF P h s b < 12
    unfold chF
    have := h12 h hh
    have := h12 b hb
    split
    · omega
    · split <;> omega
  · show chF P h s b < 4 * P 0 0
    unfold chF
    have := hr h hh hp
    have := hr b hb pb
    split
    · omega
    · split <;> omega
  · have pb : pPres P b = true := pb
    have pg : pPres P g = true := pg
    have e : chF P h s b = chF P h s g := e
    unfold chF at e
    by_cases b1 : b = h <;> by_cases g1 : g = h
    · rw [b1, g1]
    · rw [if_pos b1, if_neg g1] at e
      by_cases g2 : P 1 g = s
      · rw [if_pos ⟨pg, g2⟩] at e
        exact absurd (inj g hg h hh pg hp (by omega)) g1
      · rw [if_neg (fun z => g2 z.2)] at e
        exact absurd e.symm g2
    · rw [if_neg b1, if_pos g1] at e
      by_cases b2 : P 1 b = s
      · rw [if_pos ⟨pb, b2⟩] at e
        exact absurd (inj b hb h hh pb hp (by omega)) b1
      · rw [if_neg (fun z => b2 z.2)] at e
        exact absurd e b2
    · rw [if_neg b1, if_neg g1] at e
      by_cases b2 : P 1 b = s <;> by_cases g2 : P 1 g = s
      · exact inj b hb g hg pb pg (by omega)
      · rw [if_pos ⟨pb, b2⟩, if_neg (fun z => g2 z.2)] at e
        exact absurd (inj g hg h hh pg hp e.symm) g1
      · rw [if_neg (fun z => b2 z.2), if_pos ⟨pg, g2⟩] at e
        exact absurd (inj b hb h hh pb hp e) b1
      · rw [if_neg (fun z => b2 z.2), if_neg (fun z => g2 z.2)] at e
        exact inj b hb g hg pb pg e
theorem sit_free {P : PC} (hok : okP P) {s : Nat} (h : sitK P s 8 = -6) : ∀ b, ¬ (pPres P b = true ∧ P 1 b = s) := fun b z => by
  have hb := pres_lt hok z.1
  have := sitK_uniq 8 hb z.1 z.2 (fun g hg pg e => hok.2.2.2.2.2.2.2.2.2.2 g hg b hb pg z.1 (by omega))
  rw [h] at this
  exact nI_n6 (k := b) (by omega) this.symm
theorem sit_own {P : PC} (hok : okP P) {h : Nat} (hp : pPres P h = true) : sitK P (P 1 h) 8 = nI h :=
  sitK_uniq 8 (pres_lt hok hp) hp rfl (fun g hg pg e => hok.2.2.2.2.2.2.2.2.2.2 g hg h (pres_lt hok hp) pg hp e)
theorem ch_eq0 {P : PC} (hok : okP P) {h s : Nat} (c : sitK P s 8 = -6) : ∀ a b, vup P 1 h s a b = chP P h s a b := fun a b => by
  unfold vup chP chF
  by_cases e1 : a = 1
  · subst e1
    rw [if_pos rfl, if_pos rfl, if_neg (sit_free hok c b)]
  · rw [if_neg e1, if_neg e1]
theorem ch_eq1 {P : PC} (hok : okP P) {h s o : Nat} (po : pPres P o = true) (so : P 1 o = s) : ∀ a b, vup (vup P 1 o (P 1 h)) 1 h s a b = chP P h s a b := fun a b => by
  unfold vup chP chF
  by_cases e1 : a = 1
  · subst e1
    rw [if_pos rfl, if_pos rfl, if_pos rfl]
    by_cases e2 : b = h
    · rw [if_pos e2, if_pos e2]
    · rw [if_neg e2, if_neg e2]
      by_cases e3 : b = o
      · subst e3; rw [if_pos rfl, if_pos ⟨po, so⟩]
      · rw [if_neg e3, if_neg (fun z => e3 (hok.2.2.2.2.2.2.2.2.2.2 b (pres_lt hok z.1) o (pres_lt hok po) z.1 po (by omega)))]
  · rw [if_neg e1, if_neg e1, if_neg e1]
set_option maxRecDepth 100000 in
set_option maxHeartbeats 4000000 in
theorem k_isNewChange {G : VG} {d : Nat} {μ : VS} {Q : Option Value → VS → Prop} {P : PC} {h_ s_ : Nat} (hP : isP μ 1 P) (hok : okP P) (hh : h_ < 8) (hs : s_ < 12) (hQ : Q (some (.int (bI (pPres P h_ = true ∧ (sitK P s_ 8 = -6 ∨ nI h_ < sitK P s_ 8))))) μ) : Call G (d + 2) yX8_isNewChange cX8_isNewChange 4 (some .boolean) [.ref 0, .int (nI h_), .int (nI s_)] μ Q := by
  intro X hX hR
  have hP4 := hok.2.2.2.2.1
  show V G 4 X 0 [(0, .ref 0), (1, .int (nI h_)), (2, .int (nI s_))] [] μ
  refine V_aload_n hX dX8_isNewChange_0 0 rfl ?_
  refine V_getr (j := 1) hX fX8_10 rfl rfl dX8_isNewChange_1 ?_
  refine V_iload_n hX dX8_isNewChange_4 1 rfl ?_
  refine V_callV (As := [.int (nI h_)]) (st := []) hX mX8_115 rfl (kC_isThere rfl hP hP4 ?_) rfl (Nat.le_of_ble_eq_true rfl) (Nat.le_of_ble_eq_true rfl) dX8_isNewChange_5
  show V G 4 X 8 [(0, .ref 0), (1, .int (nI h_)), (2, .int (nI s_))] [.int (bI (thr P (nI h_)))] μ
  refine V_if_neB (tgt := 13) hX dX8_isNewChange_8 (by decide) (fun c8 => ?_) (fun c8 => ?_)
  · refine V_aload_n hX dX8_isNewChange_13 0 rfl ?_
    refine V_getr (j := 1) hX fX8_10 rfl rfl dX8_isNewChange_14 ?_
    refine V_iload_n hX dX8_isNewChange_17 2 rfl ?_
    refine V_callV (As := [.int (nI s_)]) (st := []) hX mX8_89 rfl (kC_sitterAt rfl hP hok (by omega) ?_) rfl (Nat.le_of_ble_eq_true rfl) (Nat.le_of_ble_eq_true rfl) dX8_isNewChange_18
    show V G 4 X 21 [(0, .ref 0), (1, .int (nI h_)), (2, .int (nI s_))] [.int (sitK P s_ 8)] μ
    refine V_istore_n (ls' := [(0, .ref 0), (1, .int (nI h_)), (2, .int (nI s_)), (3, .int (sitK P s_ 8))]) hX dX8_isNewChange_21 (by decide) rfl ?_
    refine V_iload_n hX dX8_isNewChange_22 3 rfl ?_
    refine V_bipush (v := (-6)) hX dX8_isNewChange_23 (by decide) ?_
    refine V_icmp_eq (tgt := 33) hX dX8_isNewChange_25 (by decide) (fun c25 => ?_) (fun c25 => ?_)
    · refine V_iconst (v := nI 1) hX dX8_isNewChange_33 (by decide) ?_
      refine V_goto (tgt := 38) hX dX8_isNewChange_34 (by decide) ?_
      refine V_zret hX rfl rfl dX8_isNewChange_38 ?_
      exact hR _ _ (ret1 ⟨(by have := c8.2; rw [nI_clamp (by omega)] at this; exact this), Or.inl c25⟩ hQ)
    · refine V_iload_n hX dX8_isNewChange_28 3 rfl ?_
      refine V_iload_n hX dX8_isNewChange_29 1 rfl ?_
      refine V_icmp_le (tgt := 37) hX dX8_isNewChange_30 (by decide) (fun c30 => ?_) (fun c30 => ?_)
      · refine V_iconst (v := nI 0) hX dX8_isNewChange_37 (by decide) ?_
        refine V_zret hX rfl rfl dX8_isNewChange_38 ?_
        exact hR _ _ (ret0 (fun z => z.2.elim c25 (fun y => Int32.not_lt.mpr c30 y)) hQ)
      · refine V_iconst (v := nI 1) hX dX8_isNewChange_33 (by decide) ?_
        refine V_goto (tgt := 38) hX dX8_isNewChange_34 (by decide) ?_
        refine V_zret hX rfl rfl dX8_isNewChange_38 ?_
        exact hR _ _ (ret1 ⟨(by have := c8.2; rw [nI_clamp (by omega)] at this; exact this), Or.inr (Int32.not_le.mp c30)⟩ hQ)
  · refine V_iconst (v := nI 0) hX dX8_isNewChange_11 (by decide) ?_
    refine V_zret hX rfl rfl dX8_isNewChange_12 ?_
    exact hR _ _ (ret0 (fun z => c8 (thr_of hh z.1)) hQ)
set_option maxRecDepth 100000 in
set_option maxHeartbeats 4000000 in
theorem k_nodsWhen {G : VG} {d : Nat} {μ : VS} {Q : Option Value → VS → Prop} {P : PC} {L : Nat} {S κ : Nat → Nat} {I : Nat → PC} {h_ s_ : Nat} (hRC : RC μ P L S κ I) (hok : okP P) (hpd : okPad L S) (hh : h_ < 8) (hs : s_ < 12) (hokc : okP (chP P h_ s_)) (hQ : ∀ μ', RC μ' P L S κ I → keepM μ μ' → Q (some (.int (nI (seZ P S L h_ s_)))) μ') : Call G (d + 6) yX8_nodsWhenChanged cX8_nodsWhenChanged 5 (some .int) [.ref 0, .int (nI h_), .int (nI s_)] μ Q := by
  intro X hX hR
  have hP := hRC.1
  have hL := hRC.2.1
  have hS := hpd.2
  have hL60 := hpd.1
  have hP4 := hok.2.2.2.2.1
  show V G 5 X 0 [(0, .ref 0), (1, .int (nI h_)), (2, .int (nI s_))] [] μ
  refine V_aload_n hX dX8_nodsWhenChanged_0 0 rfl ?_
  refine V_getr (j := 8) hX fX8_16 rfl rfl dX8_nodsWhenChanged_1 ?_
  refine V_aload_n hX dX8_nodsWhenChanged_4 0 rfl ?_
  refine V_getr (j := 1) hX fX8_10 rfl rfl dX8_nodsWhenChanged_5 ?_
  refine V_callV (As := [.ref 1]) (st := []) hX mX8_272 rfl (kC_become rfl rfl (by decide) hP (fun μ1 q1 q2 q3 => ?_)) rfl (Nat.le_of_ble_eq_true rfl) (Nat.le_of_ble_eq_true rfl) dX8_nodsWhenChanged_8
  show V G 5 X 11 [(0, .ref 0), (1, .int (nI h_)), (2, .int (nI s_))] [] μ1
  refine V_aload_n hX dX8_nodsWhenChanged_11 0 rfl ?_
  refine V_getr (j := 8) hX fX8_16 rfl rfl dX8_nodsWhenChanged_12 ?_
  refine V_iload_n hX dX8_nodsWhenChanged_15 2 rfl ?_
  refine V_callV (As := [.int (nI s_)]) (st := []) hX mX8_89 rfl (kC_sitterAt rfl q1 hok (by omega) ?_) rfl (Nat.le_of_ble_eq_true rfl) (Nat.le_of_ble_eq_true rfl) dX8_nodsWhenChanged_16
  show V G 5 X 19 [(0, .ref 0), (1, .int (nI h_)), (2, .int (nI s_))] [.int (sitK P s_ 8)] μ1
  refine V_istore_n (ls' := [(0, .ref 0), (1, .int (nI h_)), (2, .int (nI s_)), (3, .int (sitK P s_ 8))]) hX dX8_nodsWhenChanged_19 (by decide) rfl ?_
  refine V_iload_n hX dX8_nodsWhenChanged_20 3 rfl ?_
  refine V_bipush (v := (-6)) hX dX8_nodsWhenChanged_21 (by decide) ?_
  refine V_icmp_eq (tgt := 44) hX dX8_nodsWhenChanged_23 (by decide) (fun c23 => ?_) (fun c23 => ?_)
  · refine V_aload_n hX dX8_nodsWhenChanged_44 0 rfl ?_
    refine V_getr (j := 8) hX fX8_16 rfl rfl dX8_nodsWhenChanged_45 ?_
    refine V_getr (j := 9) hX fX8_93 rfl rfl dX8_nodsWhenChanged_48 ?_
    refine V_iload_n hX dX8_nodsWhenChanged_51 1 rfl ?_
    refine V_iload_n hX dX8_nodsWhenChanged_52 2 rfl ?_
    refine V_iastN hX rfl (by omega) (by decide) dX8_nodsWhenChanged_53 ?_
    show V G 5 X 54 [(0, .ref 0), (1, .int (nI h_)), (2, .int (nI s_)), (3, .int (sitK P s_ 8))] [] (vup μ1.1 9 h_ (nI s_), μ1.2)
    have hT : isP (vup μ1.1 9 h_ (nI s_), μ1.2) 8 (chP P h_ s_) := (q1.arr (j := 0) (by decide) s_).congr (ch_eq0 hok c23)
    have hV : ∀ a, a < 8 ∨ 15 ≤ a → ((vup μ1.1 9 h_ (nI s_), μ1.2) : VS).1 a = μ.1 a := fun a ha => by dsimp only; rw [vup_row _ _ _ (by omega)]; exact q2 a (by omega)
    have hL1 : isPad (vup μ1.1 9 h_ (nI s_), μ1.2) L S := ⟨by rw [hV 31 (by omega)]; exact hL.1, fun i hi => by rw [hV 32 (by omega)]; exact hL.2 i hi⟩
    refine V_aload_n hX dX8_nodsWhenChanged_54 0 rfl ?_
    refine V_getr (j := 33) hX fX8_36 rfl rfl dX8_nodsWhenChanged_55 ?_
    refine V_iconst (v := nI 0) hX dX8_nodsWhenChanged_58 (by decide) ?_
    refine V_waldN (r := 34) hX rfl (by omega) (by decide) rfl dX8_nodsWhenChanged_59 ?_
    refine V_astore (ls' := [(0, .ref 0), (1, .int (nI h_)), (2, .int (nI s_)), (3, .int (sitK P s_ 8)), (4, .ref 34)]) hX dX8_nodsWhenChanged_60 (by decide) rfl ?_
    refine V_aload hX dX8_nodsWhenChanged_62 4 rfl ?_
    refine V_aload_n hX dX8_nodsWhenChanged_64 0 rfl ?_
    refine V_getr (j := 8) hX fX8_16 rfl rfl dX8_nodsWhenChanged_65 ?_
    refine V_callV (As := [.ref 8]) (st := []) hX mX8_287 rfl (k_begin rfl rfl hT (fun μ2 a2 b2 d2 => ?_)) rfl (Nat.le_of_ble_eq_true rfl) (Nat.le_of_ble_eq_true rfl) dX8_nodsWhenChanged_68
    show V G 5 X 71 [(0, .ref 0), (1, .int (nI h_)), (2, .int (nI s_)), (3, .int (sitK P s_ 8)), (4, .ref 34)] [] μ2
    have hT2 : isP μ2 8 (chP P h_ s_) := hT.frame (fun j hj => a2 _ (by omega) (by omega))
    have hL2 : isPad μ2 L S := ⟨by rw [a2 31 (by omega) (by omega)]; exact hL1.1, fun i hi => by rw [a2 32 (by omega) (by omega)]; exact hL1.2 i hi⟩
    refine V_aload hX dX8_nodsWhenChanged_71 4 rfl ?_
    refine V_aload_n hX dX8_nodsWhenChanged_73 0 rfl ?_
    refine V_getr (j := 8) hX fX8_16 rfl rfl dX8_nodsWhenChanged_74 ?_
    refine V_aload_n hX dX8_nodsWhenChanged_77 0 rfl ?_
    refine V_getr (j := 31) hX fX8_30 rfl rfl dX8_nodsWhenChanged_78 ?_
    refine V_iconst (v := nI 0) hX dX8_nodsWhenChanged_81 (by decide) ?_
    refine V_aload_n hX dX8_nodsWhenChanged_82 0 rfl ?_
    refine V_getr (j := 31) hX fX8_30 rfl rfl dX8_nodsWhenChanged_83 ?_
    refine V_getN (x := nI L) hX fX8_128 rfl hL2.1 dX8_nodsWhenChanged_86 ?_
    refine V_callV (As := [.ref 8, .ref 31, .int (nI 0), .int (nI L)]) (st := []) hX mX8_290 rfl (k_passAll (P := chP P h_ s_) (n_ := 0) rfl rfl hT2 hokc hL2 hS hL60 (mw0_ok hokc) (Nat.le_refl L) (Nat.zero_le _) (by omega) b2 (fun μ3 a3 b3 c3 d3 => ?_)) rfl (Nat.le_of_ble_eq_true rfl) (Nat.le_of_ble_eq_true rfl) dX8_nodsWhenChanged_89
    show V G 5 X 92 [(0, .ref 0), (1, .int (nI h_)), (2, .int (nI s_)), (3, .int (sitK P s_ 8)), (4, .ref 34)] [] μ3
    simp only [Nat.zero_add, Nat.sub_zero] at b3
    have hV3 : ∀ a, (a < 8 ∨ 15 ≤ a) → a ≠ 34 → a ≠ 35 → μ3.1 a = μ.1 a := fun a h1 h2 h3 => by rw [a3 a h2 h3, a2 a h2 h3]; exact hV a h1
    refine V_aload hX dX8_nodsWhenChanged_92 4 rfl ?_
    refine V_getN (x := nI ((uAt (chP P h_ s_) S L).2.2.2 7)) hX fX8_305 rfl (b3.2.2.2 7 (by decide) (by decide)) dX8_nodsWhenChanged_94 ?_
    refine V_iret hX rfl dX8_nodsWhenChanged_97 ?_
    exact hR _ _ (hQ μ3 (hRC.frame (fun a ha => hV3 a (by omega) (by omega) (by omega))) (fun a ha => hV3 a (by omega) (by omega) (by omega)))
  · obtain ⟨o_, ho, hpo, hso, hse⟩ := (sitK_cases P s_ 8).resolve_left c23
    rw [hse]
    refine V_aload_n hX dX8_nodsWhenChanged_26 0 rfl ?_
    refine V_getr (j := 8) hX fX8_16 rfl rfl dX8_nodsWhenChanged_27 ?_
    refine V_getr (j := 9) hX fX8_93 rfl rfl dX8_nodsWhenChanged_30 ?_
    refine V_iload_n hX dX8_nodsWhenChanged_33 3 rfl ?_
    refine V_aload_n hX dX8_nodsWhenChanged_34 0 rfl ?_
    refine V_getr (j := 8) hX fX8_16 rfl rfl dX8_nodsWhenChanged_35 ?_
    refine V_getr (j := 9) hX fX8_93 rfl rfl dX8_nodsWhenChanged_38 ?_
    refine V_iload_n hX dX8_nodsWhenChanged_41 1 rfl ?_
    refine V_ialdN (x := nI (P 1 h_)) hX rfl (by omega) (by decide) (q1.2 0 (by decide) _ (by omega)) dX8_nodsWhenChanged_42 ?_
    refine V_iastN hX rfl (by omega) (by decide) dX8_nodsWhenChanged_43 ?_
    show V G 5 X 44 [(0, .ref 0), (1, .int (nI h_)), (2, .int (nI s_)), (3, .int (nI o_))] [] (vup μ1.1 9 o_ (nI (P 1 h_)), μ1.2)
    refine V_aload_n hX dX8_nodsWhenChanged_44 0 rfl ?_
    refine V_getr (j := 8) hX fX8_16 rfl rfl dX8_nodsWhenChanged_45 ?_
    refine V_getr (j := 9) hX fX8_93 rfl rfl dX8_nodsWhenChanged_48 ?_
    refine V_iload_n hX dX8_nodsWhenChanged_51 1 rfl ?_
    refine V_iload_n hX dX8_nodsWhenChanged_52 2 rfl ?_
    refine V_iastN hX rfl (by omega) (by decide) dX8_nodsWhenChanged_53 ?_
    show V G 5 X 54 [(0, .ref 0), (1, .int (nI h_)), (2, .int (nI s_)), (3, .int (nI o_))] [] (vup (vup μ1.1 9 o_ (nI (P 1 h_))) 9 h_ (nI s_), μ1.2)
    have hT : isP (vup (vup μ1.1 9 o_ (nI (P 1 h_))) 9 h_ (nI s_), μ1.2) 8 (chP P h_ s_) := ((q1.arr (j := 0) (k := o_) (by decide) (P 1 h_)).arr (j := 0) (k := h_) (by decide) s_).congr (ch_eq1 hok hpo hso)
    have hV : ∀ a, a < 8 ∨ 15 ≤ a → ((vup (vup μ1.1 9 o_ (nI (P 1 h_))) 9 h_ (nI s_), μ1.2) : VS).1 a = μ.1 a := fun a ha => by dsimp only; rw [vup_row _ _ _ (by omega), vup_row _ _ _ (by omega)]; exact q2 a (by omega)
    have hL1 : isPad (vup (vup μ1.1 9 o_ (nI (P 1 h_))) 9 h_ (nI s_), μ1.2) L S := ⟨by rw [hV 31 (by omega)]; exact hL.1, fun i hi => by rw [hV 32 (by omega)]; exact hL.2 i hi⟩
    refine V_aload_n hX dX8_nodsWhenChanged_54 0 rfl ?_
    refine V_getr (j := 33) hX fX8_36 rfl rfl dX8_nodsWhenChanged_55 ?_
    refine V_iconst (v := nI 0) hX dX8_nodsWhenChanged_58 (by decide) ?_
    refine V_waldN (r := 34) hX rfl (by omega) (by decide) rfl dX8_nodsWhenChanged_59 ?_
    refine V_astore (ls' := [(0, .ref 0), (1, .int (nI h_)), (2, .int (nI s_)), (3, .int (nI o_)), (4, .ref 34)]) hX dX8_nodsWhenChanged_60 (by decide) rfl ?_
    refine V_aload hX dX8_nodsWhenChanged_62 4 rfl ?_
    refine V_aload_n hX dX8_nodsWhenChanged_64 0 rfl ?_
    refine V_getr (j := 8) hX fX8_16 rfl rfl dX8_nodsWhenChanged_65 ?_
    refine V_callV (As := [.ref 8]) (st := []) hX mX8_287 rfl (k_begin rfl rfl hT (fun μ2 a2 b2 d2 => ?_)) rfl (Nat.le_of_ble_eq_true rfl) (Nat.le_of_ble_eq_true rfl) dX8_nodsWhenChanged_68
    show V G 5 X 71 [(0, .ref 0), (1, .int (nI h_)), (2, .int (nI s_)), (3, .int (nI o_)), (4, .ref 34)] [] μ2
    have hT2 : isP μ2 8 (chP P h_ s_) := hT.frame (fun j hj => a2 _ (by omega) (by omega))
    have hL2 : isPad μ2 L S := ⟨by rw [a2 31 (by omega) (by omega)]; exact hL1.1, fun i hi => by rw [a2 32 (by omega) (by omega)]; exact hL1.2 i hi⟩
    refine V_aload hX dX8_nodsWhenChanged_71 4 rfl ?_
    refine V_aload_n hX dX8_nodsWhenChanged_73 0 rfl ?_
    refine V_getr (j := 8) hX fX8_16 rfl rfl dX8_nodsWhenChanged_74 ?_
    refine V_aload_n hX dX8_nodsWhenChanged_77 0 rfl ?_
    refine V_getr (j := 31) hX fX8_30 rfl rfl dX8_nodsWhenChanged_78 ?_
    refine V_iconst (v := nI 0) hX dX8_nodsWhenChanged_81 (by decide) ?_
    refine V_aload_n hX dX8_nodsWhenChanged_82 0 rfl ?_
    refine V_getr (j := 31) hX fX8_30 rfl rfl dX8_nodsWhenChanged_83 ?_
    refine V_getN (x := nI L) hX fX8_128 rfl hL2.1 dX8_nodsWhenChanged_86 ?_
    refine V_callV (As := [.ref 8, .ref 31, .int (nI 0), .int (nI L)]) (st := []) hX mX8_290 rfl (k_passAll (P := chP P h_ s_) (n_ := 0) rfl rfl hT2 hokc hL2 hS hL60 (mw0_ok hokc) (Nat.le_refl L) (Nat.zero_le _) (by omega) b2 (fun μ3 a3 b3 c3 d3 => ?_)) rfl (Nat.le_of_ble_eq_true rfl) (Nat.le_of_ble_eq_true rfl) dX8_nodsWhenChanged_89
    show V G 5 X 92 [(0, .ref 0), (1, .int (nI h_)), (2, .int (nI s_)), (3, .int (nI o_)), (4, .ref 34)] [] μ3
    simp only [Nat.zero_add, Nat.sub_zero] at b3
    have hV3 : ∀ a, (a < 8 ∨ 15 ≤ a) → a ≠ 34 → a ≠ 35 → μ3.1 a = μ.1 a := fun a h1 h2 h3 => by rw [a3 a h2 h3, a2 a h2 h3]; exact hV a h1
    refine V_aload hX dX8_nodsWhenChanged_92 4 rfl ?_
    refine V_getN (x := nI ((uAt (chP P h_ s_) S L).2.2.2 7)) hX fX8_305 rfl (b3.2.2.2 7 (by decide) (by decide)) dX8_nodsWhenChanged_94 ?_
    refine V_iret hX rfl dX8_nodsWhenChanged_97 ?_
    exact hR _ _ (hQ μ3 (hRC.frame (fun a ha => hV3 a (by omega) (by omega) (by omega))) (fun a ha => hV3 a (by omega) (by omega) (by omega)))
theorem se_new {P : PC} (hok : okP P) {h_ s_ : Nat} (c : pPres P h_ = true ∧ (sitK P s_ 8 = -6 ∨ nI h_ < sitK P s_ 8)) : ¬ s_ = P 1 h_ := fun e => by
  have := sit_own hok c.1
  rw [← e] at this
  have h8 := pres_lt hok c.1
  rcases c.2 with z | z
  · rw [this] at z; exact nI_n6 (by omega) z
  · rw [this] at z; exact Int32.lt_irrefl z
theorem se_old {P : PC} (hok : okP P) {S : Nat → Nat} {L h_ s_ : Nat} (c : ¬ (pPres P h_ = true ∧ (sitK P s_ 8 = -6 ∨ nI h_ < sitK P s_ 8))) (hs : s_ < 4 * P 0 0) : ¬ (pPres P h_ = true ∧ ¬ s_ = P 1 h_ ∧ seZ P S L h_ s_ < (seI P S L (seO P S L h_) h_ s_).1) := fun z => by
  have h8 := pres_lt hok z.1
  have c1 : ¬ sitK P s_ 8 = -6 := fun e => c ⟨z.1, Or.inl e⟩
  have c2 : ¬ nI h_ < sitK P s_ 8 := fun e => c ⟨z.1, Or.inr e⟩
  obtain ⟨o, ho, po, so, se⟩ := (sitK_cases P s_ 8).resolve_left c1
  rw [se, nI_ltI (by omega) (by omega)] at c2
  have hne : ¬ o = h_ := fun e => by subst e; exact z.2.1 so.symm
  have h1 := seI_le (P := P) (S := S) (L := L) (b := seO P S L h_) (h := h_) s_
  have h2 := seO_le (P := P) (S := S) (L := L) (o := o) (q := P 1 h_) po (by rw [so]; exact fun e => z.2.1 e.symm) (hok.2.2.2.2.2.2.2.2.2.1 h_ h8 z.1) h_ (by omega)
  have h3 : seZ P S L o (P 1 h_) = seZ P S L h_ s_ := by unfold seZ; rw [← ch_sym hok z.1 po hne, so]
  have := z.2.2
  omega
theorem se_bd {P : PC} (hok : okP P) {S : Nat → Nat} {L : Nat} (h s : Nat) : (seI P S L (seO P S L h) h s).1 ≤ 8 * L := Nat.le_trans (seI_le s) (Nat.le_trans (seO_bd h) (uAt7 hok.2.2.1 S L))
set_option maxRecDepth 100000 in
set_option maxHeartbeats 4000000 in
theorem lpC_seat10 {G : VG} {d : Nat} {μ : VS} {X : VX} {P : PC} {L : Nat} {S κ : Nat → Nat} {I : Nat → PC} {h_ : Nat} (hX : Cx G (d + 7) yX8_bestChange cX8_bestChange 7 (some .int) X) (hok : okP P) (hpd : okPad L S) (hh : h_ < 8) (hF : ∀ μ1, RC μ1 P L S κ I → keepM μ μ1 → V G 7 X 88 [(0, .ref 0), (1, .int (nI 0)), (2, .int (nI ((seI P S L (seO P S L h_) h_ (P 0 0 * 4)).1))), (3, .int ((seI P S L (seO P S L h_) h_ (P 0 0 * 4)).2)), (4, .int (nI h_)), (5, .int (nI (P 0 0 * 4)))] [] μ1) : ∀ (j s_ : Nat) (μ1 : VS), s_ ≤ P 0 0 * 4 → P 0 0 * 4 + 1 ≤ s_ + j → RC μ1 P L S κ I → keepM μ μ1 → V G 7 X 31 [(0, .ref 0), (1, .int (nI 0)), (2, .int (nI ((seI P S L (seO P S L h_) h_ s_).1))), (3, .int ((seI P S L (seO P S L h_) h_ s_).2)), (4, .int (nI h_)), (5, .int (nI s_))] [] μ1 := by
  have hL60 := hpd.1
  have hr3 := hok.1.2
  intro j
  induction j with
  | zero =>
    intro s_ μ1 h1 h2
    exact absurd h2 (by omega)
  | succ j ih =>
    intro s_ μ1 h1 h2 hR1 hM1
    refine V_iload hX dX8_bestChange_31 5 rfl ?_
    refine V_aload_n hX dX8_bestChange_33 0 rfl ?_
    refine V_getr (j := 1) hX fX8_10 rfl rfl dX8_bestChange_34 ?_
    refine V_callV (As := []) (st := [.int (nI s_)]) hX mX8_85 rfl (kC_seats rfl hR1.1 ?_) rfl (Nat.le_of_ble_eq_true rfl) (Nat.le_of_ble_eq_true rfl) dX8_bestChange_37
    show V G 7 X 40 [(0, .ref 0), (1, .int (nI 0)), (2, .int (nI ((seI P S L (seO P S L h_) h_ s_).1))), (3, .int ((seI P S L (seO P S L h_) h_ s_).2)), (4, .int (nI h_)), (5, .int (nI s_))] [.int (nI (P 0 0 * 4)), .int (nI s_)] μ1
    refine V_icmp_geN (tgt := 88) hX dX8_bestChange_40 (by decide) (by first | omega | (have := se_bd hok (S := S) (L := L) h_ s_; omega)) (by first | omega | (have := se_bd hok (S := S) (L := L) h_ s_; omega)) (fun c40 => ?_) (fun c40 => ?_)
    · obtain rfl : s_ = P 0 0 * 4 := by omega
      exact hF μ1 hR1 hM1
    · refine V_aload_n hX dX8_bestChange_43 0 rfl ?_
      refine V_iload hX dX8_bestChange_44 4 rfl ?_
      refine V_iload hX dX8_bestChange_46 5 rfl ?_
      refine V_callV (As := [.int (nI h_), .int (nI s_)]) (st := []) hX mX8_308 rfl (k_isNewChange hR1.1 hok (by omega) (by omega) ?_) rfl (Nat.le_of_ble_eq_true rfl) (Nat.le_of_ble_eq_true rfl) dX8_bestChange_48
      show V G 7 X 51 [(0, .ref 0), (1, .int (nI 0)), (2, .int (nI ((seI P S L (seO P S L h_) h_ s_).1))), (3, .int ((seI P S L (seO P S L h_) h_ s_).2)), (4, .int (nI h_)), (5, .int (nI s_))] [.int (bI (pPres P h_ = true ∧ (sitK P s_ 8 = -6 ∨ nI h_ < sitK P s_ 8)))] μ1
      refine V_if_eqB (tgt := 82) hX dX8_bestChange_51 (by decide) (fun c51 => ?_) (fun c51 => ?_)
      · refine V_iincN (n := 1) (ls' := [(0, .ref 0), (1, .int (nI 0)), (2, .int (nI ((seI P S L (seO P S L h_) h_ s_).1))), (3, .int ((seI P S L (seO P S L h_) h_ s_).2)), (4, .int (nI h_)), (5, .int (nI (s_ + 1)))]) hX dX8_bestChange_82 5 rfl (by decide) rfl ?_
        refine V_goto (tgt := 31) hX dX8_bestChange_85 (by decide) ?_
        have h9 := ih (s_ + 1) μ1 (by omega) (by omega) hR1 hM1
        rw [show seI P S L (seO P S L h_) h_ (s_ + 1) = seI P S L (seO P S L h_) h_ s_ from if_neg (se_old hok c51 (by omega))] at h9
        exact h9
      · refine V_aload_n hX dX8_bestChange_54 0 rfl ?_
        refine V_iload hX dX8_bestChange_55 4 rfl ?_
        refine V_iload hX dX8_bestChange_57 5 rfl ?_
        refine V_callV (As := [.int (nI h_), .int (nI s_)]) (st := []) hX mX8_312 rfl (k_nodsWhen hR1 hok hpd (by omega) (by omega) (ch_ok hok c51.1 (by omega)) (fun μ2 hR2 hM2 => ?_)) rfl (Nat.le_of_ble_eq_true rfl) (Nat.le_of_ble_eq_true rfl) dX8_bestChange_59
        show V G 7 X 62 [(0, .ref 0), (1, .int (nI 0)), (2, .int (nI ((seI P S L (seO P S L h_) h_ s_).1))), (3, .int ((seI P S L (seO P S L h_) h_ s_).2)), (4, .int (nI h_)), (5, .int (nI s_))] [.int (nI (seZ P S L h_ s_))] μ2
        have hM2 := hM1.tr hM2
        have hbd : seZ P S L h_ s_ ≤ 8 * L := uAt7 (P := chP P h_ s_) hok.2.2.1 S L
        refine V_istore (ls' := [(0, .ref 0), (1, .int (nI 0)), (2, .int (nI ((seI P S L (seO P S L h_) h_ s_).1))), (3, .int ((seI P S L (seO P S L h_) h_ s_).2)), (4, .int (nI h_)), (5, .int (nI s_)), (6, .int (nI (seZ P S L h_ s_)))]) hX dX8_bestChange_62 (by decide) rfl ?_
        refine V_iload hX dX8_bestChange_64 6 rfl ?_
        refine V_iload_n hX dX8_bestChange_66 2 rfl ?_
        refine V_icmp_geN (tgt := 82) hX dX8_bestChange_67 (by decide) (by first | omega | (have := se_bd hok (S := S) (L := L) h_ s_; omega)) (by first | omega | (have := se_bd hok (S := S) (L := L) h_ s_; omega)) (fun c67 => ?_) (fun c67 => ?_)
        · refine V_iincN (n := 1) (ls' := [(0, .ref 0), (1, .int (nI 0)), (2, .int (nI ((seI P S L (seO P S L h_) h_ s_).1))), (3, .int ((seI P S L (seO P S L h_) h_ s_).2)), (4, .int (nI h_)), (5, .int (nI (s_ + 1))), (6, .int (nI (seZ P S L h_ s_)))]) hX dX8_bestChange_82 5 rfl (by decide) rfl ?_
          refine V_goto (tgt := 31) hX dX8_bestChange_85 (by decide) ?_
          have h9 := ih (s_ + 1) μ2 (by omega) (by omega) hR2 hM2
          rw [show seI P S L (seO P S L h_) h_ (s_ + 1) = seI P S L (seO P S L h_) h_ s_ from if_neg (fun z => absurd z.2.2 (by omega))] at h9
          exact V_sub [0, 1, 2, 3, 4, 5] rfl h9
        · refine V_iload hX dX8_bestChange_70 6 rfl ?_
          refine V_istore_n (ls' := [(0, .ref 0), (1, .int (nI 0)), (2, .int (nI (seZ P S L h_ s_))), (3, .int ((seI P S L (seO P S L h_) h_ s_).2)), (4, .int (nI h_)), (5, .int (nI s_)), (6, .int (nI (seZ P S L h_ s_)))]) hX dX8_bestChange_72 (by decide) rfl ?_
          refine V_bipush (v := nI 100) hX dX8_bestChange_73 (by decide) ?_
          refine V_iload hX dX8_bestChange_75 4 rfl ?_
          refine V_imulN hX dX8_bestChange_77 ?_
          refine V_iload hX dX8_bestChange_78 5 rfl ?_
          refine V_iaddN hX dX8_bestChange_80 ?_
          refine V_istore_n (ls' := [(0, .ref 0), (1, .int (nI 0)), (2, .int (nI (seZ P S L h_ s_))), (3, .int (nI ((100 * h_) + s_))), (4, .int (nI h_)), (5, .int (nI s_)), (6, .int (nI (seZ P S L h_ s_)))]) hX dX8_bestChange_81 (by decide) rfl ?_
          refine V_iincN (n := 1) (ls' := [(0, .ref 0), (1, .int (nI 0)), (2, .int (nI (seZ P S L h_ s_))), (3, .int (nI ((100 * h_) + s_))), (4, .int (nI h_)), (5, .int (nI (s_ + 1))), (6, .int (nI (seZ P S L h_ s_)))]) hX dX8_bestChange_82 5 rfl (by decide) rfl ?_
          refine V_goto (tgt := 31) hX dX8_bestChange_85 (by decide) ?_
          have h9 := ih (s_ + 1) μ2 (by omega) (by omega) hR2 hM2
          rw [show seI P S L (seO P S L h_) h_ (s_ + 1) = (seZ P S L h_ s_, nI (100 * h_ + s_)) from if_pos ⟨c51.1, se_new hok c51, c67⟩] at h9
          exact V_sub [0, 1, 2, 3, 4, 5] rfl h9
set_option maxRecDepth 100000 in
set_option maxHeartbeats 4000000 in
theorem lpC_seat20 {G : VG} {d : Nat} {μ : VS} {Q : Option Value → VS → Prop} {X : VX} {P : PC} {L : Nat} {S κ : Nat → Nat} {I : Nat → PC} (hX : Cx G (d + 7) yX8_bestChange cX8_bestChange 7 (some .int) X) (hR : ∀ r μ', Q r μ' → Ret G X r μ') (hok : okP P) (hpd : okPad L S) (hQ : ∀ μ', RC μ' P L S κ I → keepM μ μ' → Q (some (.int (nI (seO P S L 8).1))) μ') : ∀ (j h_ : Nat) (μ1 : VS), h_ ≤ 8 → 9 ≤ h_ + j → RC μ1 P L S κ I → keepM μ μ1 → V G 7 X 21 [(0, .ref 0), (1, .int (nI 0)), (2, .int (nI ((seO P S L h_).1))), (3, .int ((seO P S L h_).2)), (4, .int (nI h_))] [] μ1 := by
  intro j
  induction j with
  | zero =>
    intro h_ μ1 h1 h2
    exact absurd h2 (by omega)
  | succ j ih =>
    intro h_ μ1 h1 h2 hR1 hM1
    refine V_iload hX dX8_bestChange_21 4 rfl ?_
    refine V_bipush (v := nI 8) hX dX8_bestChange_23 (by decide) ?_
    refine V_icmp_geN (tgt := 94) hX dX8_bestChange_25 (by decide) (by omega) (by omega) (fun c25 => ?_) (fun c25 => ?_)
    · refine V_iload_n hX dX8_bestChange_94 1 rfl ?_
      refine V_if_eqN (tgt := 102) hX dX8_bestChange_95 (by decide) (by omega) (fun c95 => ?_) (fun c95 => ?_)
      · refine V_iload_n hX dX8_bestChange_102 2 rfl ?_
        refine V_iret hX rfl dX8_bestChange_103 ?_
        obtain rfl : h_ = 8 := by omega
        exact hR _ _ (hQ μ1 hR1 hM1)
      · exact absurd c95 (by decide)
    · refine V_iconst (v := nI 0) hX dX8_bestChange_28 (by decide) ?_
      refine V_istore (ls' := [(0, .ref 0), (1, .int (nI 0)), (2, .int (nI ((seO P S L h_).1))), (3, .int ((seO P S L h_).2)), (4, .int (nI h_)), (5, .int (nI 0))]) hX dX8_bestChange_29 (by decide) rfl ?_
      refine lpC_seat10 (μ := μ) hX hok hpd (by omega) (fun μ2 hR2 hM2 => ?_) (P 0 0 * 4 + 1) 0 μ1 (by omega) (by omega) hR1 hM1
      refine V_iincN (n := 1) (ls' := [(0, .ref 0), (1, .int (nI 0)), (2, .int (nI ((seI P S L (seO P S L h_) h_ (P 0 0 * 4)).1))), (3, .int ((seI P S L (seO P S L h_) h_ (P 0 0 * 4)).2)), (4, .int (nI (h_ + 1))), (5, .int (nI (P 0 0 * 4)))]) hX dX8_bestChange_88 4 rfl (by decide) rfl ?_
      refine V_goto (tgt := 21) hX dX8_bestChange_91 (by decide) ?_
      have h9 := ih (h_ + 1) μ2 (by omega) (by omega) hR2 hM2
      rw [show seO P S L (h_ + 1) = seI P S L (seO P S L h_) h_ (P 0 0 * 4) from by rw [Nat.mul_comm]; rfl] at h9
      exact V_sub [0, 1, 2, 3, 4] rfl h9
set_option maxRecDepth 100000 in
set_option maxHeartbeats 4000000 in
theorem k_bestChange0 {G : VG} {d : Nat} {μ : VS} {Q : Option Value → VS → Prop} {P : PC} {L : Nat} {S κ : Nat → Nat} {I : Nat → PC} (hRC : RC μ P L S κ I) (hok : okP P) (hpd : okPad L S) (hQ : ∀ μ', RC μ' P L S κ I → keepM μ μ' → Q (some (.int (nI (seO P S L 8).1))) μ') : Call G (d + 7) yX8_bestChange cX8_bestChange 7 (some .int) [.ref 0, .int (nI 0)] μ Q := by
  intro X hX hR
  have hP := hRC.1
  have hL := hRC.2.1
  have hS := hpd.2
  have hL60 := hpd.1
  have hP4 := hok.2.2.2.2.1
  show V G 7 X 0 [(0, .ref 0), (1, .int (nI 0))] [] μ
  refine V_aload_n hX dX8_bestChange_0 0 rfl ?_
  refine V_aload_n hX dX8_bestChange_1 0 rfl ?_
  refine V_getr (j := 31) hX fX8_30 rfl rfl dX8_bestChange_2 ?_
  refine V_getN (x := nI L) hX fX8_128 rfl hL.1 dX8_bestChange_5 ?_
  refine V_callV (As := [.int (nI L)]) (st := []) hX mX8_141 rfl (k_goneThrough hP hok hL hS hL60 (by omega) (fun μ2 a2 b2 k2 d2 => ?_)) rfl (Nat.le_of_ble_eq_true rfl) (Nat.le_of_ble_eq_true rfl) dX8_bestChange_8
  show V G 7 X 11 [(0, .ref 0), (1, .int (nI 0))] [.ref 34] μ2
  have hRC2 : RC μ2 P L S κ I := hRC.frame (fun a ha => a2 a (by omega) (by omega))
  have hkM : keepM μ μ2 := fun a ha => a2 a (by omega) (by omega)
  refine V_getN (x := nI ((uAt P S L).2.2.2 7)) hX fX8_305 rfl (b2.2.2.2 7 (by decide) (by decide)) dX8_bestChange_11 ?_
  refine V_istore_n (ls' := [(0, .ref 0), (1, .int (nI 0)), (2, .int (nI ((uAt P S L).2.2.2 7)))]) hX dX8_bestChange_14 (by decide) rfl ?_
  refine V_bipush (v := (-6)) hX dX8_bestChange_15 (by decide) ?_
  refine V_istore_n (ls' := [(0, .ref 0), (1, .int (nI 0)), (2, .int (nI ((uAt P S L).2.2.2 7))), (3, .int (-6))]) hX dX8_bestChange_17 (by decide) rfl ?_
  refine V_iconst (v := nI 0) hX dX8_bestChange_18 (by decide) ?_
  refine V_istore (ls' := [(0, .ref 0), (1, .int (nI 0)), (2, .int (nI ((uAt P S L).2.2.2 7))), (3, .int (-6)), (4, .int (nI 0))]) hX dX8_bestChange_19 (by decide) rfl ?_
  exact lpC_seat20 (μ := μ) hX hR hok hpd hQ 9 0 μ2 (by decide) (by decide) hRC2 hkM
set_option maxRecDepth 100000 in
set_option maxHeartbeats 4000000 in
theorem kC_seated0 {G : VG} {d : Nat} {μ : VS} {Q : Option Value → VS → Prop} {P : PC} {L : Nat} {S κ : Nat → Nat} {I : Nat → PC} (hRC : RC μ P L S κ I) (hok : okP P) (hpd : okPad L S) (hQ : ∀ μ', RC μ' P L S κ I → keepM μ μ' → Q (some (.int (seatedS P L S (nI 0)))) μ') : Call G (d + 8) yX8_seated cX8_seated 2 (some .int) [.ref 0, .int (nI 0)] μ Q := by
  intro X hX hR
  have hP := hRC.1
  have hL := hRC.2.1
  have hS := hpd.2
  have hL60 := hpd.1
  have hP4 := hok.2.2.2.2.1
  show V G 2 X 0 [(0, .ref 0), (1, .int (nI 0))] [] μ
  refine V_iload_n hX dX8_seated_0 1 rfl ?_
  refine V_iconst (v := nI 0) hX dX8_seated_1 (by decide) ?_
  refine V_iconst (v := nI 1) hX dX8_seated_2 (by decide) ?_
  refine V_callS (As := [.int (nI 0), .int (nI 0), .int (nI 1)]) (st := []) hX mX8_73 (k_isOutside ?_) rfl (Nat.le_of_ble_eq_true rfl) (Nat.le_of_ble_eq_true rfl) dX8_seated_3
  show V G 2 X 6 [(0, .ref 0), (1, .int (nI 0))] [.int (bI (nI 0 < nI 0 ∨ nI 1 < nI 0))] μ
  refine V_if_eqB (tgt := 12) hX dX8_seated_6 (by decide) (fun c6 => ?_) (fun c6 => ?_)
  · refine V_aload_n hX dX8_seated_12 0 rfl ?_
    refine V_getr (j := 31) hX fX8_30 rfl rfl dX8_seated_13 ?_
    refine V_callV (As := []) (st := []) hX mX8_137 rfl (kC_hasFault hL hS hL60 ?_) rfl (Nat.le_of_ble_eq_true rfl) (Nat.le_of_ble_eq_true rfl) dX8_seated_16
    show V G 2 X 19 [(0, .ref 0), (1, .int (nI 0))] [.int (bI (¬ fltU S L = -6))] μ
    refine V_if_eqB (tgt := 27) hX dX8_seated_19 (by decide) (fun c19 => ?_) (fun c19 => ?_)
    · refine V_aload_n hX dX8_seated_27 0 rfl ?_
      refine V_iload_n hX dX8_seated_28 1 rfl ?_
      refine V_iconst (v := nI 1) hX dX8_seated_29 (by decide) ?_
      refine V_icmp_neN (tgt := 37) hX dX8_seated_30 (by decide) (by omega) (by omega) (fun c30 => ?_) (fun c30 => ?_)
      · refine V_iconst (v := nI 0) hX dX8_seated_37 (by decide) ?_
        refine V_callV (As := [.int (nI 0)]) (st := []) hX mX8_186 rfl (k_bestChange0 hRC hok hpd (fun μ2 hRC2 hkM => ?_)) rfl (Nat.le_of_ble_eq_true rfl) (Nat.le_of_ble_eq_true rfl) dX8_seated_38
        show V G 2 X 41 [(0, .ref 0), (1, .int (nI 0))] [.int (nI (seO P S L 8).1)] μ2
        refine V_iret hX rfl dX8_seated_41 ?_
        have h9 := hQ μ2
        rw [show seatedS P L S (nI 0) = nI (seO P S L 8).1 from (if_pos (in_of_not_out c6)).trans ((if_pos (Decidable.not_not.mp c19)).trans (if_pos (nI_clamp (by decide))))] at h9
        exact hR _ _ (h9 hRC2 hkM)
      · exact absurd c30 (by decide)
    · refine V_bipush (v := (-5)) hX dX8_seated_22 (by decide) ?_
      refine V_goto (tgt := 41) hX dX8_seated_24 (by decide) ?_
      refine V_iret hX rfl dX8_seated_41 ?_
      have h9 := hQ μ
      rw [show seatedS P L S (nI 0) = -5 from (if_pos (in_of_not_out c6)).trans (if_neg c19)] at h9
      exact hR _ _ (h9 hRC (keepM.rf μ))
  · refine V_bipush (v := (-2)) hX dX8_seated_9 (by decide) ?_
    refine V_iret hX rfl dX8_seated_11 ?_
    exact absurd c6 (by decide)
set_option maxRecDepth 100000 in
set_option maxHeartbeats 4000000 in
theorem lpC_seat11 {G : VG} {d : Nat} {μ : VS} {X : VX} {P : PC} {L : Nat} {S κ : Nat → Nat} {I : Nat → PC} {h_ : Nat} (hX : Cx G (d + 7) yX8_bestChange cX8_bestChange 7 (some .int) X) (hok : okP P) (hpd : okPad L S) (hh : h_ < 8) (hF : ∀ μ1, RC μ1 P L S κ I → keepM μ μ1 → V G 7 X 88 [(0, .ref 0), (1, .int (nI 1)), (2, .int (nI ((seI P S L (seO P S L h_) h_ (P 0 0 * 4)).1))), (3, .int ((seI P S L (seO P S L h_) h_ (P 0 0 * 4)).2)), (4, .int (nI h_)), (5, .int (nI (P 0 0 * 4)))] [] μ1) : ∀ (j s_ : Nat) (μ1 : VS), s_ ≤ P 0 0 * 4 → P 0 0 * 4 + 1 ≤ s_ + j → RC μ1 P L S κ I → keepM μ μ1 → V G 7 X 31 [(0, .ref 0), (1, .int (nI 1)), (2, .int (nI ((seI P S L (seO P S L h_) h_ s_).1))), (3, .int ((seI P S L (seO P S L h_) h_ s_).2)), (4, .int (nI h_)), (5, .int (nI s_))] [] μ1 := by
  have hL60 := hpd.1
  have hr3 := hok.1.2
  intro j
  induction j with
  | zero =>
    intro s_ μ1 h1 h2
    exact absurd h2 (by omega)
  | succ j ih =>
    intro s_ μ1 h1 h2 hR1 hM1
    refine V_iload hX dX8_bestChange_31 5 rfl ?_
    refine V_aload_n hX dX8_bestChange_33 0 rfl ?_
    refine V_getr (j := 1) hX fX8_10 rfl rfl dX8_bestChange_34 ?_
    refine V_callV (As := []) (st := [.int (nI s_)]) hX mX8_85 rfl (kC_seats rfl hR1.1 ?_) rfl (Nat.le_of_ble_eq_true rfl) (Nat.le_of_ble_eq_true rfl) dX8_bestChange_37
    show V G 7 X 40 [(0, .ref 0), (1, .int (nI 1)), (2, .int (nI ((seI P S L (seO P S L h_) h_ s_).1))), (3, .int ((seI P S L (seO P S L h_) h_ s_).2)), (4, .int (nI h_)), (5, .int (nI s_))] [.int (nI (P 0 0 * 4)), .int (nI s_)] μ1
    refine V_icmp_geN (tgt := 88) hX dX8_bestChange_40 (by decide) (by first | omega | (have := se_bd hok (S := S) (L := L) h_ s_; omega)) (by first | omega | (have := se_bd hok (S := S) (L := L) h_ s_; omega)) (fun c40 => ?_) (fun c40 => ?_)
    · obtain rfl : s_ = P 0 0 * 4 := by omega
      exact hF μ1 hR1 hM1
    · refine V_aload_n hX dX8_bestChange_43 0 rfl ?_
      refine V_iload hX dX8_bestChange_44 4 rfl ?_
      refine V_iload hX dX8_bestChange_46 5 rfl ?_
      refine V_callV (As := [.int (nI h_), .int (nI s_)]) (st := []) hX mX8_308 rfl (k_isNewChange hR1.1 hok (by omega) (by omega) ?_) rfl (Nat.le_of_ble_eq_true rfl) (Nat.le_of_ble_eq_true rfl) dX8_bestChange_48
      show V G 7 X 51 [(0, .ref 0), (1, .int (nI 1)), (2, .int (nI ((seI P S L (seO P S L h_) h_ s_).1))), (3, .int ((seI P S L (seO P S L h_) h_ s_).2)), (4, .int (nI h_)), (5, .int (nI s_))] [.int (bI (pPres P h_ = true ∧ (sitK P s_ 8 = -6 ∨ nI h_ < sitK P s_ 8)))] μ1
      refine V_if_eqB (tgt := 82) hX dX8_bestChange_51 (by decide) (fun c51 => ?_) (fun c51 => ?_)
      · refine V_iincN (n := 1) (ls' := [(0, .ref 0), (1, .int (nI 1)), (2, .int (nI ((seI P S L (seO P S L h_) h_ s_).1))), (3, .int ((seI P S L (seO P S L h_) h_ s_).2)), (4, .int (nI h_)), (5, .int (nI (s_ + 1)))]) hX dX8_bestChange_82 5 rfl (by decide) rfl ?_
        refine V_goto (tgt := 31) hX dX8_bestChange_85 (by decide) ?_
        have h9 := ih (s_ + 1) μ1 (by omega) (by omega) hR1 hM1
        rw [show seI P S L (seO P S L h_) h_ (s_ + 1) = seI P S L (seO P S L h_) h_ s_ from if_neg (se_old hok c51 (by omega))] at h9
        exact h9
      · refine V_aload_n hX dX8_bestChange_54 0 rfl ?_
        refine V_iload hX dX8_bestChange_55 4 rfl ?_
        refine V_iload hX dX8_bestChange_57 5 rfl ?_
        refine V_callV (As := [.int (nI h_), .int (nI s_)]) (st := []) hX mX8_312 rfl (k_nodsWhen hR1 hok hpd (by omega) (by omega) (ch_ok hok c51.1 (by omega)) (fun μ2 hR2 hM2 => ?_)) rfl (Nat.le_of_ble_eq_true rfl) (Nat.le_of_ble_eq_true rfl) dX8_bestChange_59
        show V G 7 X 62 [(0, .ref 0), (1, .int (nI 1)), (2, .int (nI ((seI P S L (seO P S L h_) h_ s_).1))), (3, .int ((seI P S L (seO P S L h_) h_ s_).2)), (4, .int (nI h_)), (5, .int (nI s_))] [.int (nI (seZ P S L h_ s_))] μ2
        have hM2 := hM1.tr hM2
        have hbd : seZ P S L h_ s_ ≤ 8 * L := uAt7 (P := chP P h_ s_) hok.2.2.1 S L
        refine V_istore (ls' := [(0, .ref 0), (1, .int (nI 1)), (2, .int (nI ((seI P S L (seO P S L h_) h_ s_).1))), (3, .int ((seI P S L (seO P S L h_) h_ s_).2)), (4, .int (nI h_)), (5, .int (nI s_)), (6, .int (nI (seZ P S L h_ s_)))]) hX dX8_bestChange_62 (by decide) rfl ?_
        refine V_iload hX dX8_bestChange_64 6 rfl ?_
        refine V_iload_n hX dX8_bestChange_66 2 rfl ?_
        refine V_icmp_geN (tgt := 82) hX dX8_bestChange_67 (by decide) (by first | omega | (have := se_bd hok (S := S) (L := L) h_ s_; omega)) (by first | omega | (have := se_bd hok (S := S) (L := L) h_ s_; omega)) (fun c67 => ?_) (fun c67 => ?_)
        · refine V_iincN (n := 1) (ls' := [(0, .ref 0), (1, .int (nI 1)), (2, .int (nI ((seI P S L (seO P S L h_) h_ s_).1))), (3, .int ((seI P S L (seO P S L h_) h_ s_).2)), (4, .int (nI h_)), (5, .int (nI (s_ + 1))), (6, .int (nI (seZ P S L h_ s_)))]) hX dX8_bestChange_82 5 rfl (by decide) rfl ?_
          refine V_goto (tgt := 31) hX dX8_bestChange_85 (by decide) ?_
          have h9 := ih (s_ + 1) μ2 (by omega) (by omega) hR2 hM2
          rw [show seI P S L (seO P S L h_) h_ (s_ + 1) = seI P S L (seO P S L h_) h_ s_ from if_neg (fun z => absurd z.2.2 (by omega))] at h9
          exact V_sub [0, 1, 2, 3, 4, 5] rfl h9
        · refine V_iload hX dX8_bestChange_70 6 rfl ?_
          refine V_istore_n (ls' := [(0, .ref 0), (1, .int (nI 1)), (2, .int (nI (seZ P S L h_ s_))), (3, .int ((seI P S L (seO P S L h_) h_ s_).2)), (4, .int (nI h_)), (5, .int (nI s_)), (6, .int (nI (seZ P S L h_ s_)))]) hX dX8_bestChange_72 (by decide) rfl ?_
          refine V_bipush (v := nI 100) hX dX8_bestChange_73 (by decide) ?_
          refine V_iload hX dX8_bestChange_75 4 rfl ?_
          refine V_imulN hX dX8_bestChange_77 ?_
          refine V_iload hX dX8_bestChange_78 5 rfl ?_
          refine V_iaddN hX dX8_bestChange_80 ?_
          refine V_istore_n (ls' := [(0, .ref 0), (1, .int (nI 1)), (2, .int (nI (seZ P S L h_ s_))), (3, .int (nI ((100 * h_) + s_))), (4, .int (nI h_)), (5, .int (nI s_)), (6, .int (nI (seZ P S L h_ s_)))]) hX dX8_bestChange_81 (by decide) rfl ?_
          refine V_iincN (n := 1) (ls' := [(0, .ref 0), (1, .int (nI 1)), (2, .int (nI (seZ P S L h_ s_))), (3, .int (nI ((100 * h_) + s_))), (4, .int (nI h_)), (5, .int (nI (s_ + 1))), (6, .int (nI (seZ P S L h_ s_)))]) hX dX8_bestChange_82 5 rfl (by decide) rfl ?_
          refine V_goto (tgt := 31) hX dX8_bestChange_85 (by decide) ?_
          have h9 := ih (s_ + 1) μ2 (by omega) (by omega) hR2 hM2
          rw [show seI P S L (seO P S L h_) h_ (s_ + 1) = (seZ P S L h_ s_, nI (100 * h_ + s_)) from if_pos ⟨c51.1, se_new hok c51, c67⟩] at h9
          exact V_sub [0, 1, 2, 3, 4, 5] rfl h9
set_option maxRecDepth 100000 in
set_option maxHeartbeats 4000000 in
theorem lpC_seat21 {G : VG} {d : Nat} {μ : VS} {Q : Option Value → VS → Prop} {X : VX} {P : PC} {L : Nat} {S κ : Nat → Nat} {I : Nat → PC} (hX : Cx G (d + 7) yX8_bestChange cX8_bestChange 7 (some .int) X) (hR : ∀ r μ', Q r μ' → Ret G X r μ') (hok : okP P) (hpd : okPad L S) (hQ : ∀ μ', RC μ' P L S κ I → keepM μ μ' → Q (some (.int ((seO P S L 8).2))) μ') : ∀ (j h_ : Nat) (μ1 : VS), h_ ≤ 8 → 9 ≤ h_ + j → RC μ1 P L S κ I → keepM μ μ1 → V G 7 X 21 [(0, .ref 0), (1, .int (nI 1)), (2, .int (nI ((seO P S L h_).1))), (3, .int ((seO P S L h_).2)), (4, .int (nI h_))] [] μ1 := by
  intro j
  induction j with
  | zero =>
    intro h_ μ1 h1 h2
    exact absurd h2 (by omega)
  | succ j ih =>
    intro h_ μ1 h1 h2 hR1 hM1
    refine V_iload hX dX8_bestChange_21 4 rfl ?_
    refine V_bipush (v := nI 8) hX dX8_bestChange_23 (by decide) ?_
    refine V_icmp_geN (tgt := 94) hX dX8_bestChange_25 (by decide) (by omega) (by omega) (fun c25 => ?_) (fun c25 => ?_)
    · refine V_iload_n hX dX8_bestChange_94 1 rfl ?_
      refine V_if_eqN (tgt := 102) hX dX8_bestChange_95 (by decide) (by omega) (fun c95 => ?_) (fun c95 => ?_)
      · exact absurd c95 (by decide)
      · refine V_iload_n hX dX8_bestChange_98 3 rfl ?_
        refine V_goto (tgt := 103) hX dX8_bestChange_99 (by decide) ?_
        refine V_iret hX rfl dX8_bestChange_103 ?_
        obtain rfl : h_ = 8 := by omega
        exact hR _ _ (hQ μ1 hR1 hM1)
    · refine V_iconst (v := nI 0) hX dX8_bestChange_28 (by decide) ?_
      refine V_istore (ls' := [(0, .ref 0), (1, .int (nI 1)), (2, .int (nI ((seO P S L h_).1))), (3, .int ((seO P S L h_).2)), (4, .int (nI h_)), (5, .int (nI 0))]) hX dX8_bestChange_29 (by decide) rfl ?_
      refine lpC_seat11 (μ := μ) hX hok hpd (by omega) (fun μ2 hR2 hM2 => ?_) (P 0 0 * 4 + 1) 0 μ1 (by omega) (by omega) hR1 hM1
      refine V_iincN (n := 1) (ls' := [(0, .ref 0), (1, .int (nI 1)), (2, .int (nI ((seI P S L (seO P S L h_) h_ (P 0 0 * 4)).1))), (3, .int ((seI P S L (seO P S L h_) h_ (P 0 0 * 4)).2)), (4, .int (nI (h_ + 1))), (5, .int (nI (P 0 0 * 4)))]) hX dX8_bestChange_88 4 rfl (by decide) rfl ?_
      refine V_goto (tgt := 21) hX dX8_bestChange_91 (by decide) ?_
      have h9 := ih (h_ + 1) μ2 (by omega) (by omega) hR2 hM2
      rw [show seO P S L (h_ + 1) = seI P S L (seO P S L h_) h_ (P 0 0 * 4) from by rw [Nat.mul_comm]; rfl] at h9
      exact V_sub [0, 1, 2, 3, 4] rfl h9
set_option maxRecDepth 100000 in
set_option maxHeartbeats 4000000 in
theorem k_bestChange1 {G : VG} {d : Nat} {μ : VS} {Q : Option Value → VS → Prop} {P : PC} {L : Nat} {S κ : Nat → Nat} {I : Nat → PC} (hRC : RC μ P L S κ I) (hok : okP P) (hpd : okPad L S) (hQ : ∀ μ', RC μ' P L S κ I → keepM μ μ' → Q (some (.int ((seO P S L 8).2))) μ') : Call G (d + 7) yX8_bestChange cX8_bestChange 7 (some .int) [.ref 0, .int (nI 1)] μ Q := by
  intro X hX hR
  have hP := hRC.1
  have hL := hRC.2.1
  have hS := hpd.2
  have hL60 := hpd.1
  have hP4 := hok.2.2.2.2.1
  show V G 7 X 0 [(0, .ref 0), (1, .int (nI 1))] [] μ
  refine V_aload_n hX dX8_bestChange_0 0 rfl ?_
  refine V_aload_n hX dX8_bestChange_1 0 rfl ?_
  refine V_getr (j := 31) hX fX8_30 rfl rfl dX8_bestChange_2 ?_
  refine V_getN (x := nI L) hX fX8_128 rfl hL.1 dX8_bestChange_5 ?_
  refine V_callV (As := [.int (nI L)]) (st := []) hX mX8_141 rfl (k_goneThrough hP hok hL hS hL60 (by omega) (fun μ2 a2 b2 k2 d2 => ?_)) rfl (Nat.le_of_ble_eq_true rfl) (Nat.le_of_ble_eq_true rfl) dX8_bestChange_8
  show V G 7 X 11 [(0, .ref 0), (1, .int (nI 1))] [.ref 34] μ2
  have hRC2 : RC μ2 P L S κ I := hRC.frame (fun a ha => a2 a (by omega) (by omega))
  have hkM : keepM μ μ2 := fun a ha => a2 a (by omega) (by omega)
  refine V_getN (x := nI ((uAt P S L).2.2.2 7)) hX fX8_305 rfl (b2.2.2.2 7 (by decide) (by decide)) dX8_bestChange_11 ?_
  refine V_istore_n (ls' := [(0, .ref 0), (1, .int (nI 1)), (2, .int (nI ((uAt P S L).2.2.2 7)))]) hX dX8_bestChange_14 (by decide) rfl ?_
  refine V_bipush (v := (-6)) hX dX8_bestChange_15 (by decide) ?_
  refine V_istore_n (ls' := [(0, .ref 0), (1, .int (nI 1)), (2, .int (nI ((uAt P S L).2.2.2 7))), (3, .int (-6))]) hX dX8_bestChange_17 (by decide) rfl ?_
  refine V_iconst (v := nI 0) hX dX8_bestChange_18 (by decide) ?_
  refine V_istore (ls' := [(0, .ref 0), (1, .int (nI 1)), (2, .int (nI ((uAt P S L).2.2.2 7))), (3, .int (-6)), (4, .int (nI 0))]) hX dX8_bestChange_19 (by decide) rfl ?_
  exact lpC_seat21 (μ := μ) hX hR hok hpd hQ 9 0 μ2 (by decide) (by decide) hRC2 hkM
set_option maxRecDepth 100000 in
set_option maxHeartbeats 4000000 in
theorem kC_seated1 {G : VG} {d : Nat} {μ : VS} {Q : Option Value → VS → Prop} {P : PC} {L : Nat} {S κ : Nat → Nat} {I : Nat → PC} (hRC : RC μ P L S κ I) (hok : okP P) (hpd : okPad L S) (hQ : ∀ μ', RC μ' P L S κ I → keepM μ μ' → Q (some (.int (seatedS P L S (nI 1)))) μ') : Call G (d + 8) yX8_seated cX8_seated 2 (some .int) [.ref 0, .int (nI 1)] μ Q := by
  intro X hX hR
  have hP := hRC.1
  have hL := hRC.2.1
  have hS := hpd.2
  have hL60 := hpd.1
  have hP4 := hok.2.2.2.2.1
  show V G 2 X 0 [(0, .ref 0), (1, .int (nI 1))] [] μ
  refine V_iload_n hX dX8_seated_0 1 rfl ?_
  refine V_iconst (v := nI 0) hX dX8_seated_1 (by decide) ?_
  refine V_iconst (v := nI 1) hX dX8_seated_2 (by decide) ?_
  refine V_callS (As := [.int (nI 1), .int (nI 0), .int (nI 1)]) (st := []) hX mX8_73 (k_isOutside ?_) rfl (Nat.le_of_ble_eq_true rfl) (Nat.le_of_ble_eq_true rfl) dX8_seated_3
  show V G 2 X 6 [(0, .ref 0), (1, .int (nI 1))] [.int (bI (nI 1 < nI 0 ∨ nI 1 < nI 1))] μ
  refine V_if_eqB (tgt := 12) hX dX8_seated_6 (by decide) (fun c6 => ?_) (fun c6 => ?_)
  · refine V_aload_n hX dX8_seated_12 0 rfl ?_
    refine V_getr (j := 31) hX fX8_30 rfl rfl dX8_seated_13 ?_
    refine V_callV (As := []) (st := []) hX mX8_137 rfl (kC_hasFault hL hS hL60 ?_) rfl (Nat.le_of_ble_eq_true rfl) (Nat.le_of_ble_eq_true rfl) dX8_seated_16
    show V G 2 X 19 [(0, .ref 0), (1, .int (nI 1))] [.int (bI (¬ fltU S L = -6))] μ
    refine V_if_eqB (tgt := 27) hX dX8_seated_19 (by decide) (fun c19 => ?_) (fun c19 => ?_)
    · refine V_aload_n hX dX8_seated_27 0 rfl ?_
      refine V_iload_n hX dX8_seated_28 1 rfl ?_
      refine V_iconst (v := nI 1) hX dX8_seated_29 (by decide) ?_
      refine V_icmp_neN (tgt := 37) hX dX8_seated_30 (by decide) (by omega) (by omega) (fun c30 => ?_) (fun c30 => ?_)
      · exact absurd c30 (by decide)
      · refine V_iconst (v := nI 1) hX dX8_seated_33 (by decide) ?_
        refine V_goto (tgt := 38) hX dX8_seated_34 (by decide) ?_
        refine V_callV (As := [.int (nI 1)]) (st := []) hX mX8_186 rfl (k_bestChange1 hRC hok hpd (fun μ2 hRC2 hkM => ?_)) rfl (Nat.le_of_ble_eq_true rfl) (Nat.le_of_ble_eq_true rfl) dX8_seated_38
        show V G 2 X 41 [(0, .ref 0), (1, .int (nI 1))] [.int ((seO P S L 8).2)] μ2
        refine V_iret hX rfl dX8_seated_41 ?_
        have h9 := hQ μ2
        rw [show seatedS P L S (nI 1) = (seO P S L 8).2 from (if_pos (in_of_not_out c6)).trans ((if_pos (Decidable.not_not.mp c19)).trans (if_neg (by rw [nI_clamp (by decide)]; decide)))] at h9
        exact hR _ _ (h9 hRC2 hkM)
    · refine V_bipush (v := (-5)) hX dX8_seated_22 (by decide) ?_
      refine V_goto (tgt := 41) hX dX8_seated_24 (by decide) ?_
      refine V_iret hX rfl dX8_seated_41 ?_
      have h9 := hQ μ
      rw [show seatedS P L S (nI 1) = -5 from (if_pos (in_of_not_out c6)).trans (if_neg c19)] at h9
      exact hR _ _ (h9 hRC (keepM.rf μ))
  · refine V_bipush (v := (-2)) hX dX8_seated_9 (by decide) ?_
    refine V_iret hX rfl dX8_seated_11 ?_
    exact absurd c6 (by decide)
set_option maxRecDepth 100000 in
set_option maxHeartbeats 4000000 in
theorem kC_seated2 {G : VG} {d : Nat} {μ : VS} {Q : Option Value → VS → Prop} {P : PC} {L : Nat} {S κ : Nat → Nat} {I : Nat → PC} {w_ : Int32} (hw : ¬ inZ w_ 0 1) (hRC : RC μ P L S κ I) (hok : okP P) (hpd : okPad L S) (hQ : ∀ μ', RC μ' P L S κ I → keepM μ μ' → Q (some (.int (seatedS P L S w_))) μ') : Call G (d + 8) yX8_seated cX8_seated 2 (some .int) [.ref 0, .int w_] μ Q := by
  intro X hX hR
  have hP := hRC.1
  have hL := hRC.2.1
  have hS := hpd.2
  have hL60 := hpd.1
  have hP4 := hok.2.2.2.2.1
  show V G 2 X 0 [(0, .ref 0), (1, .int w_)] [] μ
  refine V_iload_n hX dX8_seated_0 1 rfl ?_
  refine V_iconst (v := nI 0) hX dX8_seated_1 (by decide) ?_
  refine V_iconst (v := nI 1) hX dX8_seated_2 (by decide) ?_
  refine V_callS (As := [.int w_, .int (nI 0), .int (nI 1)]) (st := []) hX mX8_73 (k_isOutside ?_) rfl (Nat.le_of_ble_eq_true rfl) (Nat.le_of_ble_eq_true rfl) dX8_seated_3
  show V G 2 X 6 [(0, .ref 0), (1, .int w_)] [.int (bI (w_ < nI 0 ∨ nI 1 < w_))] μ
  refine V_if_eqB (tgt := 12) hX dX8_seated_6 (by decide) (fun c6 => ?_) (fun c6 => ?_)
  · exact absurd (in_of_not_out c6) hw
  · refine V_bipush (v := (-2)) hX dX8_seated_9 (by decide) ?_
    refine V_iret hX rfl dX8_seated_11 ?_
    have h9 := hQ μ
    rw [show seatedS P L S w_ = -2 from if_neg hw] at h9
    exact hR _ _ (h9 hRC (keepM.rf μ))
theorem kC_seated {G : VG} {d : Nat} {μ : VS} {Q : Option Value → VS → Prop} {P : PC} {L : Nat} {S κ : Nat → Nat} {I : Nat → PC} {w_ : Int32} (hRC : RC μ P L S κ I) (hok : okP P) (hpd : okPad L S)  (hQ : ∀ μ', RC μ' P L S κ I → keepM μ μ' → Q (some (.int (seatedS P L S w_))) μ') : Call G (d + 8) yX8_seated cX8_seated 2 (some .int) [.ref 0, .int w_] μ Q := by
  by_cases hw : inZ w_ 0 1
  · obtain ⟨j, -, hj, rfl⟩ := nat_of_in (by decide) (by decide) hw
    rcases (by omega : j = 0 ∨ j = 1) with e | e <;> subst e
    · exact kC_seated0 hRC hok hpd hQ
    · exact kC_seated1 hRC hok hpd hQ
  · exact kC_seated2 hw hRC hok hpd hQ
set_option maxRecDepth 100000 in
set_option maxHeartbeats 4000000 in
theorem lpM_seat10 {G : VG} {d : Nat} {μ : VS} {X : VX} {P : PC} {L : Nat} {S κ : Nat → Nat} {I : Nat → PC} {h_ : Nat} (hX : Cx G (d + 5) yX9_seated cX9_seated 7 (some .int) X) (hok : okP P) (hpd : okPad L S) (hh : h_ < 8) (hF : ∀ μ1, RM μ1 P L S κ I → keepC μ μ1 → V G 7 X 182 [(0, .ref 69), (1, .int (nI 0)), (2, .int (nI ((seI P S L (seO P S L h_) h_ (4 * P 0 0)).1))), (3, .int ((seI P S L (seO P S L h_) h_ (4 * P 0 0)).2)), (4, .int (nI h_)), (5, .int (nI (4 * P 0 0)))] [] μ1) : ∀ (j s_ : Nat) (μ0 : VS), s_ ≤ 4 * P 0 0 → 4 * P 0 0 + 1 ≤ s_ + j → RM μ0 P L S κ I → keepC μ μ0 → V G 7 X 55 [(0, .ref 69), (1, .int (nI 0)), (2, .int (nI ((seI P S L (seO P S L h_) h_ s_).1))), (3, .int ((seI P S L (seO P S L h_) h_ s_).2)), (4, .int (nI h_)), (5, .int (nI s_))] [] μ0 := by
  have hL60 := hpd.1
  have hS := hpd.2
  have hr3 := hok.1.2
  have hP4 := hok.2.2.2.2.1
  have h12 : ∀ h, h < 8 → P 1 h < 12 := fun h hh => (hok.2.2.2.2.2.2.2.1 h hh).1
  intro j
  induction j with
  | zero =>
    intro s_ μ0 h1 h2
    exact absurd h2 (by omega)
  | succ j ih =>
    intro s_ μ0 h1 h2 hR0 hC0
    refine V_iload hX dX9_seated_55 5 rfl ?_
    refine V_iconst (v := nI 4) hX dX9_seated_57 (by decide) ?_
    refine V_aload_n hX dX9_seated_58 0 rfl ?_
    refine V_getN (x := nI (P 0 0)) hX fX9_7 rfl (hR0.1.1 0 (by decide)) dX9_seated_59 ?_
    refine V_imulN hX dX9_seated_62 ?_
    refine V_icmp_geN (tgt := 182) hX dX9_seated_63 (by decide) (by first | omega | (have := se_bd hok (S := S) (L := L) h_ s_; omega) | (have := h12 h_ hh; omega)) (by first | omega | (have := se_bd hok (S := S) (L := L) h_ s_; omega) | (have := h12 h_ hh; omega)) (fun c63 => ?_) (fun c63 => ?_)
    · obtain rfl : s_ = 4 * P 0 0 := by omega
      exact hF μ0 hR0 hC0
    · refine V_aload_n hX dX9_seated_66 0 rfl ?_
      refine V_getN (x := nI (P 0 4)) hX fX9_72 rfl (hR0.1.1 4 (by decide)) dX9_seated_67 ?_
      refine V_iload hX dX9_seated_70 4 rfl ?_
      refine V_callS (As := [.int (nI (P 0 4)), .int (nI h_)]) (st := []) hX mX9_79 (k_has (by first | omega | (have := se_bd hok (S := S) (L := L) h_ s_; omega) | (have := h12 h_ hh; omega)) (by first | omega | (have := se_bd hok (S := S) (L := L) h_ s_; omega) | (have := h12 h_ hh; omega)) ?_) rfl (Nat.le_of_ble_eq_true rfl) (Nat.le_of_ble_eq_true rfl) dX9_seated_72
      show V G 7 X 75 [(0, .ref 69), (1, .int (nI 0)), (2, .int (nI ((seI P S L (seO P S L h_) h_ s_).1))), (3, .int ((seI P S L (seO P S L h_) h_ s_).2)), (4, .int (nI h_)), (5, .int (nI s_))] [.int (bI ((P 0 4).testBit h_ = true))] μ0
      refine V_if_eqB (tgt := 176) hX dX9_seated_75 (by decide) (fun c75 => ?_) (fun c75 => ?_)
      · refine V_iincN (n := 1) (ls' := [(0, .ref 69), (1, .int (nI 0)), (2, .int (nI ((seI P S L (seO P S L h_) h_ s_).1))), (3, .int ((seI P S L (seO P S L h_) h_ s_).2)), (4, .int (nI h_)), (5, .int (nI (s_ + 1)))]) hX dX9_seated_176 5 rfl (by decide) rfl ?_
        refine V_goto (tgt := 55) hX dX9_seated_179 (by decide) ?_
        have h9 := ih (s_ + 1) μ0 (by omega) (by omega) hR0 hC0
        rw [show seI P S L (seO P S L h_) h_ (s_ + 1) = seI P S L (seO P S L h_) h_ s_ from if_neg (fun z => c75 z.1)] at h9
        exact h9
      · refine V_iload hX dX9_seated_78 5 rfl ?_
        refine V_aload_n hX dX9_seated_80 0 rfl ?_
        refine V_getr (j := 70) hX fX9_13 rfl rfl dX9_seated_81 ?_
        refine V_iload hX dX9_seated_84 4 rfl ?_
        refine V_ialdN (x := nI (P 1 h_)) hX rfl (by first | omega | (have := se_bd hok (S := S) (L := L) h_ s_; omega) | (have := h12 h_ hh; omega)) (by decide) (hR0.1.2.1 0 (by decide) _ (by omega)) dX9_seated_86 ?_
        refine V_icmp_eqN (tgt := 176) hX dX9_seated_87 (by decide) (by first | omega | (have := se_bd hok (S := S) (L := L) h_ s_; omega) | (have := h12 h_ hh; omega)) (by first | omega | (have := se_bd hok (S := S) (L := L) h_ s_; omega) | (have := h12 h_ hh; omega)) (fun c87 => ?_) (fun c87 => ?_)
        · refine V_iincN (n := 1) (ls' := [(0, .ref 69), (1, .int (nI 0)), (2, .int (nI ((seI P S L (seO P S L h_) h_ s_).1))), (3, .int ((seI P S L (seO P S L h_) h_ s_).2)), (4, .int (nI h_)), (5, .int (nI (s_ + 1)))]) hX dX9_seated_176 5 rfl (by decide) rfl ?_
          refine V_goto (tgt := 55) hX dX9_seated_179 (by decide) ?_
          have h9 := ih (s_ + 1) μ0 (by omega) (by omega) hR0 hC0
          rw [show seI P S L (seO P S L h_) h_ (s_ + 1) = seI P S L (seO P S L h_) h_ s_ from if_neg (fun z => z.2.1 c87)] at h9
          exact h9
        · refine V_aload_n hX dX9_seated_90 0 rfl ?_
          refine V_callV (As := []) (st := []) hX mX9_160 rfl (kM_lay hR0.1 hR0.2.1 hL60 (fun μ1 hLy hK1 => ?_)) rfl (Nat.le_of_ble_eq_true rfl) (Nat.le_of_ble_eq_true rfl) dX9_seated_91
          show V G 7 X 94 [(0, .ref 69), (1, .int (nI 0)), (2, .int (nI ((seI P S L (seO P S L h_) h_ s_).1))), (3, .int ((seI P S L (seO P S L h_) h_ s_).2)), (4, .int (nI h_)), (5, .int (nI s_))] [] μ1
          have hR1 := hR0.keep hK1
          refine V_aload_n hX dX9_seated_94 0 rfl ?_
          refine V_iload hX dX9_seated_95 5 rfl ?_
          refine V_callV (As := [.int (nI s_)]) (st := []) hX mX9_92 rfl (kM_whoSits hR1.1 hP4 h12 (by omega) ?_) rfl (Nat.le_of_ble_eq_true rfl) (Nat.le_of_ble_eq_true rfl) dX9_seated_97
          show V G 7 X 100 [(0, .ref 69), (1, .int (nI 0)), (2, .int (nI ((seI P S L (seO P S L h_) h_ s_).1))), (3, .int ((seI P S L (seO P S L h_) h_ s_).2)), (4, .int (nI h_)), (5, .int (nI s_))] [.int (sitK P s_ 8)] μ1
          refine V_istore (ls' := [(0, .ref 69), (1, .int (nI 0)), (2, .int (nI ((seI P S L (seO P S L h_) h_ s_).1))), (3, .int ((seI P S L (seO P S L h_) h_ s_).2)), (4, .int (nI h_)), (5, .int (nI s_)), (6, .int (sitK P s_ 8))]) hX dX9_seated_100 (by decide) rfl ?_
          refine V_aload_n hX dX9_seated_102 0 rfl ?_
          refine V_getr (j := 77) hX fX9_41 rfl rfl dX9_seated_103 ?_
          refine V_iload hX dX9_seated_106 4 rfl ?_
          refine V_iload hX dX9_seated_108 5 rfl ?_
          refine V_iastN hX rfl (by first | omega | (have := se_bd hok (S := S) (L := L) h_ s_; omega) | (have := h12 h_ hh; omega)) (by decide) dX9_seated_110 ?_
          show V G 7 X 111 [(0, .ref 69), (1, .int (nI 0)), (2, .int (nI ((seI P S L (seO P S L h_) h_ s_).1))), (3, .int ((seI P S L (seO P S L h_) h_ s_).2)), (4, .int (nI h_)), (5, .int (nI s_)), (6, .int (sitK P s_ 8))] [] (vup μ1.1 77 h_ (nI s_), μ1.2)
          refine V_iload hX dX9_seated_111 6 rfl ?_
          refine V_if_lt (tgt := 130) hX dX9_seated_113 (by decide) (fun c113 => ?_) (fun c113 => ?_)
          · have hKa : mKeep μ1 (vup μ1.1 77 h_ (nI s_), μ1.2) := mKeep.put (a := 77) (k := h_) (x := nI s_) (Or.inl (by decide))
            have hRa := hR1.keep hKa
            have hEa : isE (vup μ1.1 77 h_ (nI s_), μ1.2) (chP P h_ s_) := ⟨hLy.1.1, fun g hg => by
              show _ = nI (chF P h_ s_ g)
              dsimp only
              unfold chF
              rw [vup_get]
              by_cases e1 : g = h_
              · rw [if_pos ⟨rfl, e1⟩, if_pos e1]
              · rw [if_neg (fun z => e1 z.2), if_neg e1, if_neg (sit_free hok (sitK_neg (by decide) c113) g)]; exact hLy.1.2.1 g hg, hLy.1.2.2⟩
            have hokc := ch_ok hok (h := h_) (s := s_) c75 (by omega)
            have hbd : seZ P S L h_ s_ ≤ 8 * L := uAt7 (P := chP P h_ s_) hok.2.2.1 S L
            refine V_aload_n hX dX9_seated_130 0 rfl ?_
            refine V_aload_n hX dX9_seated_131 0 rfl ?_
            refine V_getN (x := nI L) hX fX9_103 rfl hR1.2.1.1 dX9_seated_132 ?_
            refine V_callV (As := [.int (nI L)]) (st := []) hX mX9_163 rfl (kM_preach (E := chP P h_ s_) (sg_ := S) (cb_ := noC) (cm_ := 0) hEa hokc hLy.2.2.2 (by omega) (fun i hi => hLy.2.2.1 i hi) (fun i hi => by have := hS i hi; omega) (fun i _ => Or.inr ⟨rfl, rfl⟩) (fun μ2 hp => ?_)) rfl (Nat.le_of_ble_eq_true rfl) (Nat.le_of_ble_eq_true rfl) dX9_seated_135
            show V G 7 X 138 [(0, .ref 69), (1, .int (nI 0)), (2, .int (nI ((seI P S L (seO P S L h_) h_ s_).1))), (3, .int ((seI P S L (seO P S L h_) h_ s_).2)), (4, .int (nI h_)), (5, .int (nI s_)), (6, .int (sitK P s_ 8))] [] μ2
            have hR2 := hRa.keep hp.1.keep
            have hC2 : keepC μ μ2 := hC0.tr ((hK1.tr hKa).tr hp.1.keep).C
            refine V_aload_n hX dX9_seated_138 0 rfl ?_
            refine V_getN (x := nI (seZ P S L h_ s_)) hX fX9_141 rfl hp.2.2.2.1.1 dX9_seated_139 ?_
            refine V_iload_n hX dX9_seated_142 2 rfl ?_
            refine V_icmp_geN (tgt := 157) hX dX9_seated_143 (by decide) (by first | omega | (have := se_bd hok (S := S) (L := L) h_ s_; omega) | (have := h12 h_ hh; omega)) (by first | omega | (have := se_bd hok (S := S) (L := L) h_ s_; omega) | (have := h12 h_ hh; omega)) (fun c143 => ?_) (fun c143 => ?_)
            · refine V_iload_n hX dX9_seated_157 3 rfl ?_
              refine V_istore_n (ls' := [(0, .ref 69), (1, .int (nI 0)), (2, .int (nI ((seI P S L (seO P S L h_) h_ s_).1))), (3, .int ((seI P S L (seO P S L h_) h_ s_).2)), (4, .int (nI h_)), (5, .int (nI s_)), (6, .int (sitK P s_ 8))]) hX dX9_seated_158 (by decide) rfl ?_
              refine V_aload_n hX dX9_seated_159 0 rfl ?_
              refine V_getN (x := nI (seZ P S L h_ s_)) hX fX9_141 rfl hp.2.2.2.1.1 dX9_seated_160 ?_
              refine V_iload_n hX dX9_seated_163 2 rfl ?_
              refine V_icmp_geN (tgt := 174) hX dX9_seated_164 (by decide) (by first | omega | (have := se_bd hok (S := S) (L := L) h_ s_; omega) | (have := h12 h_ hh; omega)) (by first | omega | (have := se_bd hok (S := S) (L := L) h_ s_; omega) | (have := h12 h_ hh; omega)) (fun c164 => ?_) (fun c164 => ?_)
              · refine V_iload_n hX dX9_seated_174 2 rfl ?_
                refine V_istore_n (ls' := [(0, .ref 69), (1, .int (nI 0)), (2, .int (nI ((seI P S L (seO P S L h_) h_ s_).1))), (3, .int ((seI P S L (seO P S L h_) h_ s_).2)), (4, .int (nI h_)), (5, .int (nI s_)), (6, .int (sitK P s_ 8))]) hX dX9_seated_175 (by decide) rfl ?_
                refine V_iincN (n := 1) (ls' := [(0, .ref 69), (1, .int (nI 0)), (2, .int (nI ((seI P S L (seO P S L h_) h_ s_).1))), (3, .int ((seI P S L (seO P S L h_) h_ s_).2)), (4, .int (nI h_)), (5, .int (nI (s_ + 1))), (6, .int (sitK P s_ 8))]) hX dX9_seated_176 5 rfl (by decide) rfl ?_
                refine V_goto (tgt := 55) hX dX9_seated_179 (by decide) ?_
                have h9 := ih (s_ + 1) μ2 (by omega) (by omega) hR2 hC2
                rw [show seI P S L (seO P S L h_) h_ (s_ + 1) = seI P S L (seO P S L h_) h_ s_ from if_neg (fun z => absurd z.2.2 (by omega))] at h9
                exact V_sub [0, 1, 2, 3, 4, 5] rfl h9
              · exact absurd c164 (by omega)
            · refine V_bipush (v := nI 100) hX dX9_seated_146 (by decide) ?_
              refine V_iload hX dX9_seated_148 4 rfl ?_
              refine V_imulN hX dX9_seated_150 ?_
              refine V_iload hX dX9_seated_151 5 rfl ?_
              refine V_iaddN hX dX9_seated_153 ?_
              refine V_goto (tgt := 158) hX dX9_seated_154 (by decide) ?_
              refine V_istore_n (ls' := [(0, .ref 69), (1, .int (nI 0)), (2, .int (nI ((seI P S L (seO P S L h_) h_ s_).1))), (3, .int (nI ((100 * h_) + s_))), (4, .int (nI h_)), (5, .int (nI s_)), (6, .int (sitK P s_ 8))]) hX dX9_seated_158 (by decide) rfl ?_
              refine V_aload_n hX dX9_seated_159 0 rfl ?_
              refine V_getN (x := nI (seZ P S L h_ s_)) hX fX9_141 rfl hp.2.2.2.1.1 dX9_seated_160 ?_
              refine V_iload_n hX dX9_seated_163 2 rfl ?_
              refine V_icmp_geN (tgt := 174) hX dX9_seated_164 (by decide) (by first | omega | (have := se_bd hok (S := S) (L := L) h_ s_; omega) | (have := h12 h_ hh; omega)) (by first | omega | (have := se_bd hok (S := S) (L := L) h_ s_; omega) | (have := h12 h_ hh; omega)) (fun c164 => ?_) (fun c164 => ?_)
              · exact absurd c164 (by omega)
              · refine V_aload_n hX dX9_seated_167 0 rfl ?_
                refine V_getN (x := nI (seZ P S L h_ s_)) hX fX9_141 rfl hp.2.2.2.1.1 dX9_seated_168 ?_
                refine V_goto (tgt := 175) hX dX9_seated_171 (by decide) ?_
                refine V_istore_n (ls' := [(0, .ref 69), (1, .int (nI 0)), (2, .int (nI (seZ P S L h_ s_))), (3, .int (nI ((100 * h_) + s_))), (4, .int (nI h_)), (5, .int (nI s_)), (6, .int (sitK P s_ 8))]) hX dX9_seated_175 (by decide) rfl ?_
                refine V_iincN (n := 1) (ls' := [(0, .ref 69), (1, .int (nI 0)), (2, .int (nI (seZ P S L h_ s_))), (3, .int (nI ((100 * h_) + s_))), (4, .int (nI h_)), (5, .int (nI (s_ + 1))), (6, .int (sitK P s_ 8))]) hX dX9_seated_176 5 rfl (by decide) rfl ?_
                refine V_goto (tgt := 55) hX dX9_seated_179 (by decide) ?_
                have h9 := ih (s_ + 1) μ2 (by omega) (by omega) hR2 hC2
                rw [show seI P S L (seO P S L h_) h_ (s_ + 1) = (seZ P S L h_ s_, nI (100 * h_ + s_)) from if_pos ⟨c75, c87, c143⟩] at h9
                exact V_sub [0, 1, 2, 3, 4, 5] rfl h9
          · obtain ⟨o_, ho, hpo, hso, hse⟩ := (sitK_cases P s_ 8).resolve_left (fun e => c113 (by rw [e]; decide))
            rw [hse]
            refine V_aload_n hX dX9_seated_116 0 rfl ?_
            refine V_getr (j := 77) hX fX9_41 rfl rfl dX9_seated_117 ?_
            refine V_iload hX dX9_seated_120 6 rfl ?_
            refine V_aload_n hX dX9_seated_122 0 rfl ?_
            refine V_getr (j := 70) hX fX9_13 rfl rfl dX9_seated_123 ?_
            refine V_iload hX dX9_seated_126 4 rfl ?_
            refine V_ialdN (x := nI (P 1 h_)) hX rfl (by first | omega | (have := se_bd hok (S := S) (L := L) h_ s_; omega) | (have := h12 h_ hh; omega)) (by decide) (hR1.1.2.1 0 (by decide) _ (by omega)) dX9_seated_128 ?_
            refine V_iastN hX rfl (by first | omega | (have := se_bd hok (S := S) (L := L) h_ s_; omega) | (have := h12 h_ hh; omega)) (by decide) dX9_seated_129 ?_
            show V G 7 X 130 [(0, .ref 69), (1, .int (nI 0)), (2, .int (nI ((seI P S L (seO P S L h_) h_ s_).1))), (3, .int ((seI P S L (seO P S L h_) h_ s_).2)), (4, .int (nI h_)), (5, .int (nI s_)), (6, .int (nI o_))] [] (vup (vup μ1.1 77 h_ (nI s_)) 77 o_ (nI (P 1 h_)), μ1.2)
            have hKa : mKeep μ1 (vup (vup μ1.1 77 h_ (nI s_)) 77 o_ (nI (P 1 h_)), μ1.2) := (mKeep.put (a := 77) (k := h_) (x := nI s_) (Or.inl (by decide))).tr (mKeep.put (a := 77) (k := o_) (x := nI (P 1 h_)) (Or.inl (by decide)))
            have hRa := hR1.keep hKa
            have hEa : isE (vup (vup μ1.1 77 h_ (nI s_)) 77 o_ (nI (P 1 h_)), μ1.2) (chP P h_ s_) := ⟨hLy.1.1, fun g hg => by
              show _ = nI (chF P h_ s_ g)
              dsimp only
              unfold chF
              rw [vup_get, vup_get]
              by_cases e1 : g = h_
              · rw [if_neg (by rintro ⟨-, rfl⟩; rw [e1] at hso; exact c87 hso.symm), if_pos ⟨rfl, e1⟩, if_pos e1]
              · by_cases e2 : g = o_
                · rw [if_pos ⟨rfl, e2⟩, if_neg e1, if_pos (by rw [e2]; exact ⟨hpo, hso⟩)]
                · rw [if_neg (fun z => e2 z.2), if_neg (fun z => e1 z.2), if_neg e1, if_neg (fun z => e2 (hok.2.2.2.2.2.2.2.2.2.2 g hg o_ ho z.1 hpo (by omega)))]; exact hLy.1.2.1 g hg, hLy.1.2.2⟩
            have hokc := ch_ok hok (h := h_) (s := s_) c75 (by omega)
            have hbd : seZ P S L h_ s_ ≤ 8 * L := uAt7 (P := chP P h_ s_) hok.2.2.1 S L
            refine V_aload_n hX dX9_seated_130 0 rfl ?_
            refine V_aload_n hX dX9_seated_131 0 rfl ?_
            refine V_getN (x := nI L) hX fX9_103 rfl hR1.2.1.1 dX9_seated_132 ?_
            refine V_callV (As := [.int (nI L)]) (st := []) hX mX9_163 rfl (kM_preach (E := chP P h_ s_) (sg_ := S) (cb_ := noC) (cm_ := 0) hEa hokc hLy.2.2.2 (by omega) (fun i hi => hLy.2.2.1 i hi) (fun i hi => by have := hS i hi; omega) (fun i _ => Or.inr ⟨rfl, rfl⟩) (fun μ2 hp => ?_)) rfl (Nat.le_of_ble_eq_true rfl) (Nat.le_of_ble_eq_true rfl) dX9_seated_135
            show V G 7 X 138 [(0, .ref 69), (1, .int (nI 0)), (2, .int (nI ((seI P S L (seO P S L h_) h_ s_).1))), (3, .int ((seI P S L (seO P S L h_) h_ s_).2)), (4, .int (nI h_)), (5, .int (nI s_)), (6, .int (nI o_))] [] μ2
            have hR2 := hRa.keep hp.1.keep
            have hC2 : keepC μ μ2 := hC0.tr ((hK1.tr hKa).tr hp.1.keep).C
            refine V_aload_n hX dX9_seated_138 0 rfl ?_
            refine V_getN (x := nI (seZ P S L h_ s_)) hX fX9_141 rfl hp.2.2.2.1.1 dX9_seated_139 ?_
            refine V_iload_n hX dX9_seated_142 2 rfl ?_
            refine V_icmp_geN (tgt := 157) hX dX9_seated_143 (by decide) (by first | omega | (have := se_bd hok (S := S) (L := L) h_ s_; omega) | (have := h12 h_ hh; omega)) (by first | omega | (have := se_bd hok (S := S) (L := L) h_ s_; omega) | (have := h12 h_ hh; omega)) (fun c143 => ?_) (fun c143 => ?_)
            · refine V_iload_n hX dX9_seated_157 3 rfl ?_
              refine V_istore_n (ls' := [(0, .ref 69), (1, .int (nI 0)), (2, .int (nI ((seI P S L (seO P S L h_) h_ s_).1))), (3, .int ((seI P S L (seO P S L h_) h_ s_).2)), (4, .int (nI h_)), (5, .int (nI s_)), (6, .int (nI o_))]) hX dX9_seated_158 (by decide) rfl ?_
              refine V_aload_n hX dX9_seated_159 0 rfl ?_
              refine V_getN (x := nI (seZ P S L h_ s_)) hX fX9_141 rfl hp.2.2.2.1.1 dX9_seated_160 ?_
              refine V_iload_n hX dX9_seated_163 2 rfl ?_
              refine V_icmp_geN (tgt := 174) hX dX9_seated_164 (by decide) (by first | omega | (have := se_bd hok (S := S) (L := L) h_ s_; omega) | (have := h12 h_ hh; omega)) (by first | omega | (have := se_bd hok (S := S) (L := L) h_ s_; omega) | (have := h12 h_ hh; omega)) (fun c164 => ?_) (fun c164 => ?_)
              · refine V_iload_n hX dX9_seated_174 2 rfl ?_
                refine V_istore_n (ls' := [(0, .ref 69), (1, .int (nI 0)), (2, .int (nI ((seI P S L (seO P S L h_) h_ s_).1))), (3, .int ((seI P S L (seO P S L h_) h_ s_).2)), (4, .int (nI h_)), (5, .int (nI s_)), (6, .int (nI o_))]) hX dX9_seated_175 (by decide) rfl ?_
                refine V_iincN (n := 1) (ls' := [(0, .ref 69), (1, .int (nI 0)), (2, .int (nI ((seI P S L (seO P S L h_) h_ s_).1))), (3, .int ((seI P S L (seO P S L h_) h_ s_).2)), (4, .int (nI h_)), (5, .int (nI (s_ + 1))), (6, .int (nI o_))]) hX dX9_seated_176 5 rfl (by decide) rfl ?_
                refine V_goto (tgt := 55) hX dX9_seated_179 (by decide) ?_
                have h9 := ih (s_ + 1) μ2 (by omega) (by omega) hR2 hC2
                rw [show seI P S L (seO P S L h_) h_ (s_ + 1) = seI P S L (seO P S L h_) h_ s_ from if_neg (fun z => absurd z.2.2 (by omega))] at h9
                exact V_sub [0, 1, 2, 3, 4, 5] rfl h9
              · exact absurd c164 (by omega)
            · refine V_bipush (v := nI 100) hX dX9_seated_146 (by decide) ?_
              refine V_iload hX dX9_seated_148 4 rfl ?_
              refine V_imulN hX dX9_seated_150 ?_
              refine V_iload hX dX9_seated_151 5 rfl ?_
              refine V_iaddN hX dX9_seated_153 ?_
              refine V_goto (tgt := 158) hX dX9_seated_154 (by decide) ?_
              refine V_istore_n (ls' := [(0, .ref 69), (1, .int (nI 0)), (2, .int (nI ((seI P S L (seO P S L h_) h_ s_).1))), (3, .int (nI ((100 * h_) + s_))), (4, .int (nI h_)), (5, .int (nI s_)), (6, .int (nI o_))]) hX dX9_seated_158 (by decide) rfl ?_
              refine V_aload_n hX dX9_seated_159 0 rfl ?_
              refine V_getN (x := nI (seZ P S L h_ s_)) hX fX9_141 rfl hp.2.2.2.1.1 dX9_seated_160 ?_
              refine V_iload_n hX dX9_seated_163 2 rfl ?_
              refine V_icmp_geN (tgt := 174) hX dX9_seated_164 (by decide) (by first | omega | (have := se_bd hok (S := S) (L := L) h_ s_; omega) | (have := h12 h_ hh; omega)) (by first | omega | (have := se_bd hok (S := S) (L := L) h_ s_; omega) | (have := h12 h_ hh; omega)) (fun c164 => ?_) (fun c164 => ?_)
              · exact absurd c164 (by omega)
              · refine V_aload_n hX dX9_seated_167 0 rfl ?_
                refine V_getN (x := nI (seZ P S L h_ s_)) hX fX9_141 rfl hp.2.2.2.1.1 dX9_seated_168 ?_
                refine V_goto (tgt := 175) hX dX9_seated_171 (by decide) ?_
                refine V_istore_n (ls' := [(0, .ref 69), (1, .int (nI 0)), (2, .int (nI (seZ P S L h_ s_))), (3, .int (nI ((100 * h_) + s_))), (4, .int (nI h_)), (5, .int (nI s_)), (6, .int (nI o_))]) hX dX9_seated_175 (by decide) rfl ?_
                refine V_iincN (n := 1) (ls' := [(0, .ref 69), (1, .int (nI 0)), (2, .int (nI (seZ P S L h_ s_))), (3, .int (nI ((100 * h_) + s_))), (4, .int (nI h_)), (5, .int (nI (s_ + 1))), (6, .int (nI o_))]) hX dX9_seated_176 5 rfl (by decide) rfl ?_
                refine V_goto (tgt := 55) hX dX9_seated_179 (by decide) ?_
                have h9 := ih (s_ + 1) μ2 (by omega) (by omega) hR2 hC2
                rw [show seI P S L (seO P S L h_) h_ (s_ + 1) = (seZ P S L h_ s_, nI (100 * h_ + s_)) from if_pos ⟨c75, c87, c143⟩] at h9
                exact V_sub [0, 1, 2, 3, 4, 5] rfl h9
set_option maxRecDepth 100000 in
set_option maxHeartbeats 4000000 in
theorem lpM_seat20 {G : VG} {d : Nat} {μ : VS} {Q : Option Value → VS → Prop} {X : VX} {P : PC} {L : Nat} {S κ : Nat → Nat} {I : Nat → PC} (hX : Cx G (d + 5) yX9_seated cX9_seated 7 (some .int) X) (hR : ∀ r μ', Q r μ' → Ret G X r μ') (hok : okP P) (hpd : okPad L S) (hQ : ∀ μ', RM μ' P L S κ I → keepC μ μ' → Q (some (.int (nI (seO P S L 8).1))) μ') : ∀ (j h_ : Nat) (μ0 : VS), h_ ≤ 8 → 9 ≤ h_ + j → RM μ0 P L S κ I → keepC μ μ0 → V G 7 X 45 [(0, .ref 69), (1, .int (nI 0)), (2, .int (nI ((seO P S L h_).1))), (3, .int ((seO P S L h_).2)), (4, .int (nI h_))] [] μ0 := by
  intro j
  induction j with
  | zero =>
    intro h_ μ0 h1 h2
    exact absurd h2 (by omega)
  | succ j ih =>
    intro h_ μ0 h1 h2 hR0 hC0
    refine V_iload hX dX9_seated_45 4 rfl ?_
    refine V_bipush (v := nI 8) hX dX9_seated_47 (by decide) ?_
    refine V_icmp_geN (tgt := 188) hX dX9_seated_49 (by decide) (by omega) (by omega) (fun c49 => ?_) (fun c49 => ?_)
    · refine V_iload_n hX dX9_seated_188 1 rfl ?_
      refine V_if_neN (tgt := 196) hX dX9_seated_189 (by decide) (by omega) (fun c189 => ?_) (fun c189 => ?_)
      · exact absurd c189 (by decide)
      · refine V_iload_n hX dX9_seated_192 2 rfl ?_
        refine V_goto (tgt := 197) hX dX9_seated_193 (by decide) ?_
        refine V_iret hX rfl dX9_seated_197 ?_
        obtain rfl : h_ = 8 := by omega
        exact hR _ _ (hQ μ0 hR0 hC0)
    · refine V_iconst (v := nI 0) hX dX9_seated_52 (by decide) ?_
      refine V_istore (ls' := [(0, .ref 69), (1, .int (nI 0)), (2, .int (nI ((seO P S L h_).1))), (3, .int ((seO P S L h_).2)), (4, .int (nI h_)), (5, .int (nI 0))]) hX dX9_seated_53 (by decide) rfl ?_
      refine lpM_seat10 (μ := μ) hX hok hpd (by omega) (fun μ2 hR2 hM2 => ?_) (4 * P 0 0 + 1) 0 μ0 (by omega) (by omega) hR0 hC0
      refine V_iincN (n := 1) (ls' := [(0, .ref 69), (1, .int (nI 0)), (2, .int (nI ((seI P S L (seO P S L h_) h_ (4 * P 0 0)).1))), (3, .int ((seI P S L (seO P S L h_) h_ (4 * P 0 0)).2)), (4, .int (nI (h_ + 1))), (5, .int (nI (4 * P 0 0)))]) hX dX9_seated_182 4 rfl (by decide) rfl ?_
      refine V_goto (tgt := 45) hX dX9_seated_185 (by decide) ?_
      exact V_sub [0, 1, 2, 3, 4] rfl (ih (h_ + 1) μ2 (by omega) (by omega) hR2 hM2)
set_option maxRecDepth 100000 in
set_option maxHeartbeats 4000000 in
theorem kM_seated0 {G : VG} {d : Nat} {μ : VS} {Q : Option Value → VS → Prop} {P : PC} {L : Nat} {S κ : Nat → Nat} {I : Nat → PC} (hRM : RM μ P L S κ I) (hok : okP P) (hpd : okPad L S) (hQ : ∀ μ', RM μ' P L S κ I → keepC μ μ' → Q (some (.int (seatedS P L S (nI 0)))) μ') : Call G (d + 6) yX9_seated cX9_seated 7 (some .int) [.ref 69, .int (nI 0)] μ Q := by
  intro X hX hR
  have hM := hRM.1
  have hL := hRM.2.1
  have hS := hpd.2
  have hL60 := hpd.1
  have hP4 := hok.2.2.2.2.1
  have h4 := hP4
  show V G 7 X 0 [(0, .ref 69), (1, .int (nI 0))] [] μ
  refine V_iload_n hX dX9_seated_0 1 rfl ?_
  refine V_iconst (v := nI 0) hX dX9_seated_1 (by decide) ?_
  refine V_iconst (v := nI 1) hX dX9_seated_2 (by decide) ?_
  refine V_callS (As := [.int (nI 0), .int (nI 0), .int (nI 1)]) (st := []) hX mX9_75 (k_in ?_) rfl (Nat.le_of_ble_eq_true rfl) (Nat.le_of_ble_eq_true rfl) dX9_seated_3
  show V G 7 X 6 [(0, .ref 69), (1, .int (nI 0))] [.int (bI (nI 0 ≤ nI 0 ∧ nI 0 ≤ nI 1))] μ
  refine V_if_neB (tgt := 12) hX dX9_seated_6 (by decide) (fun c6 => ?_) (fun c6 => ?_)
  · refine V_aload_n hX dX9_seated_12 0 rfl ?_
    refine V_callV (As := []) (st := []) hX mX9_109 rfl (kM_faultOf hL hS hL60 ?_) rfl (Nat.le_of_ble_eq_true rfl) (Nat.le_of_ble_eq_true rfl) dX9_seated_13
    show V G 7 X 16 [(0, .ref 69), (1, .int (nI 0))] [.int (fltU S L)] μ
    refine V_if_lt (tgt := 22) hX dX9_seated_16 (by decide) (fun c16 => ?_) (fun c16 => ?_)
    · refine V_aload_n hX dX9_seated_22 0 rfl ?_
      refine V_callV (As := []) (st := []) hX mX9_160 rfl (kM_lay hM hL hL60 (fun μ1 hLy hK1 => ?_)) rfl (Nat.le_of_ble_eq_true rfl) (Nat.le_of_ble_eq_true rfl) dX9_seated_23
      show V G 7 X 26 [(0, .ref 69), (1, .int (nI 0))] [] μ1
      have hR1 := hRM.keep hK1
      refine V_aload_n hX dX9_seated_26 0 rfl ?_
      refine V_aload_n hX dX9_seated_27 0 rfl ?_
      refine V_getN (x := nI L) hX fX9_103 rfl hR1.2.1.1 dX9_seated_28 ?_
      refine V_callV (As := [.int (nI L)]) (st := []) hX mX9_163 rfl (kM_preach (sg_ := S) (cb_ := noC) (cm_ := 0) hLy.1 hok hLy.2.2.2 (by omega) (fun i hi => hLy.2.2.1 i (by omega)) (fun i hi => by have := hS i (by omega); omega) (fun i _ => Or.inr ⟨rfl, rfl⟩) (fun μ2 hp => ?_)) rfl (Nat.le_of_ble_eq_true rfl) (Nat.le_of_ble_eq_true rfl) dX9_seated_31
      show V G 7 X 34 [(0, .ref 69), (1, .int (nI 0))] [] μ2
      have hR2 := hR1.keep hp.1.keep
      have hC2 : keepC μ μ2 := (hK1.tr hp.1.keep).C
      refine V_aload_n hX dX9_seated_34 0 rfl ?_
      refine V_getN (x := nI ((uAt P S L).2.2.2 7)) hX fX9_141 rfl hp.2.2.2.1.1 dX9_seated_35 ?_
      refine V_istore_n (ls' := [(0, .ref 69), (1, .int (nI 0)), (2, .int (nI ((uAt P S L).2.2.2 7)))]) hX dX9_seated_38 (by decide) rfl ?_
      refine V_bipush (v := (-6)) hX dX9_seated_39 (by decide) ?_
      refine V_istore_n (ls' := [(0, .ref 69), (1, .int (nI 0)), (2, .int (nI ((uAt P S L).2.2.2 7))), (3, .int (-6))]) hX dX9_seated_41 (by decide) rfl ?_
      refine V_iconst (v := nI 0) hX dX9_seated_42 (by decide) ?_
      refine V_istore (ls' := [(0, .ref 69), (1, .int (nI 0)), (2, .int (nI ((uAt P S L).2.2.2 7))), (3, .int (-6)), (4, .int (nI 0))]) hX dX9_seated_43 (by decide) rfl ?_
      refine lpM_seat20 (μ := μ) hX hR hok hpd (fun μ' z1 z2 => ?_) 9 0 μ2 (by decide) (by decide) hR2 hC2
      have h9 := hQ μ' z1 z2
      rw [show seatedS P L S (nI 0) = nI (seO P S L 8).1 from (if_pos c6).trans ((if_pos (flt_neg L (by omega) c16)).trans (if_pos (nI_clamp (by decide))))] at h9
      exact h9
    · refine V_bipush (v := (-5)) hX dX9_seated_19 (by decide) ?_
      refine V_iret hX rfl dX9_seated_21 ?_
      have h9 := hQ μ
      rw [show seatedS P L S (nI 0) = -5 from (if_pos c6).trans (if_neg (flt_ge hL60 c16))] at h9
      exact hR _ _ (h9 hRM (keepC.rf μ))
  · refine V_bipush (v := (-2)) hX dX9_seated_9 (by decide) ?_
    refine V_iret hX rfl dX9_seated_11 ?_
    exact absurd (by decide) c6
set_option maxRecDepth 100000 in
set_option maxHeartbeats 4000000 in
theorem lpM_seat11 {G : VG} {d : Nat} {μ : VS} {X : VX} {P : PC} {L : Nat} {S κ : Nat → Nat} {I : Nat → PC} {h_ : Nat} (hX : Cx G (d + 5) yX9_seated cX9_seated 7 (some .int) X) (hok : okP P) (hpd : okPad L S) (hh : h_ < 8) (hF : ∀ μ1, RM μ1 P L S κ I → keepC μ μ1 → V G 7 X 182 [(0, .ref 69), (1, .int (nI 1)), (2, .int (nI ((seI P S L (seO P S L h_) h_ (4 * P 0 0)).1))), (3, .int ((seI P S L (seO P S L h_) h_ (4 * P 0 0)).2)), (4, .int (nI h_)), (5, .int (nI (4 * P 0 0)))] [] μ1) : ∀ (j s_ : Nat) (μ0 : VS), s_ ≤ 4 * P 0 0 → 4 * P 0 0 + 1 ≤ s_ + j → RM μ0 P L S κ I → keepC μ μ0 → V G 7 X 55 [(0, .ref 69), (1, .int (nI 1)), (2, .int (nI ((seI P S L (seO P S L h_) h_ s_).1))), (3, .int ((seI P S L (seO P S L h_) h_ s_).2)), (4, .int (nI h_)), (5, .int (nI s_))] [] μ0 := by
  have hL60 := hpd.1
  have hS := hpd.2
  have hr3 := hok.1.2
  have hP4 := hok.2.2.2.2.1
  have h12 : ∀ h, h < 8 → P 1 h < 12 := fun h hh => (hok.2.2.2.2.2.2.2.1 h hh).1
  intro j
  induction j with
  | zero =>
    intro s_ μ0 h1 h2
    exact absurd h2 (by omega)
  | succ j ih =>
    intro s_ μ0 h1 h2 hR0 hC0
    refine V_iload hX dX9_seated_55 5 rfl ?_
    refine V_iconst (v := nI 4) hX dX9_seated_57 (by decide) ?_
    refine V_aload_n hX dX9_seated_58 0 rfl ?_
    refine V_getN (x := nI (P 0 0)) hX fX9_7 rfl (hR0.1.1 0 (by decide)) dX9_seated_59 ?_
    refine V_imulN hX dX9_seated_62 ?_
    refine V_icmp_geN (tgt := 182) hX dX9_seated_63 (by decide) (by first | omega | (have := se_bd hok (S := S) (L := L) h_ s_; omega) | (have := h12 h_ hh; omega)) (by first | omega | (have := se_bd hok (S := S) (L := L) h_ s_; omega) | (have := h12 h_ hh; omega)) (fun c63 => ?_) (fun c63 => ?_)
    · obtain rfl : s_ = 4 * P 0 0 := by omega
      exact hF μ0 hR0 hC0
    · refine V_aload_n hX dX9_seated_66 0 rfl ?_
      refine V_getN (x := nI (P 0 4)) hX fX9_72 rfl (hR0.1.1 4 (by decide)) dX9_seated_67 ?_
      refine V_iload hX dX9_seated_70 4 rfl ?_
      refine V_callS (As := [.int (nI (P 0 4)), .int (nI h_)]) (st := []) hX mX9_79 (k_has (by first | omega | (have := se_bd hok (S := S) (L := L) h_ s_; omega) | (have := h12 h_ hh; omega)) (by first | omega | (have := se_bd hok (S := S) (L := L) h_ s_; omega) | (have := h12 h_ hh; omega)) ?_) rfl (Nat.le_of_ble_eq_true rfl) (Nat.le_of_ble_eq_true rfl) dX9_seated_72
      show V G 7 X 75 [(0, .ref 69), (1, .int (nI 1)), (2, .int (nI ((seI P S L (seO P S L h_) h_ s_).1))), (3, .int ((seI P S L (seO P S L h_) h_ s_).2)), (4, .int (nI h_)), (5, .int (nI s_))] [.int (bI ((P 0 4).testBit h_ = true))] μ0
      refine V_if_eqB (tgt := 176) hX dX9_seated_75 (by decide) (fun c75 => ?_) (fun c75 => ?_)
      · refine V_iincN (n := 1) (ls' := [(0, .ref 69), (1, .int (nI 1)), (2, .int (nI ((seI P S L (seO P S L h_) h_ s_).1))), (3, .int ((seI P S L (seO P S L h_) h_ s_).2)), (4, .int (nI h_)), (5, .int (nI (s_ + 1)))]) hX dX9_seated_176 5 rfl (by decide) rfl ?_
        refine V_goto (tgt := 55) hX dX9_seated_179 (by decide) ?_
        have h9 := ih (s_ + 1) μ0 (by omega) (by omega) hR0 hC0
        rw [show seI P S L (seO P S L h_) h_ (s_ + 1) = seI P S L (seO P S L h_) h_ s_ from if_neg (fun z => c75 z.1)] at h9
        exact h9
      · refine V_iload hX dX9_seated_78 5 rfl ?_
        refine V_aload_n hX dX9_seated_80 0 rfl ?_
        refine V_getr (j := 70) hX fX9_13 rfl rfl dX9_seated_81 ?_
        refine V_iload hX dX9_seated_84 4 rfl ?_
        refine V_ialdN (x := nI (P 1 h_)) hX rfl (by first | omega | (have := se_bd hok (S := S) (L := L) h_ s_; omega) | (have := h12 h_ hh; omega)) (by decide) (hR0.1.2.1 0 (by decide) _ (by omega)) dX9_seated_86 ?_
        refine V_icmp_eqN (tgt := 176) hX dX9_seated_87 (by decide) (by first | omega | (have := se_bd hok (S := S) (L := L) h_ s_; omega) | (have := h12 h_ hh; omega)) (by first | omega | (have := se_bd hok (S := S) (L := L) h_ s_; omega) | (have := h12 h_ hh; omega)) (fun c87 => ?_) (fun c87 => ?_)
        · refine V_iincN (n := 1) (ls' := [(0, .ref 69), (1, .int (nI 1)), (2, .int (nI ((seI P S L (seO P S L h_) h_ s_).1))), (3, .int ((seI P S L (seO P S L h_) h_ s_).2)), (4, .int (nI h_)), (5, .int (nI (s_ + 1)))]) hX dX9_seated_176 5 rfl (by decide) rfl ?_
          refine V_goto (tgt := 55) hX dX9_seated_179 (by decide) ?_
          have h9 := ih (s_ + 1) μ0 (by omega) (by omega) hR0 hC0
          rw [show seI P S L (seO P S L h_) h_ (s_ + 1) = seI P S L (seO P S L h_) h_ s_ from if_neg (fun z => z.2.1 c87)] at h9
          exact h9
        · refine V_aload_n hX dX9_seated_90 0 rfl ?_
          refine V_callV (As := []) (st := []) hX mX9_160 rfl (kM_lay hR0.1 hR0.2.1 hL60 (fun μ1 hLy hK1 => ?_)) rfl (Nat.le_of_ble_eq_true rfl) (Nat.le_of_ble_eq_true rfl) dX9_seated_91
          show V G 7 X 94 [(0, .ref 69), (1, .int (nI 1)), (2, .int (nI ((seI P S L (seO P S L h_) h_ s_).1))), (3, .int ((seI P S L (seO P S L h_) h_ s_).2)), (4, .int (nI h_)), (5, .int (nI s_))] [] μ1
          have hR1 := hR0.keep hK1
          refine V_aload_n hX dX9_seated_94 0 rfl ?_
          refine V_iload hX dX9_seated_95 5 rfl ?_
          refine V_callV (As := [.int (nI s_)]) (st := []) hX mX9_92 rfl (kM_whoSits hR1.1 hP4 h12 (by omega) ?_) rfl (Nat.le_of_ble_eq_true rfl) (Nat.le_of_ble_eq_true rfl) dX9_seated_97
          show V G 7 X 100 [(0, .ref 69), (1, .int (nI 1)), (2, .int (nI ((seI P S L (seO P S L h_) h_ s_).1))), (3, .int ((seI P S L (seO P S L h_) h_ s_).2)), (4, .int (nI h_)), (5, .int (nI s_))] [.int (sitK P s_ 8)] μ1
          refine V_istore (ls' := [(0, .ref 69), (1, .int (nI 1)), (2, .int (nI ((seI P S L (seO P S L h_) h_ s_).1))), (3, .int ((seI P S L (seO P S L h_) h_ s_).2)), (4, .int (nI h_)), (5, .int (nI s_)), (6, .int (sitK P s_ 8))]) hX dX9_seated_100 (by decide) rfl ?_
          refine V_aload_n hX dX9_seated_102 0 rfl ?_
          refine V_getr (j := 77) hX fX9_41 rfl rfl dX9_seated_103 ?_
          refine V_iload hX dX9_seated_106 4 rfl ?_
          refine V_iload hX dX9_seated_108 5 rfl ?_
          refine V_iastN hX rfl (by first | omega | (have := se_bd hok (S := S) (L := L) h_ s_; omega) | (have := h12 h_ hh; omega)) (by decide) dX9_seated_110 ?_
          show V G 7 X 111 [(0, .ref 69), (1, .int (nI 1)), (2, .int (nI ((seI P S L (seO P S L h_) h_ s_).1))), (3, .int ((seI P S L (seO P S L h_) h_ s_).2)), (4, .int (nI h_)), (5, .int (nI s_)), (6, .int (sitK P s_ 8))] [] (vup μ1.1 77 h_ (nI s_), μ1.2)
          refine V_iload hX dX9_seated_111 6 rfl ?_
          refine V_if_lt (tgt := 130) hX dX9_seated_113 (by decide) (fun c113 => ?_) (fun c113 => ?_)
          · have hKa : mKeep μ1 (vup μ1.1 77 h_ (nI s_), μ1.2) := mKeep.put (a := 77) (k := h_) (x := nI s_) (Or.inl (by decide))
            have hRa := hR1.keep hKa
            have hEa : isE (vup μ1.1 77 h_ (nI s_), μ1.2) (chP P h_ s_) := ⟨hLy.1.1, fun g hg => by
              show _ = nI (chF P h_ s_ g)
              dsimp only
              unfold chF
              rw [vup_get]
              by_cases e1 : g = h_
              · rw [if_pos ⟨rfl, e1⟩, if_pos e1]
              · rw [if_neg (fun z => e1 z.2), if_neg e1, if_neg (sit_free hok (sitK_neg (by decide) c113) g)]; exact hLy.1.2.1 g hg, hLy.1.2.2⟩
            have hokc := ch_ok hok (h := h_) (s := s_) c75 (by omega)
            have hbd : seZ P S L h_ s_ ≤ 8 * L := uAt7 (P := chP P h_ s_) hok.2.2.1 S L
            refine V_aload_n hX dX9_seated_130 0 rfl ?_
            refine V_aload_n hX dX9_seated_131 0 rfl ?_
            refine V_getN (x := nI L) hX fX9_103 rfl hR1.2.1.1 dX9_seated_132 ?_
            refine V_callV (As := [.int (nI L)]) (st := []) hX mX9_163 rfl (kM_preach (E := chP P h_ s_) (sg_ := S) (cb_ := noC) (cm_ := 0) hEa hokc hLy.2.2.2 (by omega) (fun i hi => hLy.2.2.1 i hi) (fun i hi => by have := hS i hi; omega) (fun i _ => Or.inr ⟨rfl, rfl⟩) (fun μ2 hp => ?_)) rfl (Nat.le_of_ble_eq_true rfl) (Nat.le_of_ble_eq_true rfl) dX9_seated_135
            show V G 7 X 138 [(0, .ref 69), (1, .int (nI 1)), (2, .int (nI ((seI P S L (seO P S L h_) h_ s_).1))), (3, .int ((seI P S L (seO P S L h_) h_ s_).2)), (4, .int (nI h_)), (5, .int (nI s_)), (6, .int (sitK P s_ 8))] [] μ2
            have hR2 := hRa.keep hp.1.keep
            have hC2 : keepC μ μ2 := hC0.tr ((hK1.tr hKa).tr hp.1.keep).C
            refine V_aload_n hX dX9_seated_138 0 rfl ?_
            refine V_getN (x := nI (seZ P S L h_ s_)) hX fX9_141 rfl hp.2.2.2.1.1 dX9_seated_139 ?_
            refine V_iload_n hX dX9_seated_142 2 rfl ?_
            refine V_icmp_geN (tgt := 157) hX dX9_seated_143 (by decide) (by first | omega | (have := se_bd hok (S := S) (L := L) h_ s_; omega) | (have := h12 h_ hh; omega)) (by first | omega | (have := se_bd hok (S := S) (L := L) h_ s_; omega) | (have := h12 h_ hh; omega)) (fun c143 => ?_) (fun c143 => ?_)
            · refine V_iload_n hX dX9_seated_157 3 rfl ?_
              refine V_istore_n (ls' := [(0, .ref 69), (1, .int (nI 1)), (2, .int (nI ((seI P S L (seO P S L h_) h_ s_).1))), (3, .int ((seI P S L (seO P S L h_) h_ s_).2)), (4, .int (nI h_)), (5, .int (nI s_)), (6, .int (sitK P s_ 8))]) hX dX9_seated_158 (by decide) rfl ?_
              refine V_aload_n hX dX9_seated_159 0 rfl ?_
              refine V_getN (x := nI (seZ P S L h_ s_)) hX fX9_141 rfl hp.2.2.2.1.1 dX9_seated_160 ?_
              refine V_iload_n hX dX9_seated_163 2 rfl ?_
              refine V_icmp_geN (tgt := 174) hX dX9_seated_164 (by decide) (by first | omega | (have := se_bd hok (S := S) (L := L) h_ s_; omega) | (have := h12 h_ hh; omega)) (by first | omega | (have := se_bd hok (S := S) (L := L) h_ s_; omega) | (have := h12 h_ hh; omega)) (fun c164 => ?_) (fun c164 => ?_)
              · refine V_iload_n hX dX9_seated_174 2 rfl ?_
                refine V_istore_n (ls' := [(0, .ref 69), (1, .int (nI 1)), (2, .int (nI ((seI P S L (seO P S L h_) h_ s_).1))), (3, .int ((seI P S L (seO P S L h_) h_ s_).2)), (4, .int (nI h_)), (5, .int (nI s_)), (6, .int (sitK P s_ 8))]) hX dX9_seated_175 (by decide) rfl ?_
                refine V_iincN (n := 1) (ls' := [(0, .ref 69), (1, .int (nI 1)), (2, .int (nI ((seI P S L (seO P S L h_) h_ s_).1))), (3, .int ((seI P S L (seO P S L h_) h_ s_).2)), (4, .int (nI h_)), (5, .int (nI (s_ + 1))), (6, .int (sitK P s_ 8))]) hX dX9_seated_176 5 rfl (by decide) rfl ?_
                refine V_goto (tgt := 55) hX dX9_seated_179 (by decide) ?_
                have h9 := ih (s_ + 1) μ2 (by omega) (by omega) hR2 hC2
                rw [show seI P S L (seO P S L h_) h_ (s_ + 1) = seI P S L (seO P S L h_) h_ s_ from if_neg (fun z => absurd z.2.2 (by omega))] at h9
                exact V_sub [0, 1, 2, 3, 4, 5] rfl h9
              · exact absurd c164 (by omega)
            · refine V_bipush (v := nI 100) hX dX9_seated_146 (by decide) ?_
              refine V_iload hX dX9_seated_148 4 rfl ?_
              refine V_imulN hX dX9_seated_150 ?_
              refine V_iload hX dX9_seated_151 5 rfl ?_
              refine V_iaddN hX dX9_seated_153 ?_
              refine V_goto (tgt := 158) hX dX9_seated_154 (by decide) ?_
              refine V_istore_n (ls' := [(0, .ref 69), (1, .int (nI 1)), (2, .int (nI ((seI P S L (seO P S L h_) h_ s_).1))), (3, .int (nI ((100 * h_) + s_))), (4, .int (nI h_)), (5, .int (nI s_)), (6, .int (sitK P s_ 8))]) hX dX9_seated_158 (by decide) rfl ?_
              refine V_aload_n hX dX9_seated_159 0 rfl ?_
              refine V_getN (x := nI (seZ P S L h_ s_)) hX fX9_141 rfl hp.2.2.2.1.1 dX9_seated_160 ?_
              refine V_iload_n hX dX9_seated_163 2 rfl ?_
              refine V_icmp_geN (tgt := 174) hX dX9_seated_164 (by decide) (by first | omega | (have := se_bd hok (S := S) (L := L) h_ s_; omega) | (have := h12 h_ hh; omega)) (by first | omega | (have := se_bd hok (S := S) (L := L) h_ s_; omega) | (have := h12 h_ hh; omega)) (fun c164 => ?_) (fun c164 => ?_)
              · exact absurd c164 (by omega)
              · refine V_aload_n hX dX9_seated_167 0 rfl ?_
                refine V_getN (x := nI (seZ P S L h_ s_)) hX fX9_141 rfl hp.2.2.2.1.1 dX9_seated_168 ?_
                refine V_goto (tgt := 175) hX dX9_seated_171 (by decide) ?_
                refine V_istore_n (ls' := [(0, .ref 69), (1, .int (nI 1)), (2, .int (nI (seZ P S L h_ s_))), (3, .int (nI ((100 * h_) + s_))), (4, .int (nI h_)), (5, .int (nI s_)), (6, .int (sitK P s_ 8))]) hX dX9_seated_175 (by decide) rfl ?_
                refine V_iincN (n := 1) (ls' := [(0, .ref 69), (1, .int (nI 1)), (2, .int (nI (seZ P S L h_ s_))), (3, .int (nI ((100 * h_) + s_))), (4, .int (nI h_)), (5, .int (nI (s_ + 1))), (6, .int (sitK P s_ 8))]) hX dX9_seated_176 5 rfl (by decide) rfl ?_
                refine V_goto (tgt := 55) hX dX9_seated_179 (by decide) ?_
                have h9 := ih (s_ + 1) μ2 (by omega) (by omega) hR2 hC2
                rw [show seI P S L (seO P S L h_) h_ (s_ + 1) = (seZ P S L h_ s_, nI (100 * h_ + s_)) from if_pos ⟨c75, c87, c143⟩] at h9
                exact V_sub [0, 1, 2, 3, 4, 5] rfl h9
          · obtain ⟨o_, ho, hpo, hso, hse⟩ := (sitK_cases P s_ 8).resolve_left (fun e => c113 (by rw [e]; decide))
            rw [hse]
            refine V_aload_n hX dX9_seated_116 0 rfl ?_
            refine V_getr (j := 77) hX fX9_41 rfl rfl dX9_seated_117 ?_
            refine V_iload hX dX9_seated_120 6 rfl ?_
            refine V_aload_n hX dX9_seated_122 0 rfl ?_
            refine V_getr (j := 70) hX fX9_13 rfl rfl dX9_seated_123 ?_
            refine V_iload hX dX9_seated_126 4 rfl ?_
            refine V_ialdN (x := nI (P 1 h_)) hX rfl (by first | omega | (have := se_bd hok (S := S) (L := L) h_ s_; omega) | (have := h12 h_ hh; omega)) (by decide) (hR1.1.2.1 0 (by decide) _ (by omega)) dX9_seated_128 ?_
            refine V_iastN hX rfl (by first | omega | (have := se_bd hok (S := S) (L := L) h_ s_; omega) | (have := h12 h_ hh; omega)) (by decide) dX9_seated_129 ?_
            show V G 7 X 130 [(0, .ref 69), (1, .int (nI 1)), (2, .int (nI ((seI P S L (seO P S L h_) h_ s_).1))), (3, .int ((seI P S L (seO P S L h_) h_ s_).2)), (4, .int (nI h_)), (5, .int (nI s_)), (6, .int (nI o_))] [] (vup (vup μ1.1 77 h_ (nI s_)) 77 o_ (nI (P 1 h_)), μ1.2)
            have hKa : mKeep μ1 (vup (vup μ1.1 77 h_ (nI s_)) 77 o_ (nI (P 1 h_)), μ1.2) := (mKeep.put (a := 77) (k := h_) (x := nI s_) (Or.inl (by decide))).tr (mKeep.put (a := 77) (k := o_) (x := nI (P 1 h_)) (Or.inl (by decide)))
            have hRa := hR1.keep hKa
            have hEa : isE (vup (vup μ1.1 77 h_ (nI s_)) 77 o_ (nI (P 1 h_)), μ1.2) (chP P h_ s_) := ⟨hLy.1.1, fun g hg => by
              show _ = nI (chF P h_ s_ g)
              dsimp only
              unfold chF
              rw [vup_get, vup_get]
              by_cases e1 : g = h_
              · rw [if_neg (by rintro ⟨-, rfl⟩; rw [e1] at hso; exact c87 hso.symm), if_pos ⟨rfl, e1⟩, if_pos e1]
              · by_cases e2 : g = o_
                · rw [if_pos ⟨rfl, e2⟩, if_neg e1, if_pos (by rw [e2]; exact ⟨hpo, hso⟩)]
                · rw [if_neg (fun z => e2 z.2), if_neg (fun z => e1 z.2), if_neg e1, if_neg (fun z => e2 (hok.2.2.2.2.2.2.2.2.2.2 g hg o_ ho z.1 hpo (by omega)))]; exact hLy.1.2.1 g hg, hLy.1.2.2⟩
            have hokc := ch_ok hok (h := h_) (s := s_) c75 (by omega)
            have hbd : seZ P S L h_ s_ ≤ 8 * L := uAt7 (P := chP P h_ s_) hok.2.2.1 S L
            refine V_aload_n hX dX9_seated_130 0 rfl ?_
            refine V_aload_n hX dX9_seated_131 0 rfl ?_
            refine V_getN (x := nI L) hX fX9_103 rfl hR1.2.1.1 dX9_seated_132 ?_
            refine V_callV (As := [.int (nI L)]) (st := []) hX mX9_163 rfl (kM_preach (E := chP P h_ s_) (sg_ := S) (cb_ := noC) (cm_ := 0) hEa hokc hLy.2.2.2 (by omega) (fun i hi => hLy.2.2.1 i hi) (fun i hi => by have := hS i hi; omega) (fun i _ => Or.inr ⟨rfl, rfl⟩) (fun μ2 hp => ?_)) rfl (Nat.le_of_ble_eq_true rfl) (Nat.le_of_ble_eq_true rfl) dX9_seated_135
            show V G 7 X 138 [(0, .ref 69), (1, .int (nI 1)), (2, .int (nI ((seI P S L (seO P S L h_) h_ s_).1))), (3, .int ((seI P S L (seO P S L h_) h_ s_).2)), (4, .int (nI h_)), (5, .int (nI s_)), (6, .int (nI o_))] [] μ2
            have hR2 := hRa.keep hp.1.keep
            have hC2 : keepC μ μ2 := hC0.tr ((hK1.tr hKa).tr hp.1.keep).C
            refine V_aload_n hX dX9_seated_138 0 rfl ?_
            refine V_getN (x := nI (seZ P S L h_ s_)) hX fX9_141 rfl hp.2.2.2.1.1 dX9_seated_139 ?_
            refine V_iload_n hX dX9_seated_142 2 rfl ?_
            refine V_icmp_geN (tgt := 157) hX dX9_seated_143 (by decide) (by first | omega | (have := se_bd hok (S := S) (L := L) h_ s_; omega) | (have := h12 h_ hh; omega)) (by first | omega | (have := se_bd hok (S := S) (L := L) h_ s_; omega) | (have := h12 h_ hh; omega)) (fun c143 => ?_) (fun c143 => ?_)
            · refine V_iload_n hX dX9_seated_157 3 rfl ?_
              refine V_istore_n (ls' := [(0, .ref 69), (1, .int (nI 1)), (2, .int (nI ((seI P S L (seO P S L h_) h_ s_).1))), (3, .int ((seI P S L (seO P S L h_) h_ s_).2)), (4, .int (nI h_)), (5, .int (nI s_)), (6, .int (nI o_))]) hX dX9_seated_158 (by decide) rfl ?_
              refine V_aload_n hX dX9_seated_159 0 rfl ?_
              refine V_getN (x := nI (seZ P S L h_ s_)) hX fX9_141 rfl hp.2.2.2.1.1 dX9_seated_160 ?_
              refine V_iload_n hX dX9_seated_163 2 rfl ?_
              refine V_icmp_geN (tgt := 174) hX dX9_seated_164 (by decide) (by first | omega | (have := se_bd hok (S := S) (L := L) h_ s_; omega) | (have := h12 h_ hh; omega)) (by first | omega | (have := se_bd hok (S := S) (L := L) h_ s_; omega) | (have := h12 h_ hh; omega)) (fun c164 => ?_) (fun c164 => ?_)
              · refine V_iload_n hX dX9_seated_174 2 rfl ?_
                refine V_istore_n (ls' := [(0, .ref 69), (1, .int (nI 1)), (2, .int (nI ((seI P S L (seO P S L h_) h_ s_).1))), (3, .int ((seI P S L (seO P S L h_) h_ s_).2)), (4, .int (nI h_)), (5, .int (nI s_)), (6, .int (nI o_))]) hX dX9_seated_175 (by decide) rfl ?_
                refine V_iincN (n := 1) (ls' := [(0, .ref 69), (1, .int (nI 1)), (2, .int (nI ((seI P S L (seO P S L h_) h_ s_).1))), (3, .int ((seI P S L (seO P S L h_) h_ s_).2)), (4, .int (nI h_)), (5, .int (nI (s_ + 1))), (6, .int (nI o_))]) hX dX9_seated_176 5 rfl (by decide) rfl ?_
                refine V_goto (tgt := 55) hX dX9_seated_179 (by decide) ?_
                have h9 := ih (s_ + 1) μ2 (by omega) (by omega) hR2 hC2
                rw [show seI P S L (seO P S L h_) h_ (s_ + 1) = seI P S L (seO P S L h_) h_ s_ from if_neg (fun z => absurd z.2.2 (by omega))] at h9
                exact V_sub [0, 1, 2, 3, 4, 5] rfl h9
              · exact absurd c164 (by omega)
            · refine V_bipush (v := nI 100) hX dX9_seated_146 (by decide) ?_
              refine V_iload hX dX9_seated_148 4 rfl ?_
              refine V_imulN hX dX9_seated_150 ?_
              refine V_iload hX dX9_seated_151 5 rfl ?_
              refine V_iaddN hX dX9_seated_153 ?_
              refine V_goto (tgt := 158) hX dX9_seated_154 (by decide) ?_
              refine V_istore_n (ls' := [(0, .ref 69), (1, .int (nI 1)), (2, .int (nI ((seI P S L (seO P S L h_) h_ s_).1))), (3, .int (nI ((100 * h_) + s_))), (4, .int (nI h_)), (5, .int (nI s_)), (6, .int (nI o_))]) hX dX9_seated_158 (by decide) rfl ?_
              refine V_aload_n hX dX9_seated_159 0 rfl ?_
              refine V_getN (x := nI (seZ P S L h_ s_)) hX fX9_141 rfl hp.2.2.2.1.1 dX9_seated_160 ?_
              refine V_iload_n hX dX9_seated_163 2 rfl ?_
              refine V_icmp_geN (tgt := 174) hX dX9_seated_164 (by decide) (by first | omega | (have := se_bd hok (S := S) (L := L) h_ s_; omega) | (have := h12 h_ hh; omega)) (by first | omega | (have := se_bd hok (S := S) (L := L) h_ s_; omega) | (have := h12 h_ hh; omega)) (fun c164 => ?_) (fun c164 => ?_)
              · exact absurd c164 (by omega)
              · refine V_aload_n hX dX9_seated_167 0 rfl ?_
                refine V_getN (x := nI (seZ P S L h_ s_)) hX fX9_141 rfl hp.2.2.2.1.1 dX9_seated_168 ?_
                refine V_goto (tgt := 175) hX dX9_seated_171 (by decide) ?_
                refine V_istore_n (ls' := [(0, .ref 69), (1, .int (nI 1)), (2, .int (nI (seZ P S L h_ s_))), (3, .int (nI ((100 * h_) + s_))), (4, .int (nI h_)), (5, .int (nI s_)), (6, .int (nI o_))]) hX dX9_seated_175 (by decide) rfl ?_
                refine V_iincN (n := 1) (ls' := [(0, .ref 69), (1, .int (nI 1)), (2, .int (nI (seZ P S L h_ s_))), (3, .int (nI ((100 * h_) + s_))), (4, .int (nI h_)), (5, .int (nI (s_ + 1))), (6, .int (nI o_))]) hX dX9_seated_176 5 rfl (by decide) rfl ?_
                refine V_goto (tgt := 55) hX dX9_seated_179 (by decide) ?_
                have h9 := ih (s_ + 1) μ2 (by omega) (by omega) hR2 hC2
                rw [show seI P S L (seO P S L h_) h_ (s_ + 1) = (seZ P S L h_ s_, nI (100 * h_ + s_)) from if_pos ⟨c75, c87, c143⟩] at h9
                exact V_sub [0, 1, 2, 3, 4, 5] rfl h9
set_option maxRecDepth 100000 in
set_option maxHeartbeats 4000000 in
theorem lpM_seat21 {G : VG} {d : Nat} {μ : VS} {Q : Option Value → VS → Prop} {X : VX} {P : PC} {L : Nat} {S κ : Nat → Nat} {I : Nat → PC} (hX : Cx G (d + 5) yX9_seated cX9_seated 7 (some .int) X) (hR : ∀ r μ', Q r μ' → Ret G X r μ') (hok : okP P) (hpd : okPad L S) (hQ : ∀ μ', RM μ' P L S κ I → keepC μ μ' → Q (some (.int ((seO P S L 8).2))) μ') : ∀ (j h_ : Nat) (μ0 : VS), h_ ≤ 8 → 9 ≤ h_ + j → RM μ0 P L S κ I → keepC μ μ0 → V G 7 X 45 [(0, .ref 69), (1, .int (nI 1)), (2, .int (nI ((seO P S L h_).1))), (3, .int ((seO P S L h_).2)), (4, .int (nI h_))] [] μ0 := by
  intro j
  induction j with
  | zero =>
    intro h_ μ0 h1 h2
    exact absurd h2 (by omega)
  | succ j ih =>
    intro h_ μ0 h1 h2 hR0 hC0
    refine V_iload hX dX9_seated_45 4 rfl ?_
    refine V_bipush (v := nI 8) hX dX9_seated_47 (by decide) ?_
    refine V_icmp_geN (tgt := 188) hX dX9_seated_49 (by decide) (by omega) (by omega) (fun c49 => ?_) (fun c49 => ?_)
    · refine V_iload_n hX dX9_seated_188 1 rfl ?_
      refine V_if_neN (tgt := 196) hX dX9_seated_189 (by decide) (by omega) (fun c189 => ?_) (fun c189 => ?_)
      · refine V_iload_n hX dX9_seated_196 3 rfl ?_
        refine V_iret hX rfl dX9_seated_197 ?_
        obtain rfl : h_ = 8 := by omega
        exact hR _ _ (hQ μ0 hR0 hC0)
      · exact absurd c189 (by decide)
    · refine V_iconst (v := nI 0) hX dX9_seated_52 (by decide) ?_
      refine V_istore (ls' := [(0, .ref 69), (1, .int (nI 1)), (2, .int (nI ((seO P S L h_).1))), (3, .int ((seO P S L h_).2)), (4, .int (nI h_)), (5, .int (nI 0))]) hX dX9_seated_53 (by decide) rfl ?_
      refine lpM_seat11 (μ := μ) hX hok hpd (by omega) (fun μ2 hR2 hM2 => ?_) (4 * P 0 0 + 1) 0 μ0 (by omega) (by omega) hR0 hC0
      refine V_iincN (n := 1) (ls' := [(0, .ref 69), (1, .int (nI 1)), (2, .int (nI ((seI P S L (seO P S L h_) h_ (4 * P 0 0)).1))), (3, .int ((seI P S L (seO P S L h_) h_ (4 * P 0 0)).2)), (4, .int (nI (h_ + 1))), (5, .int (nI (4 * P 0 0)))]) hX dX9_seated_182 4 rfl (by decide) rfl ?_
      refine V_goto (tgt := 45) hX dX9_seated_185 (by decide) ?_
      exact V_sub [0, 1, 2, 3, 4] rfl (ih (h_ + 1) μ2 (by omega) (by omega) hR2 hM2)
set_option maxRecDepth 100000 in
set_option maxHeartbeats 4000000 in
theorem kM_seated1 {G : VG} {d : Nat} {μ : VS} {Q : Option Value → VS → Prop} {P : PC} {L : Nat} {S κ : Nat → Nat} {I : Nat → PC} (hRM : RM μ P L S κ I) (hok : okP P) (hpd : okPad L S) (hQ : ∀ μ', RM μ' P L S κ I → keepC μ μ' → Q (some (.int (seatedS P L S (nI 1)))) μ') : Call G (d + 6) yX9_seated cX9_seated 7 (some .int) [.ref 69, .int (nI 1)] μ Q := by
  intro X hX hR
  have hM := hRM.1
  have hL := hRM.2.1
  have hS := hpd.2
  have hL60 := hpd.1
  have hP4 := hok.2.2.2.2.1
  have h4 := hP4
  show V G 7 X 0 [(0, .ref 69), (1, .int (nI 1))] [] μ
  refine V_iload_n hX dX9_seated_0 1 rfl ?_
  refine V_iconst (v := nI 0) hX dX9_seated_1 (by decide) ?_
  refine V_iconst (v := nI 1) hX dX9_seated_2 (by decide) ?_
  refine V_callS (As := [.int (nI 1), .int (nI 0), .int (nI 1)]) (st := []) hX mX9_75 (k_in ?_) rfl (Nat.le_of_ble_eq_true rfl) (Nat.le_of_ble_eq_true rfl) dX9_seated_3
  show V G 7 X 6 [(0, .ref 69), (1, .int (nI 1))] [.int (bI (nI 0 ≤ nI 1 ∧ nI 1 ≤ nI 1))] μ
  refine V_if_neB (tgt := 12) hX dX9_seated_6 (by decide) (fun c6 => ?_) (fun c6 => ?_)
  · refine V_aload_n hX dX9_seated_12 0 rfl ?_
    refine V_callV (As := []) (st := []) hX mX9_109 rfl (kM_faultOf hL hS hL60 ?_) rfl (Nat.le_of_ble_eq_true rfl) (Nat.le_of_ble_eq_true rfl) dX9_seated_13
    show V G 7 X 16 [(0, .ref 69), (1, .int (nI 1))] [.int (fltU S L)] μ
    refine V_if_lt (tgt := 22) hX dX9_seated_16 (by decide) (fun c16 => ?_) (fun c16 => ?_)
    · refine V_aload_n hX dX9_seated_22 0 rfl ?_
      refine V_callV (As := []) (st := []) hX mX9_160 rfl (kM_lay hM hL hL60 (fun μ1 hLy hK1 => ?_)) rfl (Nat.le_of_ble_eq_true rfl) (Nat.le_of_ble_eq_true rfl) dX9_seated_23
      show V G 7 X 26 [(0, .ref 69), (1, .int (nI 1))] [] μ1
      have hR1 := hRM.keep hK1
      refine V_aload_n hX dX9_seated_26 0 rfl ?_
      refine V_aload_n hX dX9_seated_27 0 rfl ?_
      refine V_getN (x := nI L) hX fX9_103 rfl hR1.2.1.1 dX9_seated_28 ?_
      refine V_callV (As := [.int (nI L)]) (st := []) hX mX9_163 rfl (kM_preach (sg_ := S) (cb_ := noC) (cm_ := 0) hLy.1 hok hLy.2.2.2 (by omega) (fun i hi => hLy.2.2.1 i (by omega)) (fun i hi => by have := hS i (by omega); omega) (fun i _ => Or.inr ⟨rfl, rfl⟩) (fun μ2 hp => ?_)) rfl (Nat.le_of_ble_eq_true rfl) (Nat.le_of_ble_eq_true rfl) dX9_seated_31
      show V G 7 X 34 [(0, .ref 69), (1, .int (nI 1))] [] μ2
      have hR2 := hR1.keep hp.1.keep
      have hC2 : keepC μ μ2 := (hK1.tr hp.1.keep).C
      refine V_aload_n hX dX9_seated_34 0 rfl ?_
      refine V_getN (x := nI ((uAt P S L).2.2.2 7)) hX fX9_141 rfl hp.2.2.2.1.1 dX9_seated_35 ?_
      refine V_istore_n (ls' := [(0, .ref 69), (1, .int (nI 1)), (2, .int (nI ((uAt P S L).2.2.2 7)))]) hX dX9_seated_38 (by decide) rfl ?_
      refine V_bipush (v := (-6)) hX dX9_seated_39 (by decide) ?_
      refine V_istore_n (ls' := [(0, .ref 69), (1, .int (nI 1)), (2, .int (nI ((uAt P S L).2.2.2 7))), (3, .int (-6))]) hX dX9_seated_41 (by decide) rfl ?_
      refine V_iconst (v := nI 0) hX dX9_seated_42 (by decide) ?_
      refine V_istore (ls' := [(0, .ref 69), (1, .int (nI 1)), (2, .int (nI ((uAt P S L).2.2.2 7))), (3, .int (-6)), (4, .int (nI 0))]) hX dX9_seated_43 (by decide) rfl ?_
      refine lpM_seat21 (μ := μ) hX hR hok hpd (fun μ' z1 z2 => ?_) 9 0 μ2 (by decide) (by decide) hR2 hC2
      have h9 := hQ μ' z1 z2
      rw [show seatedS P L S (nI 1) = (seO P S L 8).2 from (if_pos c6).trans ((if_pos (flt_neg L (by omega) c16)).trans (if_neg (by rw [nI_clamp (by decide)]; decide)))] at h9
      exact h9
    · refine V_bipush (v := (-5)) hX dX9_seated_19 (by decide) ?_
      refine V_iret hX rfl dX9_seated_21 ?_
      have h9 := hQ μ
      rw [show seatedS P L S (nI 1) = -5 from (if_pos c6).trans (if_neg (flt_ge hL60 c16))] at h9
      exact hR _ _ (h9 hRM (keepC.rf μ))
  · refine V_bipush (v := (-2)) hX dX9_seated_9 (by decide) ?_
    refine V_iret hX rfl dX9_seated_11 ?_
    exact absurd (by decide) c6
set_option maxRecDepth 100000 in
set_option maxHeartbeats 4000000 in
theorem kM_seated2 {G : VG} {d : Nat} {μ : VS} {Q : Option Value → VS → Prop} {P : PC} {L : Nat} {S κ : Nat → Nat} {I : Nat → PC} {w_ : Int32} (hw : ¬ inZ w_ 0 1) (hRM : RM μ P L S κ I) (hok : okP P) (hpd : okPad L S) (hQ : ∀ μ', RM μ' P L S κ I → keepC μ μ' → Q (some (.int (seatedS P L S w_))) μ') : Call G (d + 6) yX9_seated cX9_seated 7 (some .int) [.ref 69, .int w_] μ Q := by
  intro X hX hR
  have hM := hRM.1
  have hL := hRM.2.1
  have hS := hpd.2
  have hL60 := hpd.1
  have hP4 := hok.2.2.2.2.1
  have h4 := hP4
  show V G 7 X 0 [(0, .ref 69), (1, .int w_)] [] μ
  refine V_iload_n hX dX9_seated_0 1 rfl ?_
  refine V_iconst (v := nI 0) hX dX9_seated_1 (by decide) ?_
  refine V_iconst (v := nI 1) hX dX9_seated_2 (by decide) ?_
  refine V_callS (As := [.int w_, .int (nI 0), .int (nI 1)]) (st := []) hX mX9_75 (k_in ?_) rfl (Nat.le_of_ble_eq_true rfl) (Nat.le_of_ble_eq_true rfl) dX9_seated_3
  show V G 7 X 6 [(0, .ref 69), (1, .int w_)] [.int (bI (nI 0 ≤ w_ ∧ w_ ≤ nI 1))] μ
  refine V_if_neB (tgt := 12) hX dX9_seated_6 (by decide) (fun c6 => ?_) (fun c6 => ?_)
  · exact absurd c6 hw
  · refine V_bipush (v := (-2)) hX dX9_seated_9 (by decide) ?_
    refine V_iret hX rfl dX9_seated_11 ?_
    have h9 := hQ μ
    rw [show seatedS P L S w_ = -2 from if_neg hw] at h9
    exact hR _ _ (h9 hRM (keepC.rf μ))
theorem kM_seated {G : VG} {d : Nat} {μ : VS} {Q : Option Value → VS → Prop} {P : PC} {L : Nat} {S κ : Nat → Nat} {I : Nat → PC} {w_ : Int32} (hRM : RM μ P L S κ I) (hok : okP P) (hpd : okPad L S)  (hQ : ∀ μ', RM μ' P L S κ I → keepC μ μ' → Q (some (.int (seatedS P L S w_))) μ') : Call G (d + 6) yX9_seated cX9_seated 7 (some .int) [.ref 69, .int w_] μ Q := by
  by_cases hw : inZ w_ 0 1
  · obtain ⟨j, -, hj, rfl⟩ := nat_of_in (by decide) (by decide) hw
    rcases (by omega : j = 0 ∨ j = 1) with e | e <;> subst e
    · exact kM_seated0 hRM hok hpd hQ
    · exact kM_seated1 hRM hok hpd hQ
  · exact kM_seated2 hw hRM hok hpd hQ
