def upP (P : PC) (s : Nat) : PC := vup P 0 5 (P 0 5 ||| s)
def hirF (P : PC) (S : Nat → Nat) (L v s : Nat) : Bool := decide (s &&& (P 0 4 ^^^ 4294967295) = 0) && decide (s &&& P 0 5 = 0) && decide ((uAt (upP P s) S L).2.2.2 9 ≤ v)
def hirU (f : Nat → Bool) : Nat → Int32
  | 0 => -6
  | k + 1 => if f k = true ∧ (hirU f k < 0 ∨ popN k 8 < popN (hirU f k).toNatClampNeg 8) then nI k else hirU f k
def hirE (r : Int32) (w : Int32) : Int32 := if r < 0 ∨ w = nI 1 then r else nI (popN r.toNatClampNeg 8)
def hiredS (P : PC) (L : Nat) (S : Nat → Nat) (v w : Int32) : Int32 := if inZ v 0 999 ∧ inZ w 0 1 then (if fltU S L = -6 then hirE (hirU (hirF P S L v.toNatClampNeg) 256) w else -5) else -2
def hDk (f : Nat → Bool) (k : Nat) (r : Int32) : Prop := (∃ s, s < k ∧ f s = true ∧ r = nI s ∧ ∀ t, t < k → f t = true → popN s 8 < popN t 8 ∨ (popN s 8 = popN t 8 ∧ s ≤ t)) ∨ (r = -6 ∧ ∀ t, t < k → ¬ f t = true)
theorem hDk.uniq {f : Nat → Bool} {k : Nat} {r q : Int32} (h : hDk f k r) (g : hDk f k q) : r = q := by
  rcases h with ⟨s, h1, h2, h3, h4⟩ | ⟨h1, h2⟩ <;> rcases g with ⟨t, g1, g2, g3, g4⟩ | ⟨g1, g2⟩
  · have a := h4 t g1 g2
    have b := g4 s h1 h2
    obtain rfl : s = t := by omega
    rw [h3, g3]
  · exact absurd h2 (g2 s h1)
  · exact absurd g2 (h2 t g1)
  · rw [h1, g1]
theorem hDk.skip {f : Nat → Bool} {k : Nat} {r : Int32} (h : hDk f k r) (hf : ¬ f k = true) : hDk f (k + 1) r := by
  rcases h with ⟨s, h1, h2, h3, h4⟩ | ⟨h1, h2⟩
  · refine Or.inl ⟨s, by omega, h2, h3, fun t ht ft => ?_⟩
    by_cases e : t = k
    · rw [e] at ft; exact absurd ft hf
    · exact h4 t (by omega) ft
  · refine Or.inr ⟨h1, fun t ht => ?_⟩
    by_cases e : t = k
    · rw [e]; exact hf
    · exact h2 t (by omega)
theorem nI_neg {k : Nat} (h : k ≤ 1000) : ¬ nI k < 0 := nI_pos (by omega)
theorem hDk.at {f : Nat → Bool} {k s : Nat} (h : hDk f k (nI s)) (hs : s < 256) (hk : k ≤ 256) : s < k ∧ f s = true ∧ ∀ t, t < k → f t = true → popN s 8 < popN t 8 ∨ (popN s 8 = popN t 8 ∧ s ≤ t) := by
  rcases h with ⟨q, h1, h2, h3, h4⟩ | ⟨h1, -⟩
  · obtain rfl : s = q := (nI_eq (by omega) (by omega)).mp h3
    exact ⟨h1, h2, h4⟩
  · exact absurd h1 (nI_n6 (by omega))
theorem hDk.get {f : Nat → Bool} {k : Nat} {r : Int32} (h : hDk f k r) (c : ¬ r < 0) : ∃ s, s < k ∧ r = nI s := by
  rcases h with ⟨q, h1, h2, h3, h4⟩ | ⟨h1, -⟩
  · exact ⟨q, h1, h3⟩
  · rw [h1] at c; exact absurd (by decide) c
theorem hDk.worse {f : Nat → Bool} {k s : Nat} (h : hDk f k (nI s)) (hs : s < 256) (hk : k ≤ 256) (c : popN s 8 ≤ popN k 8) : hDk f (k + 1) (nI s) := by
  obtain ⟨h1, h2, h4⟩ := h.at hs hk
  refine Or.inl ⟨s, by omega, h2, rfl, fun t ht ft => ?_⟩
  by_cases e : t = k
  · subst e; omega
  · exact h4 t (by omega) ft
theorem hDk.first {f : Nat → Bool} {k : Nat} {r : Int32} (h : hDk f k r) (hk : k ≤ 256) (c : r < 0) (hf : f k = true) : hDk f (k + 1) (nI k) := by
  rcases h with ⟨s, h1, h2, h3, h4⟩ | ⟨h1, h2⟩
  · rw [h3] at c; exact absurd c (nI_neg (by omega))
  · refine Or.inl ⟨k, by omega, hf, rfl, fun t ht ft => ?_⟩
    by_cases e : t = k
    · subst e; omega
    · exact absurd ft (h2 t (by omega))
theorem hDk.better {f : Nat → Bool} {k s : Nat} (h : hDk f k (nI s)) (hs : s < 256) (hk : k ≤ 256) (c : popN k 8 < popN s 8) (hf : f k = true) : hDk f (k + 1) (nI k) := by
  obtain ⟨h1, h2, h4⟩ := h.at hs hk
  refine Or.inl ⟨k, by omega, hf, rfl, fun t ht ft => ?_⟩
  by_cases e : t = k
  · subst e; omega
  · have := h4 t (by omega) ft
    omega
theorem hirU_ok (f : Nat → Bool) : ∀ k, k ≤ 256 → hDk f k (hirU f k)
  | 0, _ => Or.inr ⟨rfl, fun t ht => absurd ht (by omega)⟩
  | k + 1, hk => by
    have ih := hirU_ok f k (by omega)
    unfold hirU
    by_cases hf : f k = true
    · by_cases c : hirU f k < 0
      · rw [if_pos ⟨hf, Or.inl c⟩]; exact ih.first (by omega) c hf
      · obtain ⟨s, hs, e⟩ := ih.get c
        rw [e] at ih ⊢
        rw [nI_clamp (by omega)]
        by_cases c2 : popN k 8 < popN s 8
        · rw [if_pos ⟨hf, Or.inr c2⟩]; exact ih.better (by omega) (by omega) c2 hf
        · rw [if_neg (fun z => z.2.elim (nI_neg (by omega)) c2)]; exact ih.worse (by omega) (by omega) (by omega)
    · rw [if_neg (fun z => hf z.1)]; exact ih.skip hf
theorem hDk.eq {f : Nat → Bool} {r : Int32} (h : hDk f 256 r) : hirU f 256 = r := (hirU_ok f 256 (Nat.le_refl _)).uniq h
theorem and_z {s x : Nat} : s &&& x = 0 ↔ ∀ i, s.testBit i = true → x.testBit i = false := by
  constructor
  · intro e i hi
    have : (s &&& x).testBit i = false := by rw [e]; exact Nat.zero_testBit i
    rw [Nat.testBit_and, hi, Bool.true_and] at this
    exact this
  · intro h
    apply Nat.eq_of_testBit_eq
    intro i
    rw [Nat.testBit_and, Nat.zero_testBit]
    cases q : s.testBit i with
    | false => rfl
    | true => rw [h i q]; rfl
theorem tb8 {s i : Nat} (hs : s < 256) (h : s.testBit i = true) : i < 32 := by
  rcases Nat.lt_or_ge i 8 with q | q
  · omega
  · have h2 : s < 2 ^ i := Nat.lt_of_lt_of_le hs (by have : 2 ^ 8 ≤ 2 ^ i := Nat.pow_le_pow_right (by decide) q; exact this)
    rw [Nat.testBit_lt_two_pow h2] at h
    cases h
theorem free_iff {s a b : Nat} (hs : s < 256) : s &&& ((a &&& (b ^^^ 4294967295)) ^^^ 4294967295) = 0 ↔ s &&& (a ^^^ 4294967295) = 0 ∧ s &&& b = 0 := by
  rw [and_z, and_z, and_z]
  constructor
  · intro h
    refine ⟨fun i hi => ?_, fun i hi => ?_⟩
    · have := h i hi
      rw [bit_not _ _ (tb8 hs hi), Nat.testBit_and, bit_not _ _ (tb8 hs hi)] at this
      rw [bit_not _ _ (tb8 hs hi)]
      cases q : a.testBit i <;> rw [q] at this <;> simp_all
    · have := h i hi
      rw [bit_not _ _ (tb8 hs hi), Nat.testBit_and, bit_not _ _ (tb8 hs hi)] at this
      cases q : b.testBit i <;> rw [q] at this <;> simp_all
  · rintro ⟨h, g⟩ i hi
    have h1 := h i hi
    have g1 := g i hi
    rw [bit_not _ _ (tb8 hs hi)] at h1 ⊢
    rw [Nat.testBit_and, bit_not _ _ (tb8 hs hi), g1]
    cases q : a.testBit i <;> rw [q] at h1 <;> simp_all
theorem hirF_y {P : PC} {S : Nat → Nat} {L v s : Nat} (a : s &&& (P 0 4 ^^^ 4294967295) = 0) (b : s &&& P 0 5 = 0) (e : (uAt (upP P s) S L).2.2.2 9 ≤ v) : hirF P S L v s = true := by unfold hirF; rw [decide_eq_true a, decide_eq_true b, decide_eq_true e]; rfl
theorem hirF_n {P : PC} {S : Nat → Nat} {L v s : Nat} (h : ¬ (s &&& (P 0 4 ^^^ 4294967295) = 0 ∧ s &&& P 0 5 = 0 ∧ (uAt (upP P s) S L).2.2.2 9 ≤ v)) : ¬ hirF P S L v s = true := fun z => by
  unfold hirF at z
  rw [Bool.and_eq_true, Bool.and_eq_true, decide_eq_true_eq, decide_eq_true_eq, decide_eq_true_eq] at z
  exact h ⟨z.1.1, z.1.2, z.2⟩
theorem up_ok {P : PC} (hok : okP P) {y : Nat} (hy : y < 256) : okP (vup P 0 5 y) := ⟨hok.1, hok.2.1, hok.2.2.1, hok.2.2.2.1, hok.2.2.2.2.1, hy, hok.2.2.2.2.2.2⟩
theorem or8 {a b : Nat} (ha : a < 256) (hb : b < 256) : a ||| b < 256 := Nat.or_lt_two_pow (n := 8) ha hb
theorem tax_mono {P : PC} {S : Nat → Nat} {k : Nat} : ∀ m, k ≤ m → (uAt P S k).2.2.2 9 ≤ (uAt P S m).2.2.2 9
  | 0, h => by obtain rfl : k = 0 := by omega
               exact Nat.le_refl _
  | m + 1, h => by
    by_cases e : k = m + 1
    · rw [e]; exact Nat.le_refl _
    · refine Nat.le_trans (tax_mono m (by omega)) ?_
      show _ ≤ _ + P 0 2 * _
      exact Nat.le_add_right _ _
theorem vup_id {P : PC} : ∀ a b, P a b = vup P 0 5 (P 0 5) a b := fun a b => by
  rw [vup_get]
  by_cases e : a = 0 ∧ b = 5
  · rw [if_pos e, e.1, e.2]
  · rw [if_neg e]
theorem vup_2 {P : PC} {x y : Nat} : ∀ a b, vup (vup P 0 5 x) 0 5 y a b = vup P 0 5 y a b := fun a b => by
  rw [vup_get, vup_get, vup_get]
  by_cases e : a = 0 ∧ b = 5
  · rw [if_pos e, if_pos e]
  · rw [if_neg e, if_neg e, if_neg e]
theorem isE.held {μ : VS} {P : PC} (h : isE μ P) (v : Nat) : isE (vup μ.1 69 17 (nI v), μ.2) (vup P 0 5 v) := ⟨⟨h.1.1, rfl, h.1.2.2.1, h.1.2.2.2.1, h.1.2.2.2.2⟩, h.2.1, h.2.2.1, h.2.2.2.1, h.2.2.2.2⟩
set_option maxRecDepth 100000 in
set_option maxHeartbeats 4000000 in
theorem lpC_tax {G : VG} {d : Nat} {μ : VS} {Q : Option Value → VS → Prop} {X : VX} {E : PC} {L v_ : Nat} {S : Nat → Nat} (hX : Cx G (d + 4) yX8_isTrialTaxWithin cX8_isTrialTaxWithin 4 (some .boolean) X) (hR : ∀ r μ', Q r μ' → Ret G X r μ') (hT : isP μ 8 E) (hokE : okP E) (hL : isPad μ L S) (hpd : okPad L S) (hv : v_ < 1000) (hQ : ∀ μ' : VS, (∀ a, a ≠ 34 → a ≠ 35 → μ'.1 a = μ.1 a) → Q (some (.int (bI ((uAt E S L).2.2.2 9 ≤ v_)))) μ') : ∀ (j k_ : Nat) (μ1 : VS), k_ ≤ L → L + 1 ≤ k_ + j → (∀ a, a ≠ 34 → a ≠ 35 → μ1.1 a = μ.1 a) → isW μ1 34 (uAt E S k_) → V G 4 X 17 [(0, .ref 0), (1, .int (nI v_)), (2, .ref 34), (3, .int (nI k_))] [] μ1 := by
  have hS := hpd.2
  have hL60 := hpd.1
  intro j
  induction j with
  | zero =>
    intro k_ μ1 h1 h2
    exact absurd h2 (by omega)
  | succ j ih =>
    intro k_ μ1 h1 h2 hV hU1
    refine V_iload_n hX dX8_isTrialTaxWithin_17 3 rfl ?_
    refine V_aload_n hX dX8_isTrialTaxWithin_18 0 rfl ?_
    refine V_getr (j := 31) hX fX8_30 rfl rfl dX8_isTrialTaxWithin_19 ?_
    refine V_getN (x := nI L) hX fX8_128 rfl (by rw [hV 31 (by decide) (by decide)]; exact hL.1) dX8_isTrialTaxWithin_22 ?_
    refine V_icmp_geN (tgt := 60) hX dX8_isTrialTaxWithin_25 (by decide) (by first | omega | (have := uAt9 hokE.2.2.1 S k_; omega)) (by first | omega | (have := uAt9 hokE.2.2.1 S k_; omega)) (fun c25 => ?_) (fun c25 => ?_)
    · refine V_aload_n hX dX8_isTrialTaxWithin_60 2 rfl ?_
      refine V_getN (x := nI ((uAt E S k_).2.2.2 9)) hX fX8_318 rfl (hU1.2.2.2 9 (by decide) (by decide)) dX8_isTrialTaxWithin_61 ?_
      refine V_iload_n hX dX8_isTrialTaxWithin_64 1 rfl ?_
      refine V_icmp_gtN (tgt := 72) hX dX8_isTrialTaxWithin_65 (by decide) (by first | omega | (have := uAt9 hokE.2.2.1 S k_; omega)) (by first | omega | (have := uAt9 hokE.2.2.1 S k_; omega)) (fun c65 => ?_) (fun c65 => ?_)
      · refine V_iconst (v := nI 0) hX dX8_isTrialTaxWithin_72 (by decide) ?_
        refine V_zret hX rfl rfl dX8_isTrialTaxWithin_73 ?_
        obtain rfl : k_ = L := by omega
        exact hR _ _ (ret0 (p := (uAt E S k_).2.2.2 9 ≤ v_) (by omega) (hQ μ1 hV))
      · refine V_iconst (v := nI 1) hX dX8_isTrialTaxWithin_68 (by decide) ?_
        refine V_goto (tgt := 73) hX dX8_isTrialTaxWithin_69 (by decide) ?_
        refine V_zret hX rfl rfl dX8_isTrialTaxWithin_73 ?_
        obtain rfl : k_ = L := by omega
        exact hR _ _ (ret1 (p := (uAt E S k_).2.2.2 9 ≤ v_) c65 (hQ μ1 hV))
    · refine V_aload_n hX dX8_isTrialTaxWithin_28 2 rfl ?_
      refine V_getN (x := nI ((uAt E S k_).2.2.2 9)) hX fX8_318 rfl (hU1.2.2.2 9 (by decide) (by decide)) dX8_isTrialTaxWithin_29 ?_
      refine V_iload_n hX dX8_isTrialTaxWithin_32 1 rfl ?_
      refine V_icmp_gtN (tgt := 60) hX dX8_isTrialTaxWithin_33 (by decide) (by first | omega | (have := uAt9 hokE.2.2.1 S k_; omega)) (by first | omega | (have := uAt9 hokE.2.2.1 S k_; omega)) (fun c33 => ?_) (fun c33 => ?_)
      · refine V_aload_n hX dX8_isTrialTaxWithin_60 2 rfl ?_
        refine V_getN (x := nI ((uAt E S k_).2.2.2 9)) hX fX8_318 rfl (hU1.2.2.2 9 (by decide) (by decide)) dX8_isTrialTaxWithin_61 ?_
        refine V_iload_n hX dX8_isTrialTaxWithin_64 1 rfl ?_
        refine V_icmp_gtN (tgt := 72) hX dX8_isTrialTaxWithin_65 (by decide) (by first | omega | (have := uAt9 hokE.2.2.1 S k_; omega)) (by first | omega | (have := uAt9 hokE.2.2.1 S k_; omega)) (fun c65 => ?_) (fun c65 => ?_)
        · refine V_iconst (v := nI 0) hX dX8_isTrialTaxWithin_72 (by decide) ?_
          refine V_zret hX rfl rfl dX8_isTrialTaxWithin_73 ?_
          exact hR _ _ (ret0 (p := (uAt E S L).2.2.2 9 ≤ v_) (by have := tax_mono (P := E) (S := S) L (show k_ ≤ L by omega); omega) (hQ μ1 hV))
        · refine V_iconst (v := nI 1) hX dX8_isTrialTaxWithin_68 (by decide) ?_
          refine V_goto (tgt := 73) hX dX8_isTrialTaxWithin_69 (by decide) ?_
          refine V_zret hX rfl rfl dX8_isTrialTaxWithin_73 ?_
          exact absurd c33 (by omega)
      · refine V_aload_n hX dX8_isTrialTaxWithin_36 2 rfl ?_
        refine V_aload_n hX dX8_isTrialTaxWithin_37 0 rfl ?_
        refine V_getr (j := 8) hX fX8_16 rfl rfl dX8_isTrialTaxWithin_38 ?_
        refine V_aload_n hX dX8_isTrialTaxWithin_41 0 rfl ?_
        refine V_getr (j := 31) hX fX8_30 rfl rfl dX8_isTrialTaxWithin_42 ?_
        refine V_getr (j := 32) hX fX8_131 rfl rfl dX8_isTrialTaxWithin_45 ?_
        refine V_iload_n hX dX8_isTrialTaxWithin_48 3 rfl ?_
        refine V_ialdN (x := nI (S k_)) hX rfl (by first | omega | (have := uAt9 hokE.2.2.1 S k_; omega)) (by decide) (by rw [hV 32 (by decide) (by decide)]; exact hL.2 _ (by omega)) dX8_isTrialTaxWithin_49 ?_
        refine V_iconst (v := nI 0) hX dX8_isTrialTaxWithin_50 (by decide) ?_
        show V G 4 X 51 [(0, .ref 0), (1, .int (nI v_)), (2, .ref 34), (3, .int (nI k_))] [.int (bI (false = true)), .int (nI (S k_)), .ref 8, .ref 34] μ1
        refine V_callV (As := [.ref 8, .int (nI (S k_)), .int (bI (false = true))]) (st := []) hX mX8_155 rfl (k_pass (cold_ := false) (P := E) rfl rfl (hT.frame (fun j hj => hV _ (by omega) (by omega))) hokE (by have := hS k_ (by omega); omega) hU1 (mwR_ok hokE (mw0_ok hokE) k_) (by omega) (fun μ3 a3 b3 c3 d3 => ?_)) rfl (Nat.le_of_ble_eq_true rfl) (Nat.le_of_ble_eq_true rfl) dX8_isTrialTaxWithin_51
        show V G 4 X 54 [(0, .ref 0), (1, .int (nI v_)), (2, .ref 34), (3, .int (nI k_))] [] μ3
        refine V_iincN (n := 1) (ls' := [(0, .ref 0), (1, .int (nI v_)), (2, .ref 34), (3, .int (nI (k_ + 1)))]) hX dX8_isTrialTaxWithin_54 3 rfl (by decide) rfl ?_
        refine V_goto (tgt := 17) hX dX8_isTrialTaxWithin_57 (by decide) ?_
        exact ih (k_ + 1) μ3 (by omega) (by omega) (fun a z1 z2 => by rw [a3 a z1 z2]; exact hV a z1 z2) b3
set_option maxRecDepth 100000 in
set_option maxHeartbeats 4000000 in
theorem k_taxWithin {G : VG} {d : Nat} {μ : VS} {Q : Option Value → VS → Prop} {E : PC} {L v_ : Nat} {S : Nat → Nat} (hT : isP μ 8 E) (hokE : okP E) (hL : isPad μ L S) (hpd : okPad L S) (hv : v_ < 1000) (hQ : ∀ μ' : VS, (∀ a, a ≠ 34 → a ≠ 35 → μ'.1 a = μ.1 a) → Q (some (.int (bI ((uAt E S L).2.2.2 9 ≤ v_)))) μ') : Call G (d + 4) yX8_isTrialTaxWithin cX8_isTrialTaxWithin 4 (some .boolean) [.ref 0, .int (nI v_)] μ Q := by
  intro X hX hR
  show V G 4 X 0 [(0, .ref 0), (1, .int (nI v_))] [] μ
  refine V_aload_n hX dX8_isTrialTaxWithin_0 0 rfl ?_
  refine V_getr (j := 33) hX fX8_36 rfl rfl dX8_isTrialTaxWithin_1 ?_
  refine V_iconst (v := nI 0) hX dX8_isTrialTaxWithin_4 (by decide) ?_
  refine V_waldN (r := 34) hX rfl (by omega) (by decide) rfl dX8_isTrialTaxWithin_5 ?_
  refine V_astore_n (ls' := [(0, .ref 0), (1, .int (nI v_)), (2, .ref 34)]) hX dX8_isTrialTaxWithin_6 (by decide) rfl ?_
  refine V_aload_n hX dX8_isTrialTaxWithin_7 2 rfl ?_
  refine V_aload_n hX dX8_isTrialTaxWithin_8 0 rfl ?_
  refine V_getr (j := 8) hX fX8_16 rfl rfl dX8_isTrialTaxWithin_9 ?_
  refine V_callV (As := [.ref 8]) (st := []) hX mX8_287 rfl (k_begin rfl rfl hT (fun μ2 a2 b2 d2 => ?_)) rfl (Nat.le_of_ble_eq_true rfl) (Nat.le_of_ble_eq_true rfl) dX8_isTrialTaxWithin_12
  show V G 4 X 15 [(0, .ref 0), (1, .int (nI v_)), (2, .ref 34)] [] μ2
  refine V_iconst (v := nI 0) hX dX8_isTrialTaxWithin_15 (by decide) ?_
  refine V_istore_n (ls' := [(0, .ref 0), (1, .int (nI v_)), (2, .ref 34), (3, .int (nI 0))]) hX dX8_isTrialTaxWithin_16 (by decide) rfl ?_
  exact lpC_tax (μ := μ) hX hR hT hokE hL hpd hv hQ (L + 1) 0 μ2 (by omega) (by omega) a2 b2
set_option maxRecDepth 100000 in
set_option maxHeartbeats 4000000 in
theorem lpC_few1 {G : VG} {d : Nat} {μ : VS} {Q : Option Value → VS → Prop} {X : VX} {P : PC} {L : Nat} {S κ : Nat → Nat} {I : Nat → PC} {v_ c_ : Nat} (hX : Cx G (d + 5) yX8_fewestUprights cX8_fewestUprights 5 (some .int) X) (hR : ∀ r μ', Q r μ' → Ret G X r μ') (hok : okP P) (hpd : okPad L S) (hv : v_ < 1000) (hc : c_ ≤ 8) (hQ : ∀ μ', RC μ' P L S κ I → keepM μ μ' → Q (some (.int (hirU (hirF P S L v_) 256))) μ') (hF : ∀ (μ1 : VS) (x_ : Nat), RC μ1 P L S κ I → keepM μ μ1 → isP μ1 8 (vup P 0 5 x_) → (∀ t, t < 256 → hirF P S L v_ t = true → c_ < popN t 8) → V G 5 X 100 [(0, .ref 0), (1, .int (nI v_)), (2, .int (nI (P 0 4 &&& (P 0 5 ^^^ 4294967295)))), (3, .int (nI c_)), (4, .int (nI 256))] [] μ1) : ∀ (j s_ x_ : Nat) (μ1 : VS), s_ ≤ 256 → 257 ≤ s_ + j → RC μ1 P L S κ I → keepM μ μ1 → isP μ1 8 (vup P 0 5 x_) → (∀ t, t < 256 → hirF P S L v_ t = true → c_ < popN t 8 ∨ (popN t 8 = c_ ∧ s_ ≤ t)) → V G 5 X 40 [(0, .ref 0), (1, .int (nI v_)), (2, .int (nI (P 0 4 &&& (P 0 5 ^^^ 4294967295)))), (3, .int (nI c_)), (4, .int (nI s_))] [] μ1 := by
  have hP5 := hok.2.2.2.2.2.1
  intro j
  induction j with
  | zero =>
    intro s_ x_ μ1 h1 h2
    exact absurd h2 (by omega)
  | succ j ih =>
    intro s_ x_ μ1 h1 h2 hR1 hM1 hT1 hno
    refine V_iload hX dX8_fewestUprights_40 4 rfl ?_
    refine V_sipush (v := nI 256) hX dX8_fewestUprights_42 (by decide) ?_
    refine V_icmp_geN (tgt := 100) hX dX8_fewestUprights_45 (by decide) (by first | omega | (have := popN_le s_ 8; omega) | exact Nat.lt_of_le_of_lt Nat.and_le_left (by omega)) (by first | omega | (have := popN_le s_ 8; omega) | exact Nat.lt_of_le_of_lt Nat.and_le_left (by omega)) (fun c45 => ?_) (fun c45 => ?_)
    · obtain rfl : s_ = 256 := by omega
      exact hF μ1 x_ hR1 hM1 hT1 (fun t ht ft => by rcases hno t ht ft with z | ⟨z1, z2⟩; exact z; omega)
    · refine V_iload hX dX8_fewestUprights_48 4 rfl ?_
      refine V_iload_n hX dX8_fewestUprights_50 2 rfl ?_
      refine V_iconst (v := nI 4294967295) hX dX8_fewestUprights_51 (by decide) ?_
      refine V_ixorN hX dX8_fewestUprights_52 ?_
      refine V_iandN hX dX8_fewestUprights_53 ?_
      refine V_if_neN (tgt := 94) hX dX8_fewestUprights_54 (by decide) (by first | omega | (have := popN_le s_ 8; omega) | exact Nat.lt_of_le_of_lt Nat.and_le_left (by omega)) (fun c54 => ?_) (fun c54 => ?_)
      · refine V_iincN (n := 1) (ls' := [(0, .ref 0), (1, .int (nI v_)), (2, .int (nI (P 0 4 &&& (P 0 5 ^^^ 4294967295)))), (3, .int (nI c_)), (4, .int (nI (s_ + 1)))]) hX dX8_fewestUprights_94 4 rfl (by decide) rfl ?_
        refine V_goto (tgt := 40) hX dX8_fewestUprights_97 (by decide) ?_
        exact ih (s_ + 1) x_ μ1 (by omega) (by omega) hR1 hM1 hT1 (fun t ht ft => by
          rcases hno t ht ft with z | ⟨z1, z2⟩
          · exact Or.inl z
          · refine Or.inr ⟨z1, ?_⟩
            by_cases e : t = s_
            · subst e; exact absurd ft (hirF_n (fun w => c54 ((free_iff ht).mpr ⟨w.1, w.2.1⟩)))
            · omega)
      · refine V_iload hX dX8_fewestUprights_57 4 rfl ?_
        refine V_callS (As := [.int (nI s_)]) (st := []) hX mX8_192 (k_bitCount8 (by omega) ?_) rfl (Nat.le_of_ble_eq_true rfl) (Nat.le_of_ble_eq_true rfl) dX8_fewestUprights_59
        show V G 5 X 62 [(0, .ref 0), (1, .int (nI v_)), (2, .int (nI (P 0 4 &&& (P 0 5 ^^^ 4294967295)))), (3, .int (nI c_)), (4, .int (nI s_))] [.int (nI (popN s_ 8))] μ1
        refine V_iload_n hX dX8_fewestUprights_62 3 rfl ?_
        refine V_icmp_neN (tgt := 94) hX dX8_fewestUprights_63 (by decide) (by first | omega | (have := popN_le s_ 8; omega) | exact Nat.lt_of_le_of_lt Nat.and_le_left (by omega)) (by first | omega | (have := popN_le s_ 8; omega) | exact Nat.lt_of_le_of_lt Nat.and_le_left (by omega)) (fun c63 => ?_) (fun c63 => ?_)
        · refine V_iincN (n := 1) (ls' := [(0, .ref 0), (1, .int (nI v_)), (2, .int (nI (P 0 4 &&& (P 0 5 ^^^ 4294967295)))), (3, .int (nI c_)), (4, .int (nI (s_ + 1)))]) hX dX8_fewestUprights_94 4 rfl (by decide) rfl ?_
          refine V_goto (tgt := 40) hX dX8_fewestUprights_97 (by decide) ?_
          exact ih (s_ + 1) x_ μ1 (by omega) (by omega) hR1 hM1 hT1 (fun t ht ft => by
            rcases hno t ht ft with z | ⟨z1, z2⟩
            · exact Or.inl z
            · refine Or.inr ⟨z1, ?_⟩
              by_cases e : t = s_
              · subst e; exact absurd z1 c63
              · omega)
        · refine V_aload_n hX dX8_fewestUprights_66 0 rfl ?_
          refine V_getr (j := 8) hX fX8_16 rfl rfl dX8_fewestUprights_67 ?_
          refine V_aload_n hX dX8_fewestUprights_70 0 rfl ?_
          refine V_getr (j := 1) hX fX8_10 rfl rfl dX8_fewestUprights_71 ?_
          refine V_getN (x := nI (P 0 5)) hX fX8_109 rfl (hR1.1.1 5 (by decide)) dX8_fewestUprights_74 ?_
          refine V_iload hX dX8_fewestUprights_77 4 rfl ?_
          refine V_iorN hX dX8_fewestUprights_79 ?_
          refine V_puti hX fX8_109 fw_3_5 rfl dX8_fewestUprights_80 ?_
          show V G 5 X 83 [(0, .ref 0), (1, .int (nI v_)), (2, .int (nI (P 0 4 &&& (P 0 5 ^^^ 4294967295)))), (3, .int (nI c_)), (4, .int (nI s_))] [] (vup μ1.1 8 5 (nI ((P 0 5) ||| s_)), μ1.2)
          have hTa : isP (vup μ1.1 8 5 (nI ((P 0 5) ||| s_)), μ1.2) 8 (upP P s_) := (hT1.put (P 0 5 ||| s_)).congr vup_2
          have hLa : isPad (vup μ1.1 8 5 (nI ((P 0 5) ||| s_)), μ1.2) L S := ⟨hR1.2.1.1, hR1.2.1.2⟩
          refine V_aload_n hX dX8_fewestUprights_83 0 rfl ?_
          refine V_iload_n hX dX8_fewestUprights_84 1 rfl ?_
          refine V_callV (As := [.int (nI v_)]) (st := []) hX mX8_315 rfl (k_taxWithin hTa (up_ok hok (or8 hP5 (by omega))) hLa hpd hv (fun μ2 a2 => ?_)) rfl (Nat.le_of_ble_eq_true rfl) (Nat.le_of_ble_eq_true rfl) dX8_fewestUprights_85
          show V G 5 X 88 [(0, .ref 0), (1, .int (nI v_)), (2, .int (nI (P 0 4 &&& (P 0 5 ^^^ 4294967295)))), (3, .int (nI c_)), (4, .int (nI s_))] [.int (bI ((uAt (upP P s_) S L).2.2.2 9 ≤ v_))] μ2
          have hT2 : isP μ2 8 (upP P s_) := hTa.frame (fun j hj => a2 _ (by omega) (by omega))
          have hR2 : RC μ2 P L S κ I := hR1.frame (fun a ha => by rw [a2 a (by omega) (by omega)]; dsimp only; rw [vup_row _ _ _ (by omega)])
          have hM2 : keepM μ μ2 := hM1.tr (fun a ha => by rw [a2 a (by omega) (by omega)]; dsimp only; rw [vup_row _ _ _ (by omega)])
          refine V_if_eqB (tgt := 94) hX dX8_fewestUprights_88 (by decide) (fun c88 => ?_) (fun c88 => ?_)
          · refine V_iincN (n := 1) (ls' := [(0, .ref 0), (1, .int (nI v_)), (2, .int (nI (P 0 4 &&& (P 0 5 ^^^ 4294967295)))), (3, .int (nI c_)), (4, .int (nI (s_ + 1)))]) hX dX8_fewestUprights_94 4 rfl (by decide) rfl ?_
            refine V_goto (tgt := 40) hX dX8_fewestUprights_97 (by decide) ?_
            exact ih (s_ + 1) _ μ2 (by omega) (by omega) hR2 hM2 hT2 (fun t ht ft => by
              rcases hno t ht ft with z | ⟨z1, z2⟩
              · exact Or.inl z
              · refine Or.inr ⟨z1, ?_⟩
                by_cases e : t = s_
                · subst e; exact absurd ft (hirF_n (fun w => c88 w.2.2))
                · omega)
          · refine V_iload hX dX8_fewestUprights_91 4 rfl ?_
            refine V_iret hX rfl dX8_fewestUprights_93 ?_
            have hz := (free_iff (show s_ < 256 by omega)).mp c54
            have hd : hDk (hirF P S L v_) 256 (nI s_) := Or.inl ⟨s_, by omega, hirF_y hz.1 hz.2 c88, rfl, fun t ht ft => by rcases hno t ht ft with z | ⟨z1, z2⟩ <;> omega⟩
            have h9 := hQ μ2 hR2 hM2
            rw [hd.eq] at h9
            exact hR _ _ h9
set_option maxRecDepth 100000 in
set_option maxHeartbeats 4000000 in
theorem lpC_few2 {G : VG} {d : Nat} {μ : VS} {Q : Option Value → VS → Prop} {X : VX} {P : PC} {L : Nat} {S κ : Nat → Nat} {I : Nat → PC} {v_ : Nat} (hX : Cx G (d + 5) yX8_fewestUprights cX8_fewestUprights 5 (some .int) X) (hR : ∀ r μ', Q r μ' → Ret G X r μ') (hok : okP P) (hpd : okPad L S) (hv : v_ < 1000) (hQ : ∀ μ', RC μ' P L S κ I → keepM μ μ' → Q (some (.int (hirU (hirF P S L v_) 256))) μ') : ∀ (j c_ x_ : Nat) (μ1 : VS), c_ ≤ 9 → 10 ≤ c_ + j → RC μ1 P L S κ I → keepM μ μ1 → isP μ1 8 (vup P 0 5 x_) → (∀ t, t < 256 → hirF P S L v_ t = true → c_ ≤ popN t 8) → V G 5 X 31 [(0, .ref 0), (1, .int (nI v_)), (2, .int (nI (P 0 4 &&& (P 0 5 ^^^ 4294967295)))), (3, .int (nI c_))] [] μ1 := by
  intro j
  induction j with
  | zero =>
    intro c_ x_ μ1 h1 h2
    exact absurd h2 (by omega)
  | succ j ih =>
    intro c_ x_ μ1 h1 h2 hR1 hM1 hT1 hno
    refine V_iload_n hX dX8_fewestUprights_31 3 rfl ?_
    refine V_bipush (v := nI 8) hX dX8_fewestUprights_32 (by decide) ?_
    refine V_icmp_gtN (tgt := 106) hX dX8_fewestUprights_34 (by decide) (by omega) (by omega) (fun c34 => ?_) (fun c34 => ?_)
    · refine V_bipush (v := (-6)) hX dX8_fewestUprights_106 (by decide) ?_
      refine V_iret hX rfl dX8_fewestUprights_108 ?_
      have h9 := hQ μ1 hR1 hM1
      rw [hDk.eq (f := hirF P S L v_) (r := -6) (Or.inr ⟨rfl, fun t ht ft => by have := hno t ht ft; have := popN_le t 8; omega⟩)] at h9
      exact hR _ _ h9
    · refine V_iconst (v := nI 0) hX dX8_fewestUprights_37 (by decide) ?_
      refine V_istore (ls' := [(0, .ref 0), (1, .int (nI v_)), (2, .int (nI (P 0 4 &&& (P 0 5 ^^^ 4294967295)))), (3, .int (nI c_)), (4, .int (nI 0))]) hX dX8_fewestUprights_38 (by decide) rfl ?_
      refine lpC_few1 (μ := μ) hX hR hok hpd hv (show c_ ≤ 8 by omega) hQ (fun μ3 y_ hR3 hM3 hT3 hn3 => ?_) 257 0 x_ μ1 (by decide) (by decide) hR1 hM1 hT1 (fun t ht ft => by have := hno t ht ft; omega)
      refine V_iincN (n := 1) (ls' := [(0, .ref 0), (1, .int (nI v_)), (2, .int (nI (P 0 4 &&& (P 0 5 ^^^ 4294967295)))), (3, .int (nI (c_ + 1))), (4, .int (nI 256))]) hX dX8_fewestUprights_100 3 rfl (by decide) rfl ?_
      refine V_goto (tgt := 31) hX dX8_fewestUprights_103 (by decide) ?_
      exact V_sub [0, 1, 2, 3] rfl (ih (c_ + 1) y_ μ3 (by omega) (by omega) hR3 hM3 hT3 hn3)
set_option maxRecDepth 100000 in
set_option maxHeartbeats 4000000 in
theorem k_fewest {G : VG} {d : Nat} {μ : VS} {Q : Option Value → VS → Prop} {P : PC} {L : Nat} {S κ : Nat → Nat} {I : Nat → PC} {v_ : Nat} (hRC : RC μ P L S κ I) (hok : okP P) (hpd : okPad L S) (hv : v_ < 1000) (hQ : ∀ μ', RC μ' P L S κ I → keepM μ μ' → Q (some (.int (hirU (hirF P S L v_) 256))) μ') : Call G (d + 5) yX8_fewestUprights cX8_fewestUprights 5 (some .int) [.ref 0, .int (nI v_)] μ Q := by
  intro X hX hR
  have hP := hRC.1
  have hL := hRC.2.1
  have hS := hpd.2
  have hL60 := hpd.1
  have hP4 := hok.2.2.2.2.1
  show V G 5 X 0 [(0, .ref 0), (1, .int (nI v_))] [] μ
  refine V_aload_n hX dX8_fewestUprights_0 0 rfl ?_
  refine V_getr (j := 1) hX fX8_10 rfl rfl dX8_fewestUprights_1 ?_
  refine V_getN (x := nI (P 0 4)) hX fX8_106 rfl (hP.1 4 (by decide)) dX8_fewestUprights_4 ?_
  refine V_aload_n hX dX8_fewestUprights_7 0 rfl ?_
  refine V_getr (j := 1) hX fX8_10 rfl rfl dX8_fewestUprights_8 ?_
  refine V_getN (x := nI (P 0 5)) hX fX8_109 rfl (hP.1 5 (by decide)) dX8_fewestUprights_11 ?_
  refine V_iconst (v := nI 4294967295) hX dX8_fewestUprights_14 (by decide) ?_
  refine V_ixorN hX dX8_fewestUprights_15 ?_
  refine V_iandN hX dX8_fewestUprights_16 ?_
  refine V_istore_n (ls' := [(0, .ref 0), (1, .int (nI v_)), (2, .int (nI ((P 0 4) &&& ((P 0 5) ^^^ 4294967295))))]) hX dX8_fewestUprights_17 (by decide) rfl ?_
  refine V_aload_n hX dX8_fewestUprights_18 0 rfl ?_
  refine V_getr (j := 8) hX fX8_16 rfl rfl dX8_fewestUprights_19 ?_
  refine V_aload_n hX dX8_fewestUprights_22 0 rfl ?_
  refine V_getr (j := 1) hX fX8_10 rfl rfl dX8_fewestUprights_23 ?_
  refine V_callV (As := [.ref 1]) (st := []) hX mX8_272 rfl (kC_become rfl rfl (by decide) hP (fun μ1 q1 q2 q3 => ?_)) rfl (Nat.le_of_ble_eq_true rfl) (Nat.le_of_ble_eq_true rfl) dX8_fewestUprights_26
  show V G 5 X 29 [(0, .ref 0), (1, .int (nI v_)), (2, .int (nI ((P 0 4) &&& ((P 0 5) ^^^ 4294967295))))] [] μ1
  have hR1 : RC μ1 P L S κ I := hRC.frame (fun a ha => q2 a (by omega))
  have hM1 : keepM μ μ1 := fun a ha => q2 a (by omega)
  refine V_iconst (v := nI 0) hX dX8_fewestUprights_29 (by decide) ?_
  refine V_istore_n (ls' := [(0, .ref 0), (1, .int (nI v_)), (2, .int (nI ((P 0 4) &&& ((P 0 5) ^^^ 4294967295)))), (3, .int (nI 0))]) hX dX8_fewestUprights_30 (by decide) rfl ?_
  exact lpC_few2 (μ := μ) hX hR hok hpd hv hQ 10 0 (P 0 5) μ1 (by decide) (by decide) hR1 hM1 (q1.congr vup_id) (fun t _ _ => Nat.zero_le _)
set_option maxRecDepth 100000 in
set_option maxHeartbeats 4000000 in
theorem kC_hired {G : VG} {d : Nat} {μ : VS} {Q : Option Value → VS → Prop} {P : PC} {L : Nat} {S κ : Nat → Nat} {I : Nat → PC} {v_ w_ : Int32} (hRC : RC μ P L S κ I) (hok : okP P) (hpd : okPad L S) (hQ : ∀ μ', RC μ' P L S κ I → keepM μ μ' → Q (some (.int (hiredS P L S v_ w_))) μ') : Call G (d + 6) yX8_hired cX8_hired 4 (some .int) [.ref 0, .int v_, .int w_] μ Q := by
  intro X hX hR
  have hP := hRC.1
  have hL := hRC.2.1
  have hS := hpd.2
  have hL60 := hpd.1
  have hP4 := hok.2.2.2.2.1
  show V G 4 X 0 [(0, .ref 0), (1, .int v_), (2, .int w_)] [] μ
  refine V_iload_n hX dX8_hired_0 1 rfl ?_
  refine V_iconst (v := nI 0) hX dX8_hired_1 (by decide) ?_
  refine V_sipush (v := nI 999) hX dX8_hired_2 (by decide) ?_
  refine V_callS (As := [.int v_, .int (nI 0), .int (nI 999)]) (st := []) hX mX8_73 (k_isOutside ?_) rfl (Nat.le_of_ble_eq_true rfl) (Nat.le_of_ble_eq_true rfl) dX8_hired_5
  show V G 4 X 8 [(0, .ref 0), (1, .int v_), (2, .int w_)] [.int (bI (v_ < nI 0 ∨ nI 999 < v_))] μ
  refine V_if_neB (tgt := 20) hX dX8_hired_8 (by decide) (fun c8 => ?_) (fun c8 => ?_)
  · refine V_bipush (v := (-2)) hX dX8_hired_20 (by decide) ?_
    refine V_iret hX rfl dX8_hired_22 ?_
    have h9 := hQ μ
    rw [show hiredS P L S v_ w_ = -2 from if_neg (fun z => not_in_of_out c8 z.1)] at h9
    exact hR _ _ (h9 hRC (keepM.rf μ))
  · refine V_iload_n hX dX8_hired_11 2 rfl ?_
    refine V_iconst (v := nI 0) hX dX8_hired_12 (by decide) ?_
    refine V_iconst (v := nI 1) hX dX8_hired_13 (by decide) ?_
    refine V_callS (As := [.int w_, .int (nI 0), .int (nI 1)]) (st := []) hX mX8_73 (k_isOutside ?_) rfl (Nat.le_of_ble_eq_true rfl) (Nat.le_of_ble_eq_true rfl) dX8_hired_14
    show V G 4 X 17 [(0, .ref 0), (1, .int v_), (2, .int w_)] [.int (bI (w_ < nI 0 ∨ nI 1 < w_))] μ
    refine V_if_eqB (tgt := 23) hX dX8_hired_17 (by decide) (fun c17 => ?_) (fun c17 => ?_)
    · obtain ⟨k_, hk0, hk1, rfl⟩ := nat_of_out (by decide) (by decide) c8
      obtain ⟨b_, hb0, hb1, rfl⟩ := nat_of_out (by decide) (by decide) c17
      refine V_aload_n hX dX8_hired_23 0 rfl ?_
      refine V_getr (j := 31) hX fX8_30 rfl rfl dX8_hired_24 ?_
      refine V_callV (As := []) (st := []) hX mX8_137 rfl (kC_hasFault hL hS hL60 ?_) rfl (Nat.le_of_ble_eq_true rfl) (Nat.le_of_ble_eq_true rfl) dX8_hired_27
      show V G 4 X 30 [(0, .ref 0), (1, .int (nI k_)), (2, .int (nI b_))] [.int (bI (¬ fltU S L = -6))] μ
      refine V_if_eqB (tgt := 36) hX dX8_hired_30 (by decide) (fun c30 => ?_) (fun c30 => ?_)
      · refine V_aload_n hX dX8_hired_36 0 rfl ?_
        refine V_iload_n hX dX8_hired_37 1 rfl ?_
        refine V_callV (As := [.int (nI k_)]) (st := []) hX mX8_189 rfl (k_fewest hRC hok hpd (by omega) (fun μ2 hRC2 hkM => ?_)) rfl (Nat.le_of_ble_eq_true rfl) (Nat.le_of_ble_eq_true rfl) dX8_hired_38
        have hrd := hirU_ok (hirF P S L k_) 256 (Nat.le_refl _)
        generalize hrE : hirU (hirF P S L k_) 256 = r_ at hrd ⊢
        show V G 4 X 41 [(0, .ref 0), (1, .int (nI k_)), (2, .int (nI b_))] [.int r_] μ2
        refine V_istore_n (ls' := [(0, .ref 0), (1, .int (nI k_)), (2, .int (nI b_)), (3, .int r_)]) hX dX8_hired_41 (by decide) rfl ?_
        refine V_iload_n hX dX8_hired_42 3 rfl ?_
        refine V_bipush (v := (-6)) hX dX8_hired_43 (by decide) ?_
        refine V_icmp_eq (tgt := 53) hX dX8_hired_45 (by decide) (fun c45 => ?_) (fun c45 => ?_)
        · refine V_iload_n hX dX8_hired_53 3 rfl ?_
          refine V_goto (tgt := 61) hX dX8_hired_54 (by decide) ?_
          refine V_iret hX rfl dX8_hired_61 ?_
          have h9 := hQ μ2
          rw [show hiredS P L S (nI k_) (nI b_) = _ from (if_pos ⟨in_of_not_out c8, in_of_not_out c17⟩).trans (if_pos (Decidable.not_not.mp c30))] at h9
          rw [nI_clamp (by omega), hrE] at h9
          rw [show hirE r_ (nI b_) = r_ from if_pos (Or.inl (by rw [c45]; decide))] at h9
          exact hR _ _ (h9 hRC2 hkM)
        · refine V_iload_n hX dX8_hired_48 2 rfl ?_
          refine V_iconst (v := nI 1) hX dX8_hired_49 (by decide) ?_
          refine V_icmp_neN (tgt := 57) hX dX8_hired_50 (by decide) (by omega) (by omega) (fun c50 => ?_) (fun c50 => ?_)
          · obtain ⟨q_, hq, rfl⟩ : ∃ s, s < 256 ∧ r_ = nI s := by
              rcases hrd with ⟨s, h1, h2, h3, h4⟩ | ⟨h1, -⟩
              · exact ⟨s, h1, h3⟩
              · exact absurd h1 c45
            refine V_iload_n hX dX8_hired_57 3 rfl ?_
            refine V_callS (As := [.int (nI q_)]) (st := []) hX mX8_192 (k_bitCount8 (by omega) ?_) rfl (Nat.le_of_ble_eq_true rfl) (Nat.le_of_ble_eq_true rfl) dX8_hired_58
            show V G 4 X 61 [(0, .ref 0), (1, .int (nI k_)), (2, .int (nI b_)), (3, .int (nI q_))] [.int (nI (popN q_ 8))] μ2
            refine V_iret hX rfl dX8_hired_61 ?_
            have h9 := hQ μ2
            rw [show hiredS P L S (nI k_) (nI b_) = _ from (if_pos ⟨in_of_not_out c8, in_of_not_out c17⟩).trans (if_pos (Decidable.not_not.mp c30))] at h9
            rw [nI_clamp (by omega), hrE] at h9
            rw [show hirE (nI q_) (nI b_) = _ from if_neg (fun z => z.elim (nI_neg (by omega)) (fun e => c50 ((nI_eq (by omega) (by decide)).mp e))), nI_clamp (by omega)] at h9
            exact hR _ _ (h9 hRC2 hkM)
          · refine V_iload_n hX dX8_hired_53 3 rfl ?_
            refine V_goto (tgt := 61) hX dX8_hired_54 (by decide) ?_
            refine V_iret hX rfl dX8_hired_61 ?_
            have h9 := hQ μ2
            rw [show hiredS P L S (nI k_) (nI b_) = _ from (if_pos ⟨in_of_not_out c8, in_of_not_out c17⟩).trans (if_pos (Decidable.not_not.mp c30))] at h9
            rw [nI_clamp (by omega), hrE] at h9
            rw [show hirE r_ (nI b_) = r_ from if_pos (Or.inr (by rw [c50]))] at h9
            exact hR _ _ (h9 hRC2 hkM)
      · refine V_bipush (v := (-5)) hX dX8_hired_33 (by decide) ?_
        refine V_iret hX rfl dX8_hired_35 ?_
        have h9 := hQ μ
        rw [show hiredS P L S (nI k_) (nI b_) = -5 from (if_pos ⟨in_of_not_out c8, in_of_not_out c17⟩).trans (if_neg c30)] at h9
        exact hR _ _ (h9 hRC (keepM.rf μ))
    · refine V_bipush (v := (-2)) hX dX8_hired_20 (by decide) ?_
      refine V_iret hX rfl dX8_hired_22 ?_
      have h9 := hQ μ
      rw [show hiredS P L S v_ w_ = -2 from if_neg (fun z => not_in_of_out c17 z.2)] at h9
      exact hR _ _ (h9 hRC (keepM.rf μ))
set_option maxRecDepth 100000 in
set_option maxHeartbeats 4000000 in
theorem lpM_hired {G : VG} {d : Nat} {μ : VS} {Q : Option Value → VS → Prop} {X : VX} {P : PC} {L : Nat} {S κ : Nat → Nat} {I : Nat → PC} {v_ b_ : Nat} (hX : Cx G (d + 5) yX9_hired cX9_hired 5 (some .int) X) (hR : ∀ r μ', Q r μ' → Ret G X r μ') (hok : okP P) (hpd : okPad L S) (hv : v_ < 1000) (hb : b_ ≤ 1) (hQ : ∀ μ', RM μ' P L S κ I → keepC μ μ' → Q (some (.int (hirE (hirU (hirF P S L v_) 256) (nI b_)))) μ') : ∀ (j s_ : Nat) (μ0 : VS) (r_ : Int32), s_ ≤ 256 → 257 ≤ s_ + j → RM μ0 P L S κ I → keepC μ μ0 → hDk (hirF P S L v_) s_ r_ → V G 5 X 39 [(0, .ref 69), (1, .int (nI v_)), (2, .int (nI b_)), (3, .int r_), (4, .int (nI s_))] [] μ0 := by
  have hP5 := hok.2.2.2.2.2.1
  have hL60 := hpd.1
  have hS := hpd.2
  intro j
  induction j with
  | zero =>
    intro s_ μ0 r_ h1 h2
    exact absurd h2 (by omega)
  | succ j ih =>
    intro s_ μ0 r_ h1 h2 hR0 hC0 hB
    refine V_iload hX dX9_hired_39 4 rfl ?_
    refine V_sipush (v := nI 256) hX dX9_hired_41 (by decide) ?_
    refine V_icmp_geN (tgt := 129) hX dX9_hired_44 (by decide) (by first | omega | (have := popN_le s_ 8; omega) | (have := popN_le q_ 8; omega) | exact Nat.lt_of_le_of_lt Nat.and_le_left (by omega) | (have := uAt9 (up_ok hok (or8 hP5 (show s_ < 256 by omega))).2.2.1 S L; unfold upP; omega)) (by first | omega | (have := popN_le s_ 8; omega) | (have := popN_le q_ 8; omega) | exact Nat.lt_of_le_of_lt Nat.and_le_left (by omega) | (have := uAt9 (up_ok hok (or8 hP5 (show s_ < 256 by omega))).2.2.1 S L; unfold upP; omega)) (fun c44 => ?_) (fun c44 => ?_)
    · refine V_iload_n hX dX9_hired_129 3 rfl ?_
      refine V_if_lt (tgt := 138) hX dX9_hired_130 (by decide) (fun c130 => ?_) (fun c130 => ?_)
      · refine V_iload_n hX dX9_hired_138 3 rfl ?_
        refine V_goto (tgt := 146) hX dX9_hired_139 (by decide) ?_
        refine V_iret hX rfl dX9_hired_146 ?_
        obtain rfl : s_ = 256 := by omega
        have h9 := hQ μ0 hR0 hC0
        rw [hB.eq] at h9
        rw [show hirE r_ (nI b_) = r_ from if_pos (Or.inl c130)] at h9
        exact hR _ _ h9
      · refine V_iload_n hX dX9_hired_133 2 rfl ?_
        refine V_iconst (v := nI 1) hX dX9_hired_134 (by decide) ?_
        refine V_icmp_neN (tgt := 142) hX dX9_hired_135 (by decide) (by first | omega | (have := popN_le s_ 8; omega) | (have := popN_le q_ 8; omega) | exact Nat.lt_of_le_of_lt Nat.and_le_left (by omega) | (have := uAt9 (up_ok hok (or8 hP5 (show s_ < 256 by omega))).2.2.1 S L; unfold upP; omega)) (by first | omega | (have := popN_le s_ 8; omega) | (have := popN_le q_ 8; omega) | exact Nat.lt_of_le_of_lt Nat.and_le_left (by omega) | (have := uAt9 (up_ok hok (or8 hP5 (show s_ < 256 by omega))).2.2.1 S L; unfold upP; omega)) (fun c135 => ?_) (fun c135 => ?_)
        · obtain ⟨q_, hq, rfl⟩ := hB.get c130
          refine V_iload_n hX dX9_hired_142 3 rfl ?_
          refine V_callS (As := [.int (nI q_)]) (st := []) hX mX9_96 (k_bits (by omega) ?_) rfl (Nat.le_of_ble_eq_true rfl) (Nat.le_of_ble_eq_true rfl) dX9_hired_143
          show V G 5 X 146 [(0, .ref 69), (1, .int (nI v_)), (2, .int (nI b_)), (3, .int (nI q_)), (4, .int (nI s_))] [.int (nI (popN q_ 8))] μ0
          refine V_iret hX rfl dX9_hired_146 ?_
          obtain rfl : s_ = 256 := by omega
          have h9 := hQ μ0 hR0 hC0
          rw [hB.eq] at h9
          rw [show hirE (nI q_) (nI b_) = _ from if_neg (fun z => z.elim (nI_neg (by omega)) (fun e => c135 ((nI_eq (by omega) (by decide)).mp e))), nI_clamp (by omega)] at h9
          exact hR _ _ h9
        · refine V_iload_n hX dX9_hired_138 3 rfl ?_
          refine V_goto (tgt := 146) hX dX9_hired_139 (by decide) ?_
          refine V_iret hX rfl dX9_hired_146 ?_
          obtain rfl : s_ = 256 := by omega
          have h9 := hQ μ0 hR0 hC0
          rw [hB.eq] at h9
          rw [show hirE r_ (nI b_) = r_ from if_pos (Or.inr (by rw [c135]))] at h9
          exact hR _ _ h9
    · refine V_iload hX dX9_hired_47 4 rfl ?_
      refine V_aload_n hX dX9_hired_49 0 rfl ?_
      refine V_getN (x := nI (P 0 4)) hX fX9_72 rfl (hR0.1.1 4 (by decide)) dX9_hired_50 ?_
      refine V_iconst (v := nI 4294967295) hX dX9_hired_53 (by decide) ?_
      refine V_ixorN hX dX9_hired_54 ?_
      refine V_iandN hX dX9_hired_55 ?_
      refine V_if_neN (tgt := 123) hX dX9_hired_56 (by decide) (by first | omega | (have := popN_le s_ 8; omega) | (have := popN_le q_ 8; omega) | exact Nat.lt_of_le_of_lt Nat.and_le_left (by omega) | (have := uAt9 (up_ok hok (or8 hP5 (show s_ < 256 by omega))).2.2.1 S L; unfold upP; omega)) (fun c56 => ?_) (fun c56 => ?_)
      · refine V_iincN (n := 1) (ls' := [(0, .ref 69), (1, .int (nI v_)), (2, .int (nI b_)), (3, .int r_), (4, .int (nI (s_ + 1)))]) hX dX9_hired_123 4 rfl (by decide) rfl ?_
        refine V_goto (tgt := 39) hX dX9_hired_126 (by decide) ?_
        exact ih (s_ + 1) μ0 _ (by omega) (by omega) hR0 hC0 (hB.skip (hirF_n (fun w => c56 w.1)))
      · refine V_iload hX dX9_hired_59 4 rfl ?_
        refine V_aload_n hX dX9_hired_61 0 rfl ?_
        refine V_getN (x := nI (P 0 5)) hX fX9_83 rfl (hR0.1.1 5 (by decide)) dX9_hired_62 ?_
        refine V_iandN hX dX9_hired_65 ?_
        refine V_if_neN (tgt := 123) hX dX9_hired_66 (by decide) (by first | omega | (have := popN_le s_ 8; omega) | (have := popN_le q_ 8; omega) | exact Nat.lt_of_le_of_lt Nat.and_le_left (by omega) | (have := uAt9 (up_ok hok (or8 hP5 (show s_ < 256 by omega))).2.2.1 S L; unfold upP; omega)) (fun c66 => ?_) (fun c66 => ?_)
        · refine V_iincN (n := 1) (ls' := [(0, .ref 69), (1, .int (nI v_)), (2, .int (nI b_)), (3, .int r_), (4, .int (nI (s_ + 1)))]) hX dX9_hired_123 4 rfl (by decide) rfl ?_
          refine V_goto (tgt := 39) hX dX9_hired_126 (by decide) ?_
          exact ih (s_ + 1) μ0 _ (by omega) (by omega) hR0 hC0 (hB.skip (hirF_n (fun w => c66 w.2.1)))
        · refine V_iload_n hX dX9_hired_69 3 rfl ?_
          refine V_if_lt (tgt := 85) hX dX9_hired_70 (by decide) (fun c70 => ?_) (fun c70 => ?_)
          · refine V_aload_n hX dX9_hired_85 0 rfl ?_
            refine V_callV (As := []) (st := []) hX mX9_160 rfl (kM_lay hR0.1 hR0.2.1 hL60 (fun μ1 hLy hK1 => ?_)) rfl (Nat.le_of_ble_eq_true rfl) (Nat.le_of_ble_eq_true rfl) dX9_hired_86
            show V G 5 X 89 [(0, .ref 69), (1, .int (nI v_)), (2, .int (nI b_)), (3, .int r_), (4, .int (nI s_))] [] μ1
            have hR1 := hR0.keep hK1
            refine V_aload_n hX dX9_hired_89 0 rfl ?_
            refine V_aload_n hX dX9_hired_90 0 rfl ?_
            refine V_getN (x := nI (P 0 5)) hX fX9_83 rfl (hR1.1.1 5 (by decide)) dX9_hired_91 ?_
            refine V_iload hX dX9_hired_94 4 rfl ?_
            refine V_iorN hX dX9_hired_96 ?_
            refine V_puti hX fX9_116 fw_8_17 rfl dX9_hired_97 ?_
            show V G 5 X 100 [(0, .ref 69), (1, .int (nI v_)), (2, .int (nI b_)), (3, .int r_), (4, .int (nI s_))] [] (vup μ1.1 69 17 (nI ((P 0 5) ||| s_)), μ1.2)
            have hKa : mKeep μ1 (vup μ1.1 69 17 (nI ((P 0 5) ||| s_)), μ1.2) := mKeep.put (a := 69) (k := 17) (x := nI (P 0 5 ||| s_)) (Or.inr (by decide))
            have hRa := hR1.keep hKa
            have hEa := hLy.1.held (P 0 5 ||| s_)
            refine V_aload_n hX dX9_hired_100 0 rfl ?_
            refine V_aload_n hX dX9_hired_101 0 rfl ?_
            refine V_getN (x := nI L) hX fX9_103 rfl hRa.2.1.1 dX9_hired_102 ?_
            refine V_callV (As := [.int (nI L)]) (st := []) hX mX9_163 rfl (kM_preach (E := upP P s_) (sg_ := S) (cb_ := noC) (cm_ := 0) hEa (up_ok hok (or8 hP5 (by omega))) hLy.2.2.2 (by omega) (fun i hi => hLy.2.2.1 i hi) (fun i hi => by have := hS i hi; omega) (fun i _ => Or.inr ⟨rfl, rfl⟩) (fun μ2 hp => ?_)) rfl (Nat.le_of_ble_eq_true rfl) (Nat.le_of_ble_eq_true rfl) dX9_hired_105
            show V G 5 X 108 [(0, .ref 69), (1, .int (nI v_)), (2, .int (nI b_)), (3, .int r_), (4, .int (nI s_))] [] μ2
            have hR2 := hRa.keep hp.1.keep
            have hC2 : keepC μ μ2 := hC0.tr ((hK1.tr hKa).tr hp.1.keep).C
            refine V_aload_n hX dX9_hired_108 0 rfl ?_
            refine V_getN (x := nI ((uAt (upP P s_) S L).2.2.2 9)) hX fX9_147 rfl hp.2.2.2.1.2.2.1 dX9_hired_109 ?_
            refine V_iload_n hX dX9_hired_112 1 rfl ?_
            refine V_icmp_gtN (tgt := 121) hX dX9_hired_113 (by decide) (by first | omega | (have := popN_le s_ 8; omega) | (have := popN_le q_ 8; omega) | exact Nat.lt_of_le_of_lt Nat.and_le_left (by omega) | (have := uAt9 (up_ok hok (or8 hP5 (show s_ < 256 by omega))).2.2.1 S L; unfold upP; omega)) (by first | omega | (have := popN_le s_ 8; omega) | (have := popN_le q_ 8; omega) | exact Nat.lt_of_le_of_lt Nat.and_le_left (by omega) | (have := uAt9 (up_ok hok (or8 hP5 (show s_ < 256 by omega))).2.2.1 S L; unfold upP; omega)) (fun c113 => ?_) (fun c113 => ?_)
            · refine V_iload_n hX dX9_hired_121 3 rfl ?_
              refine V_istore_n (ls' := [(0, .ref 69), (1, .int (nI v_)), (2, .int (nI b_)), (3, .int r_), (4, .int (nI s_))]) hX dX9_hired_122 (by decide) rfl ?_
              refine V_iincN (n := 1) (ls' := [(0, .ref 69), (1, .int (nI v_)), (2, .int (nI b_)), (3, .int r_), (4, .int (nI (s_ + 1)))]) hX dX9_hired_123 4 rfl (by decide) rfl ?_
              refine V_goto (tgt := 39) hX dX9_hired_126 (by decide) ?_
              exact ih (s_ + 1) μ2 _ (by omega) (by omega) hR2 hC2 (hB.skip (hirF_n (fun w => absurd w.2.2 (by omega))))
            · refine V_iload hX dX9_hired_116 4 rfl ?_
              refine V_goto (tgt := 122) hX dX9_hired_118 (by decide) ?_
              refine V_istore_n (ls' := [(0, .ref 69), (1, .int (nI v_)), (2, .int (nI b_)), (3, .int (nI s_)), (4, .int (nI s_))]) hX dX9_hired_122 (by decide) rfl ?_
              refine V_iincN (n := 1) (ls' := [(0, .ref 69), (1, .int (nI v_)), (2, .int (nI b_)), (3, .int (nI s_)), (4, .int (nI (s_ + 1)))]) hX dX9_hired_123 4 rfl (by decide) rfl ?_
              refine V_goto (tgt := 39) hX dX9_hired_126 (by decide) ?_
              exact ih (s_ + 1) μ2 _ (by omega) (by omega) hR2 hC2 (hB.first (by omega) c70 (hirF_y c56 c66 c113))
          · obtain ⟨q_, hq, rfl⟩ := hB.get c70
            refine V_iload hX dX9_hired_73 4 rfl ?_
            refine V_callS (As := [.int (nI s_)]) (st := []) hX mX9_96 (k_bits (by omega) ?_) rfl (Nat.le_of_ble_eq_true rfl) (Nat.le_of_ble_eq_true rfl) dX9_hired_75
            show V G 5 X 78 [(0, .ref 69), (1, .int (nI v_)), (2, .int (nI b_)), (3, .int (nI q_)), (4, .int (nI s_))] [.int (nI (popN s_ 8))] μ0
            refine V_iload_n hX dX9_hired_78 3 rfl ?_
            refine V_callS (As := [.int (nI q_)]) (st := [.int (nI (popN s_ 8))]) hX mX9_96 (k_bits (by omega) ?_) rfl (Nat.le_of_ble_eq_true rfl) (Nat.le_of_ble_eq_true rfl) dX9_hired_79
            show V G 5 X 82 [(0, .ref 69), (1, .int (nI v_)), (2, .int (nI b_)), (3, .int (nI q_)), (4, .int (nI s_))] [.int (nI (popN q_ 8)), .int (nI (popN s_ 8))] μ0
            refine V_icmp_geN (tgt := 123) hX dX9_hired_82 (by decide) (by first | omega | (have := popN_le s_ 8; omega) | (have := popN_le q_ 8; omega) | exact Nat.lt_of_le_of_lt Nat.and_le_left (by omega) | (have := uAt9 (up_ok hok (or8 hP5 (show s_ < 256 by omega))).2.2.1 S L; unfold upP; omega)) (by first | omega | (have := popN_le s_ 8; omega) | (have := popN_le q_ 8; omega) | exact Nat.lt_of_le_of_lt Nat.and_le_left (by omega) | (have := uAt9 (up_ok hok (or8 hP5 (show s_ < 256 by omega))).2.2.1 S L; unfold upP; omega)) (fun c82 => ?_) (fun c82 => ?_)
            · refine V_iincN (n := 1) (ls' := [(0, .ref 69), (1, .int (nI v_)), (2, .int (nI b_)), (3, .int (nI q_)), (4, .int (nI (s_ + 1)))]) hX dX9_hired_123 4 rfl (by decide) rfl ?_
              refine V_goto (tgt := 39) hX dX9_hired_126 (by decide) ?_
              exact ih (s_ + 1) μ0 _ (by omega) (by omega) hR0 hC0 (hB.worse (by omega) (by omega) c82)
            · refine V_aload_n hX dX9_hired_85 0 rfl ?_
              refine V_callV (As := []) (st := []) hX mX9_160 rfl (kM_lay hR0.1 hR0.2.1 hL60 (fun μ1 hLy hK1 => ?_)) rfl (Nat.le_of_ble_eq_true rfl) (Nat.le_of_ble_eq_true rfl) dX9_hired_86
              show V G 5 X 89 [(0, .ref 69), (1, .int (nI v_)), (2, .int (nI b_)), (3, .int (nI q_)), (4, .int (nI s_))] [] μ1
              have hR1 := hR0.keep hK1
              refine V_aload_n hX dX9_hired_89 0 rfl ?_
              refine V_aload_n hX dX9_hired_90 0 rfl ?_
              refine V_getN (x := nI (P 0 5)) hX fX9_83 rfl (hR1.1.1 5 (by decide)) dX9_hired_91 ?_
              refine V_iload hX dX9_hired_94 4 rfl ?_
              refine V_iorN hX dX9_hired_96 ?_
              refine V_puti hX fX9_116 fw_8_17 rfl dX9_hired_97 ?_
              show V G 5 X 100 [(0, .ref 69), (1, .int (nI v_)), (2, .int (nI b_)), (3, .int (nI q_)), (4, .int (nI s_))] [] (vup μ1.1 69 17 (nI ((P 0 5) ||| s_)), μ1.2)
              have hKa : mKeep μ1 (vup μ1.1 69 17 (nI ((P 0 5) ||| s_)), μ1.2) := mKeep.put (a := 69) (k := 17) (x := nI (P 0 5 ||| s_)) (Or.inr (by decide))
              have hRa := hR1.keep hKa
              have hEa := hLy.1.held (P 0 5 ||| s_)
              refine V_aload_n hX dX9_hired_100 0 rfl ?_
              refine V_aload_n hX dX9_hired_101 0 rfl ?_
              refine V_getN (x := nI L) hX fX9_103 rfl hRa.2.1.1 dX9_hired_102 ?_
              refine V_callV (As := [.int (nI L)]) (st := []) hX mX9_163 rfl (kM_preach (E := upP P s_) (sg_ := S) (cb_ := noC) (cm_ := 0) hEa (up_ok hok (or8 hP5 (by omega))) hLy.2.2.2 (by omega) (fun i hi => hLy.2.2.1 i hi) (fun i hi => by have := hS i hi; omega) (fun i _ => Or.inr ⟨rfl, rfl⟩) (fun μ2 hp => ?_)) rfl (Nat.le_of_ble_eq_true rfl) (Nat.le_of_ble_eq_true rfl) dX9_hired_105
              show V G 5 X 108 [(0, .ref 69), (1, .int (nI v_)), (2, .int (nI b_)), (3, .int (nI q_)), (4, .int (nI s_))] [] μ2
              have hR2 := hRa.keep hp.1.keep
              have hC2 : keepC μ μ2 := hC0.tr ((hK1.tr hKa).tr hp.1.keep).C
              refine V_aload_n hX dX9_hired_108 0 rfl ?_
              refine V_getN (x := nI ((uAt (upP P s_) S L).2.2.2 9)) hX fX9_147 rfl hp.2.2.2.1.2.2.1 dX9_hired_109 ?_
              refine V_iload_n hX dX9_hired_112 1 rfl ?_
              refine V_icmp_gtN (tgt := 121) hX dX9_hired_113 (by decide) (by first | omega | (have := popN_le s_ 8; omega) | (have := popN_le q_ 8; omega) | exact Nat.lt_of_le_of_lt Nat.and_le_left (by omega) | (have := uAt9 (up_ok hok (or8 hP5 (show s_ < 256 by omega))).2.2.1 S L; unfold upP; omega)) (by first | omega | (have := popN_le s_ 8; omega) | (have := popN_le q_ 8; omega) | exact Nat.lt_of_le_of_lt Nat.and_le_left (by omega) | (have := uAt9 (up_ok hok (or8 hP5 (show s_ < 256 by omega))).2.2.1 S L; unfold upP; omega)) (fun c113 => ?_) (fun c113 => ?_)
              · refine V_iload_n hX dX9_hired_121 3 rfl ?_
                refine V_istore_n (ls' := [(0, .ref 69), (1, .int (nI v_)), (2, .int (nI b_)), (3, .int (nI q_)), (4, .int (nI s_))]) hX dX9_hired_122 (by decide) rfl ?_
                refine V_iincN (n := 1) (ls' := [(0, .ref 69), (1, .int (nI v_)), (2, .int (nI b_)), (3, .int (nI q_)), (4, .int (nI (s_ + 1)))]) hX dX9_hired_123 4 rfl (by decide) rfl ?_
                refine V_goto (tgt := 39) hX dX9_hired_126 (by decide) ?_
                exact ih (s_ + 1) μ2 _ (by omega) (by omega) hR2 hC2 (hB.skip (hirF_n (fun w => absurd w.2.2 (by omega))))
              · refine V_iload hX dX9_hired_116 4 rfl ?_
                refine V_goto (tgt := 122) hX dX9_hired_118 (by decide) ?_
                refine V_istore_n (ls' := [(0, .ref 69), (1, .int (nI v_)), (2, .int (nI b_)), (3, .int (nI s_)), (4, .int (nI s_))]) hX dX9_hired_122 (by decide) rfl ?_
                refine V_iincN (n := 1) (ls' := [(0, .ref 69), (1, .int (nI v_)), (2, .int (nI b_)), (3, .int (nI s_)), (4, .int (nI (s_ + 1)))]) hX dX9_hired_123 4 rfl (by decide) rfl ?_
                refine V_goto (tgt := 39) hX dX9_hired_126 (by decide) ?_
                exact ih (s_ + 1) μ2 _ (by omega) (by omega) hR2 hC2 (hB.better (by omega) (by omega) c82 (hirF_y c56 c66 c113))
set_option maxRecDepth 100000 in
set_option maxHeartbeats 4000000 in
theorem kM_hired {G : VG} {d : Nat} {μ : VS} {Q : Option Value → VS → Prop} {P : PC} {L : Nat} {S κ : Nat → Nat} {I : Nat → PC} {v_ w_ : Int32} (hRM : RM μ P L S κ I) (hok : okP P) (hpd : okPad L S) (hQ : ∀ μ', RM μ' P L S κ I → keepC μ μ' → Q (some (.int (hiredS P L S v_ w_))) μ') : Call G (d + 6) yX9_hired cX9_hired 5 (some .int) [.ref 69, .int v_, .int w_] μ Q := by
  intro X hX hR
  have hM := hRM.1
  have hL := hRM.2.1
  have hS := hpd.2
  have hL60 := hpd.1
  have hP4 := hok.2.2.2.2.1
  have h4 := hP4
  show V G 5 X 0 [(0, .ref 69), (1, .int v_), (2, .int w_)] [] μ
  refine V_iload_n hX dX9_hired_0 1 rfl ?_
  refine V_iconst (v := nI 0) hX dX9_hired_1 (by decide) ?_
  refine V_sipush (v := nI 999) hX dX9_hired_2 (by decide) ?_
  refine V_callS (As := [.int v_, .int (nI 0), .int (nI 999)]) (st := []) hX mX9_75 (k_in ?_) rfl (Nat.le_of_ble_eq_true rfl) (Nat.le_of_ble_eq_true rfl) dX9_hired_5
  show V G 5 X 8 [(0, .ref 69), (1, .int v_), (2, .int w_)] [.int (bI (nI 0 ≤ v_ ∧ v_ ≤ nI 999))] μ
  refine V_if_eqB (tgt := 20) hX dX9_hired_8 (by decide) (fun c8 => ?_) (fun c8 => ?_)
  · refine V_bipush (v := (-2)) hX dX9_hired_20 (by decide) ?_
    refine V_iret hX rfl dX9_hired_22 ?_
    have h9 := hQ μ
    rw [show hiredS P L S v_ w_ = -2 from if_neg (fun z => c8 z.1)] at h9
    exact hR _ _ (h9 hRM (keepC.rf μ))
  · refine V_iload_n hX dX9_hired_11 2 rfl ?_
    refine V_iconst (v := nI 0) hX dX9_hired_12 (by decide) ?_
    refine V_iconst (v := nI 1) hX dX9_hired_13 (by decide) ?_
    refine V_callS (As := [.int w_, .int (nI 0), .int (nI 1)]) (st := []) hX mX9_75 (k_in ?_) rfl (Nat.le_of_ble_eq_true rfl) (Nat.le_of_ble_eq_true rfl) dX9_hired_14
    show V G 5 X 17 [(0, .ref 69), (1, .int v_), (2, .int w_)] [.int (bI (nI 0 ≤ w_ ∧ w_ ≤ nI 1))] μ
    refine V_if_neB (tgt := 23) hX dX9_hired_17 (by decide) (fun c17 => ?_) (fun c17 => ?_)
    · obtain ⟨k_, hk0, hk1, rfl⟩ := nat_of_in (by decide) (by decide) c8
      obtain ⟨b_, hb0, hb1, rfl⟩ := nat_of_in (by decide) (by decide) c17
      refine V_aload_n hX dX9_hired_23 0 rfl ?_
      refine V_callV (As := []) (st := []) hX mX9_109 rfl (kM_faultOf hL hS hL60 ?_) rfl (Nat.le_of_ble_eq_true rfl) (Nat.le_of_ble_eq_true rfl) dX9_hired_24
      show V G 5 X 27 [(0, .ref 69), (1, .int (nI k_)), (2, .int (nI b_))] [.int (fltU S L)] μ
      refine V_if_lt (tgt := 33) hX dX9_hired_27 (by decide) (fun c27 => ?_) (fun c27 => ?_)
      · refine V_bipush (v := (-6)) hX dX9_hired_33 (by decide) ?_
        refine V_istore_n (ls' := [(0, .ref 69), (1, .int (nI k_)), (2, .int (nI b_)), (3, .int (-6))]) hX dX9_hired_35 (by decide) rfl ?_
        refine V_iconst (v := nI 0) hX dX9_hired_36 (by decide) ?_
        refine V_istore (ls' := [(0, .ref 69), (1, .int (nI k_)), (2, .int (nI b_)), (3, .int (-6)), (4, .int (nI 0))]) hX dX9_hired_37 (by decide) rfl ?_
        refine lpM_hired (μ := μ) hX hR hok hpd (by omega) (by omega) (fun μ' z1 z2 => ?_) 257 0 μ _ (by decide) (by decide) hRM (keepC.rf μ) (Or.inr ⟨rfl, fun t ht => absurd ht (by omega)⟩)
        have h9 := hQ μ' z1 z2
        rw [show hiredS P L S (nI k_) (nI b_) = _ from (if_pos ⟨c8, c17⟩).trans (if_pos (flt_neg L (by omega) c27)), nI_clamp (by omega)] at h9
        exact h9
      · refine V_bipush (v := (-5)) hX dX9_hired_30 (by decide) ?_
        refine V_iret hX rfl dX9_hired_32 ?_
        have h9 := hQ μ
        rw [show hiredS P L S (nI k_) (nI b_) = -5 from (if_pos ⟨c8, c17⟩).trans (if_neg (flt_ge hL60 c27))] at h9
        exact hR _ _ (h9 hRM (keepC.rf μ))
    · refine V_bipush (v := (-2)) hX dX9_hired_20 (by decide) ?_
      refine V_iret hX rfl dX9_hired_22 ?_
      have h9 := hQ μ
      rw [show hiredS P L S v_ w_ = -2 from if_neg (fun z => c17 z.2)] at h9
      exact hR _ _ (h9 hRM (keepC.rf μ))
