abbrev lgN (n : Nat) : Int64 := Int64.ofNat n
theorem lgN_or (a b : Nat) : lgN a ||| lgN b = lgN (a ||| b) := by
  apply Int64.toBitVec_inj.mp
  show BitVec.ofNat 64 a ||| BitVec.ofNat 64 b = BitVec.ofNat 64 (a ||| b)
  apply BitVec.eq_of_toNat_eq
  simp only [BitVec.toNat_or, BitVec.toNat_ofNat]
  rw [Nat.or_mod_two_pow]
theorem lgN_inj {a b : Nat} (ha : a < 2 ^ 63) (hb : b < 2 ^ 63) : lgN a = lgN b ↔ a = b := by
  constructor
  · intro h
    have h2 := congrArg (fun z => z.toBitVec.toNat) h
    have e : ∀ n, n < 2 ^ 63 → (lgN n).toBitVec.toNat = n := fun n hn => by
      show (BitVec.ofNat 64 n).toNat = n
      rw [BitVec.toNat_ofNat]
      exact Nat.mod_eq_of_lt (by omega)
    simp only [e a ha, e b hb] at h2
    exact h2
  · intro h
    rw [h]
theorem lgN_shl {x k : Nat} (hx : x ≤ 1) (hk : k < 60) : (nI x).toInt64 <<< ((nI k).toInt64 &&& 63) = lgN (x <<< k) := by
  have key : ∀ k : Fin 60, ((nI 0).toInt64 <<< ((nI k.val).toInt64 &&& 63) = lgN (0 <<< k.val)) ∧ ((nI 1).toInt64 <<< ((nI k.val).toInt64 &&& 63) = lgN (1 <<< k.val)) := by decide +kernel
  have := key ⟨k, hk⟩
  rcases (by omega : x = 0 ∨ x = 1) with e | e <;> subst e
  · exact this.1
  · exact this.2
theorem cmp0 {a b : Int64} : lg_cmp a b = 0 ↔ a = b := by
  unfold lg_cmp
  by_cases h : a > b
  · rw [if_pos h]
    constructor
    · intro z; exact absurd z (by decide)
    · intro z; rw [z] at h; exact absurd h (Int64.lt_irrefl)
  · rw [if_neg h]
    by_cases e : a = b
    · rw [if_pos e]; exact ⟨fun _ => e, fun _ => rfl⟩
    · rw [if_neg e]; exact ⟨fun z => absurd z (by decide), fun z => absurd z e⟩
def eqB (f g : Nat → Bool) : Nat → Bool
  | 0 => true
  | k + 1 => eqB f g k && decide (f k = g k)
theorem eqB_iff {f g : Nat → Bool} : ∀ {n : Nat}, eqB f g n = true ↔ ∀ i, i < n → f i = g i
  | 0 => ⟨fun _ i hi => absurd hi (by omega), fun _ => rfl⟩
  | n + 1 => by
    unfold eqB
    rw [Bool.and_eq_true, eqB_iff, decide_eq_true_eq]
    constructor
    · rintro ⟨h1, h2⟩ i hi
      by_cases e : i = n
      · rw [e]; exact h2
      · exact h1 i (by omega)
    · intro h
      exact ⟨fun i hi => h i (by omega), h n (by omega)⟩
theorem sm_eq_iff {f g : Nat → Bool} {n : Nat} : sm (fun m => m) f n = sm (fun m => m) g n ↔ eqB f g n = true := by
  rw [eqB_iff]
  constructor
  · intro e i hi
    have h1 : (sm (fun m => m) f n).testBit i = true ↔ f i = true := by
      rw [sm_iff]
      exact ⟨fun ⟨h, _, h2, h3⟩ => by rw [← h3]; exact h2, fun h => ⟨i, hi, h, rfl⟩⟩
    have h2 : (sm (fun m => m) g n).testBit i = true ↔ g i = true := by
      rw [sm_iff]
      exact ⟨fun ⟨h, _, h2, h3⟩ => by rw [← h3]; exact h2, fun h => ⟨i, hi, h, rfl⟩⟩
    rw [e] at h1
    rw [Bool.eq_iff_iff]
    exact h1.symm.trans h2
  · intro h
    exact sm_congr h
abbrev dpr (P : PC) (S : Nat → Nat) (h m : Nat) : Bool := dipF P (S m) (lAt P S m) h
abbrev alE (P : PC) (S : Nat → Nat) (L h q : Nat) : Prop := pPres P h = true ∧ pPres P q = true ∧ eqB (dpr P S h) (dpr P S q) L = true
def paQ (P : PC) (S : Nat → Nat) (L : Nat) (i : Int32) (K : Nat → Int32) (h : Nat) : Nat → Nat → Nat → Int32
  | 0, _, n => K n
  | j + 1, q, n => if alE P S L h q then (if nI n = i then nI (10 * h + q) else paQ P S L i K h j (q + 1) (n + 1)) else paQ P S L i K h j (q + 1) n
def paH (P : PC) (S : Nat → Nat) (L : Nat) (i : Int32) (K : Nat → Int32) : Nat → Nat → Nat → Int32
  | 0, _, n => K n
  | j + 1, h, n => paQ P S L i (fun n' => paH P S L i K j (h + 1) n') h j (h + 1) n
def alK (i : Int32) (n : Nat) : Int32 := if i = -1 then nI n else -6
def alikeS (P : PC) (L : Nat) (S : Nat → Nat) (i : Int32) : Int32 := if fltU S L = -6 then paH P S L i (alK i) 8 0 0 else -5
theorem nI_n1 {k : Nat} (h : k ≤ 1000) : ¬ nI k = -1 := fun e => by
  have := nI_pos (n := k) (by omega)
  rw [e] at this
  exact this (by decide)
theorem bI_inj {p q : Prop} [Decidable p] [Decidable q] : bI p = bI q ↔ (p ↔ q) := by
  unfold bI
  by_cases h : p <;> by_cases g : q
  · simp [h, g]
  · simp [h, g]
  · simp [h, g]
  · simp [h, g]
set_option maxRecDepth 100000 in
set_option maxHeartbeats 4000000 in
theorem lpC_fill0 {G : VG} {d : Nat} {μ : VS} {X : VX} (hX : Cx G d yX8_fillDipRows cX8_fillDipRows 4 none X) (hF : ∀ μ1 : VS, μ1.1 = μ.1 ∧ (∀ g, g < 8 → μ1.2 68 g = 0) → V G 4 X 21 [(0, .ref 0), (1, .int (nI 8))] [] μ1) : ∀ (j h_ : Nat) (μ1 : VS), h_ ≤ 8 → 9 ≤ h_ + j → μ1.1 = μ.1 ∧ (∀ g, g < h_ → μ1.2 68 g = 0) → V G 4 X 2 [(0, .ref 0), (1, .int (nI h_))] [] μ1 := by
  intro j
  induction j with
  | zero =>
    intro h_ μ1 h1 h2
    exact absurd h2 (by omega)
  | succ j ih =>
    intro h_ μ1 h1 h2 hV
    refine V_iload_n hX dX8_fillDipRows_2 1 rfl ?_
    refine V_bipush (v := nI 8) hX dX8_fillDipRows_3 (by decide) ?_
    refine V_icmp_geN (tgt := 21) hX dX8_fillDipRows_5 (by decide) (by omega) (by omega) (fun c5 => ?_) (fun c5 => ?_)
    · obtain rfl : h_ = 8 := by omega
      exact hF μ1 hV
    · refine V_aload_n hX dX8_fillDipRows_8 0 rfl ?_
      refine V_getr (j := 68) hX fX8_68 rfl rfl dX8_fillDipRows_9 ?_
      refine V_iload_n hX dX8_fillDipRows_12 1 rfl ?_
      refine V_lconst (v := 0) hX dX8_fillDipRows_13 (by decide) ?_
      refine V_lastN hX rfl (by omega) (by decide) dX8_fillDipRows_14 ?_
      show V G 4 X 15 [(0, .ref 0), (1, .int (nI h_))] [] (μ1.1, vup μ1.2 68 h_ (0 : Int64))
      refine V_iincN (n := 1) (ls' := [(0, .ref 0), (1, .int (nI (h_ + 1)))]) hX dX8_fillDipRows_15 1 rfl (by decide) rfl ?_
      refine V_goto (tgt := 2) hX dX8_fillDipRows_18 (by decide) ?_
      refine ih (h_ + 1) _ (by omega) (by omega) ⟨hV.1, fun g hg => ?_⟩
      dsimp only
      rw [vup_get]
      by_cases e : g = h_
      · rw [if_pos ⟨rfl, e⟩]
      · rw [if_neg (fun z => e z.2)]; exact hV.2 g (by omega)
set_option maxRecDepth 100000 in
set_option maxHeartbeats 4000000 in
theorem lpC_fill1 {G : VG} {d : Nat} {μ : VS} {X : VX} {P : PC} {S : Nat → Nat} {k_ : Nat} (hX : Cx G (d + 1) yX8_fillDipRows cX8_fillDipRows 4 none X) (hok : okP P) (hk60 : k_ < 60) (hP : isP μ 1 P) (hK : isK μ 34 P (S k_) (lAt P S k_)) (hF : ∀ μ1 : VS, μ1.1 = μ.1 → (∀ g, g < 8 → pPres P g = true → μ1.2 68 g = lgN (sm (fun m => m) (dpr P S g) (k_ + 1))) → V G 4 X 100 [(0, .ref 0), (1, .ref 34), (2, .int (nI k_)), (3, .int (nI 8))] [] μ1) : ∀ (j h_ : Nat) (μ1 : VS), h_ ≤ 8 → 9 ≤ h_ + j → μ1.1 = μ.1 ∧ (∀ g, g < 8 → pPres P g = true → μ1.2 68 g = lgN (if g < h_ then sm (fun m => m) (dpr P S g) (k_ + 1) else sm (fun m => m) (dpr P S g) k_)) → V G 4 X 60 [(0, .ref 0), (1, .ref 34), (2, .int (nI k_)), (3, .int (nI h_))] [] μ1 := by
  have h12 : ∀ h, h < 8 → P 1 h < 12 := fun h hh => (hok.2.2.2.2.2.2.2.1 h hh).1
  have hinj := hok.2.2.2.2.2.2.2.2.2.2
  intro j
  induction j with
  | zero =>
    intro h_ μ1 h1 h2
    exact absurd h2 (by omega)
  | succ j ih =>
    intro h_ μ1 h1 h2 hV
    refine V_iload_n hX dX8_fillDipRows_60 3 rfl ?_
    refine V_bipush (v := nI 8) hX dX8_fillDipRows_61 (by decide) ?_
    refine V_icmp_geN (tgt := 100) hX dX8_fillDipRows_63 (by decide) (by first | omega | (have := h12 h_ (by omega); omega) | (rw [sm_or]; exact Nat.lt_trans (sm_lt12 h12 _ (by decide)) (by decide))) (by first | omega | (have := h12 h_ (by omega); omega) | (rw [sm_or]; exact Nat.lt_trans (sm_lt12 h12 _ (by decide)) (by decide))) (fun c63 => ?_) (fun c63 => ?_)
    · obtain rfl : h_ = 8 := by omega
      exact hF μ1 hV.1 (fun g hg pg => by have := hV.2 g hg pg; rw [if_pos hg] at this; exact this)
    · refine V_aload_n hX dX8_fillDipRows_66 0 rfl ?_
      refine V_getr (j := 68) hX fX8_68 rfl rfl dX8_fillDipRows_67 ?_
      refine V_iload_n hX dX8_fillDipRows_70 3 rfl ?_
      refine V_dup2 hX dX8_fillDipRows_71 rfl rfl ?_
      refine V_laldN (x := μ1.2 68 h_) hX rfl (by first | omega | (have := h12 h_ (by omega); omega) | (rw [sm_or]; exact Nat.lt_trans (sm_lt12 h12 _ (by decide)) (by decide))) (by decide) rfl dX8_fillDipRows_72 ?_
      refine V_aload_n hX dX8_fillDipRows_73 1 rfl ?_
      refine V_callV (As := []) (st := [.long (μ1.2 68 h_), .int (nI h_), .ref 68]) hX mX8_327 rfl (k_dipping rfl (by rw [hV.1]; exact hK.2.1) (by rw [hV.1]; exact hK.2.2.1) ?_) rfl (Nat.le_of_ble_eq_true rfl) (Nat.le_of_ble_eq_true rfl) dX8_fillDipRows_74
      show V G 4 X 77 [(0, .ref 0), (1, .ref 34), (2, .int (nI k_)), (3, .int (nI h_))] [.int (nI (sm (P 1) (nodF P (lAt P S k_)) 8 ||| sm (P 1) (agrF P (S k_) (lAt P S k_)) 8)), .long (μ1.2 68 h_), .int (nI h_), .ref 68] μ1
      refine V_aload_n hX dX8_fillDipRows_77 0 rfl ?_
      refine V_getr (j := 1) hX fX8_10 rfl rfl dX8_fillDipRows_78 ?_
      refine V_getr (j := 2) hX fX8_93 rfl rfl dX8_fillDipRows_81 ?_
      refine V_iload_n hX dX8_fillDipRows_84 3 rfl ?_
      refine V_ialdN (x := nI (P 1 h_)) hX rfl (by first | omega | (have := h12 h_ (by omega); omega) | (rw [sm_or]; exact Nat.lt_trans (sm_lt12 h12 _ (by decide)) (by decide))) (by decide) (by rw [hV.1]; exact hP.2 0 (by decide) _ (by omega)) dX8_fillDipRows_85 ?_
      refine V_ishrN hX dX8_fillDipRows_86 (by first | omega | (have := h12 h_ (by omega); omega) | (rw [sm_or]; exact Nat.lt_trans (sm_lt12 h12 _ (by decide)) (by decide))) (by first | omega | (have := h12 h_ (by omega); omega) | (rw [sm_or]; exact Nat.lt_trans (sm_lt12 h12 _ (by decide)) (by decide))) ?_
      refine V_iconst (v := nI 1) hX dX8_fillDipRows_87 (by decide) ?_
      refine V_iandN hX dX8_fillDipRows_88 ?_
      refine V_i2l hX dX8_fillDipRows_89 ?_
      refine V_iload_n hX dX8_fillDipRows_90 2 rfl ?_
      refine V_lshl hX dX8_fillDipRows_91 ?_
      refine V_lor hX dX8_fillDipRows_92 ?_
      refine V_lastN hX rfl (by first | omega | (have := h12 h_ (by omega); omega) | (rw [sm_or]; exact Nat.lt_trans (sm_lt12 h12 _ (by decide)) (by decide))) (by decide) dX8_fillDipRows_93 ?_
      show V G 4 X 94 [(0, .ref 0), (1, .ref 34), (2, .int (nI k_)), (3, .int (nI h_))] [] (μ1.1, vup μ1.2 68 h_ ((μ1.2 68 h_) ||| (((nI (((sm (P 1) (nodF P (lAt P S k_)) 8 ||| sm (P 1) (agrF P (S k_) (lAt P S k_)) 8) >>> (P 1 h_)) &&& 1)).toInt64) <<< ((nI k_).toInt64 &&& 63))))
      refine V_iincN (n := 1) (ls' := [(0, .ref 0), (1, .ref 34), (2, .int (nI k_)), (3, .int (nI (h_ + 1)))]) hX dX8_fillDipRows_94 3 rfl (by decide) rfl ?_
      refine V_goto (tgt := 60) hX dX8_fillDipRows_97 (by decide) ?_
      refine ih (h_ + 1) _ (by omega) (by omega) ⟨hV.1, fun g hg pg => ?_⟩
      dsimp only
      rw [vup_get]
      by_cases e : g = h_
      · subst e
        rw [if_pos ⟨rfl, rfl⟩, if_pos (by omega), hV.2 g hg pg, if_neg (by omega), lgN_shl (and1_le _) (by omega), lgN_or]
        rw [sm_bitstep (f := dpr P S g) (by rw [sm_or, sm_at (e := pPres P) hinj (fun g _ q => (Bool.or_eq_true_iff.mp q).elim nod_pres agr_pres) hg pg]; rfl)]
      · rw [if_neg (fun z => e z.2), hV.2 g hg pg]
        congr 1
        by_cases z : g < h_
        · rw [if_pos z, if_pos (by omega)]
        · rw [if_neg z, if_neg (by omega)]
set_option maxRecDepth 100000 in
set_option maxHeartbeats 4000000 in
theorem lpC_fill2 {G : VG} {d : Nat} {μ : VS} {Q : Option Value → VS → Prop} {X : VX} {P : PC} {L : Nat} {S κ : Nat → Nat} {I : Nat → PC} (hX : Cx G (d + 5) yX8_fillDipRows cX8_fillDipRows 4 none X) (hR : ∀ r μ', Q r μ' → Ret G X r μ') (hok : okP P) (hpd : okPad L S) (hQ : ∀ μ', RC μ' P L S κ I → keepM μ μ' → (∀ g, g < 8 → pPres P g = true → μ'.2 68 g = lgN (sm (fun m => m) (dpr P S g) L)) → Q none μ') : ∀ (j k_ : Nat) (μ1 : VS), k_ ≤ L → L + 1 ≤ k_ + j → RC μ1 P L S κ I → keepM μ μ1 → isW μ1 34 (uAt P S k_) → (∀ g, g < 8 → pPres P g = true → μ1.2 68 g = lgN (sm (fun m => m) (dpr P S g) k_)) → V G 4 X 29 [(0, .ref 0), (1, .ref 34), (2, .int (nI k_))] [] μ1 := by
  have hS := hpd.2
  have hL60 := hpd.1
  intro j
  induction j with
  | zero =>
    intro k_ μ1 h1 h2
    exact absurd h2 (by omega)
  | succ j ih =>
    intro k_ μ1 h1 h2 hR1 hM1 hU1 hrow
    refine V_iload_n hX dX8_fillDipRows_29 2 rfl ?_
    refine V_aload_n hX dX8_fillDipRows_30 0 rfl ?_
    refine V_getr (j := 31) hX fX8_30 rfl rfl dX8_fillDipRows_31 ?_
    refine V_getN (x := nI L) hX fX8_128 rfl hR1.2.1.1 dX8_fillDipRows_34 ?_
    refine V_icmp_geN (tgt := 106) hX dX8_fillDipRows_37 (by decide) (by omega) (by omega) (fun c37 => ?_) (fun c37 => ?_)
    · refine V_vret hX rfl dX8_fillDipRows_106 ?_
      obtain rfl : k_ = L := by omega
      exact hR _ _ (hQ μ1 hR1 hM1 hrow)
    · refine V_aload_n hX dX8_fillDipRows_40 1 rfl ?_
      refine V_aload_n hX dX8_fillDipRows_41 0 rfl ?_
      refine V_getr (j := 1) hX fX8_10 rfl rfl dX8_fillDipRows_42 ?_
      refine V_aload_n hX dX8_fillDipRows_45 0 rfl ?_
      refine V_getr (j := 31) hX fX8_30 rfl rfl dX8_fillDipRows_46 ?_
      refine V_getr (j := 32) hX fX8_131 rfl rfl dX8_fillDipRows_49 ?_
      refine V_iload_n hX dX8_fillDipRows_52 2 rfl ?_
      refine V_ialdN (x := nI (S k_)) hX rfl (by omega) (by decide) (hR1.2.1.2 _ (by omega)) dX8_fillDipRows_53 ?_
      refine V_iconst (v := nI 0) hX dX8_fillDipRows_54 (by decide) ?_
      show V G 4 X 55 [(0, .ref 0), (1, .ref 34), (2, .int (nI k_))] [.int (bI (false = true)), .int (nI (S k_)), .ref 1, .ref 34] μ1
      refine V_callV (As := [.ref 1, .int (nI (S k_)), .int (bI (false = true))]) (st := []) hX mX8_155 rfl (k_pass (cold_ := false) (P := P) rfl rfl hR1.1 hok (by have := hS k_ (by omega); omega) hU1 (mwR_ok hok (mw0_ok hok) k_) (by omega) (fun μ3 a3 b3 c3 d3 => ?_)) rfl (Nat.le_of_ble_eq_true rfl) (Nat.le_of_ble_eq_true rfl) dX8_fillDipRows_55
      show V G 4 X 58 [(0, .ref 0), (1, .ref 34), (2, .int (nI k_))] [] μ3
      have hR3 : RC μ3 P L S κ I := hR1.frame (fun a ha => a3 a (by omega) (by omega))
      have hM3 : keepM μ μ3 := hM1.tr (fun a ha => a3 a (by omega) (by omega))
      refine V_iconst (v := nI 0) hX dX8_fillDipRows_58 (by decide) ?_
      refine V_istore_n (ls' := [(0, .ref 0), (1, .ref 34), (2, .int (nI k_)), (3, .int (nI 0))]) hX dX8_fillDipRows_59 (by decide) rfl ?_
      refine lpC_fill1 (P := P) (S := S) (μ := μ3) hX hok (by omega) hR3.1 c3 (fun μ4 e4 r4 => ?_) 9 0 μ3 (by decide) (by decide) ⟨rfl, fun g hg pg => by rw [if_neg (by omega), d3]; exact hrow g hg pg⟩
      refine V_iincN (n := 1) (ls' := [(0, .ref 0), (1, .ref 34), (2, .int (nI (k_ + 1))), (3, .int (nI 8))]) hX dX8_fillDipRows_100 2 rfl (by decide) rfl ?_
      refine V_goto (tgt := 29) hX dX8_fillDipRows_103 (by decide) ?_
      exact V_sub [0, 1, 2] rfl (ih (k_ + 1) μ4 (by omega) (by omega) (hR3.frame (fun a ha => by rw [e4])) (hM3.tr (fun a ha => by rw [e4])) (b3.fr (by rw [e4]) (by rw [e4])) r4)
set_option maxRecDepth 100000 in
set_option maxHeartbeats 4000000 in
theorem k_fillDipRows {G : VG} {d : Nat} {μ : VS} {Q : Option Value → VS → Prop} {P : PC} {L : Nat} {S κ : Nat → Nat} {I : Nat → PC} (hRC : RC μ P L S κ I) (hok : okP P) (hpd : okPad L S) (hQ : ∀ μ', RC μ' P L S κ I → keepM μ μ' → (∀ g, g < 8 → pPres P g = true → μ'.2 68 g = lgN (sm (fun m => m) (dpr P S g) L)) → Q none μ') : Call G (d + 6) yX8_fillDipRows cX8_fillDipRows 4 none [.ref 0] μ Q := by
  intro X hX hR
  have hP := hRC.1
  have hL := hRC.2.1
  have hS := hpd.2
  have hL60 := hpd.1
  have hP4 := hok.2.2.2.2.1
  show V G 4 X 0 [(0, .ref 0)] [] μ
  refine V_iconst (v := nI 0) hX dX8_fillDipRows_0 (by decide) ?_
  refine V_istore_n (ls' := [(0, .ref 0), (1, .int (nI 0))]) hX dX8_fillDipRows_1 (by decide) rfl ?_
  refine lpC_fill0 hX (fun μ1 hV => ?_) 9 0 μ (by decide) (by decide) ⟨rfl, fun g hg => absurd hg (by omega)⟩
  have hP1 : isP μ1 1 P := hP.frame (fun j hj => by rw [hV.1])
  have hL1 : isPad μ1 L S := ⟨by rw [hV.1]; exact hL.1, fun i hi => by rw [hV.1]; exact hL.2 i hi⟩
  refine V_aload_n hX dX8_fillDipRows_21 0 rfl ?_
  refine V_iconst (v := nI 0) hX dX8_fillDipRows_22 (by decide) ?_
  refine V_callV (As := [.int (nI 0)]) (st := []) hX mX8_141 rfl (k_goneThrough hP1 hok hL1 hS hL60 (by omega) (fun μ2 a2 b2 k2 d2 => ?_)) rfl (Nat.le_of_ble_eq_true rfl) (Nat.le_of_ble_eq_true rfl) dX8_fillDipRows_23
  show V G 4 X 26 [(0, .ref 0), (1, .int (nI 8))] [.ref 34] μ2
  have hRC2 : RC μ2 P L S κ I := hRC.frame (fun a ha => by rw [a2 a (by omega) (by omega), hV.1])
  have hkM : keepM μ μ2 := fun a ha => by rw [a2 a (by omega) (by omega), hV.1]
  refine V_astore_n (ls' := [(0, .ref 0), (1, .ref 34)]) hX dX8_fillDipRows_26 (by decide) rfl ?_
  refine V_iconst (v := nI 0) hX dX8_fillDipRows_27 (by decide) ?_
  refine V_istore_n (ls' := [(0, .ref 0), (1, .ref 34), (2, .int (nI 0))]) hX dX8_fillDipRows_28 (by decide) rfl ?_
  exact lpC_fill2 (μ := μ) hX hR hok hpd hQ (L + 1) 0 μ2 (by omega) (by omega) hRC2 hkM b2 (fun g hg pg => by rw [d2]; exact hV.2 g hg)
theorem sm_lt60 {f : Nat → Bool} {n : Nat} (h : n ≤ 60) : sm (fun m => m) f n < 2 ^ 63 := sm_lt (fun q hq _ => by omega)
set_option maxRecDepth 100000 in
set_option maxHeartbeats 4000000 in
theorem k_areAlike {G : VG} {d : Nat} {μ : VS} {Q : Option Value → VS → Prop} {P : PC} {L h_ q_ : Nat} {S : Nat → Nat} (hP : isP μ 1 P) (hP4 : P 0 4 < 256) (hL60 : L ≤ 60) (hh : h_ < 8) (hq : q_ < 8) (hrow : (∀ g, g < 8 → pPres P g = true → μ.2 68 g = lgN (sm (fun m => m) (dpr P S g) L))) (hQ : Q (some (.int (bI (alE P S L h_ q_)))) μ) : Call G (d + 1) yX8_areAlike cX8_areAlike 3 (some .boolean) [.ref 0, .int (nI h_), .int (nI q_)] μ Q := by
  intro X hX hR
  show V G 3 X 0 [(0, .ref 0), (1, .int (nI h_)), (2, .int (nI q_))] [] μ
  refine V_aload_n hX dX8_areAlike_0 0 rfl ?_
  refine V_getr (j := 1) hX fX8_10 rfl rfl dX8_areAlike_1 ?_
  refine V_iload_n hX dX8_areAlike_4 1 rfl ?_
  refine V_callV (As := [.int (nI h_)]) (st := []) hX mX8_115 rfl (kC_isThere rfl hP hP4 ?_) rfl (Nat.le_of_ble_eq_true rfl) (Nat.le_of_ble_eq_true rfl) dX8_areAlike_5
  show V G 3 X 8 [(0, .ref 0), (1, .int (nI h_)), (2, .int (nI q_))] [.int (bI (thr P (nI h_)))] μ
  refine V_if_eqB (tgt := 42) hX dX8_areAlike_8 (by decide) (fun c8 => ?_) (fun c8 => ?_)
  · refine V_iconst (v := nI 0) hX dX8_areAlike_42 (by decide) ?_
    refine V_zret hX rfl rfl dX8_areAlike_43 ?_
    exact hR _ _ (ret0 (fun z => c8 (thr_of hh z.1)) hQ)
  · refine V_aload_n hX dX8_areAlike_11 0 rfl ?_
    refine V_getr (j := 1) hX fX8_10 rfl rfl dX8_areAlike_12 ?_
    refine V_iload_n hX dX8_areAlike_15 2 rfl ?_
    refine V_callV (As := [.int (nI q_)]) (st := []) hX mX8_115 rfl (kC_isThere rfl hP hP4 ?_) rfl (Nat.le_of_ble_eq_true rfl) (Nat.le_of_ble_eq_true rfl) dX8_areAlike_16
    show V G 3 X 19 [(0, .ref 0), (1, .int (nI h_)), (2, .int (nI q_))] [.int (bI (thr P (nI q_)))] μ
    refine V_if_eqB (tgt := 42) hX dX8_areAlike_19 (by decide) (fun c19 => ?_) (fun c19 => ?_)
    · refine V_iconst (v := nI 0) hX dX8_areAlike_42 (by decide) ?_
      refine V_zret hX rfl rfl dX8_areAlike_43 ?_
      exact hR _ _ (ret0 (fun z => c19 (thr_of hq z.2.1)) hQ)
    · refine V_aload_n hX dX8_areAlike_22 0 rfl ?_
      refine V_getr (j := 68) hX fX8_68 rfl rfl dX8_areAlike_23 ?_
      refine V_iload_n hX dX8_areAlike_26 1 rfl ?_
      refine V_laldN (x := μ.2 68 h_) hX rfl (by omega) (by decide) rfl dX8_areAlike_27 ?_
      refine V_aload_n hX dX8_areAlike_28 0 rfl ?_
      refine V_getr (j := 68) hX fX8_68 rfl rfl dX8_areAlike_29 ?_
      refine V_iload_n hX dX8_areAlike_32 2 rfl ?_
      refine V_laldN (x := μ.2 68 q_) hX rfl (by omega) (by decide) rfl dX8_areAlike_33 ?_
      refine V_lcmp hX dX8_areAlike_34 ?_
      refine V_if_ne (tgt := 42) hX dX8_areAlike_35 (by decide) (fun c35 => ?_) (fun c35 => ?_)
      · refine V_iconst (v := nI 0) hX dX8_areAlike_42 (by decide) ?_
        refine V_zret hX rfl rfl dX8_areAlike_43 ?_
        exact hR _ _ (ret0 (fun z => c35 (cmp0.mpr (by rw [hrow _ hh z.1, hrow _ hq z.2.1, sm_eq_iff.mpr z.2.2]))) hQ)
      · refine V_iconst (v := nI 1) hX dX8_areAlike_38 (by decide) ?_
        refine V_goto (tgt := 43) hX dX8_areAlike_39 (by decide) ?_
        refine V_zret hX rfl rfl dX8_areAlike_43 ?_
        exact hR _ _ (ret1 ⟨(by have := c8.2; rw [nI_clamp (by omega)] at this; exact this), (by have := c19.2; rw [nI_clamp (by omega)] at this; exact this), by have z := cmp0.mp c35; rw [hrow _ hh (by have := c8.2; rw [nI_clamp (by omega)] at this; exact this), hrow _ hq (by have := c19.2; rw [nI_clamp (by omega)] at this; exact this)] at z; exact sm_eq_iff.mp ((lgN_inj (sm_lt60 hL60) (sm_lt60 hL60)).mp z)⟩ hQ)
set_option maxRecDepth 100000 in
set_option maxHeartbeats 4000000 in
theorem lpC_pairs1 {G : VG} {d : Nat} {μ : VS} {Q : Option Value → VS → Prop} {X : VX} {P : PC} {L h_ : Nat} {S : Nat → Nat}  {K : Nat → Int32} (hX : Cx G (d + 2) yX8_pairsAlike cX8_pairsAlike 4 (some .int) X) (hR : ∀ r μ', Q r μ' → Ret G X r μ') (hP : isP μ 1 P) (hP4 : P 0 4 < 256) (hL60 : L ≤ 60) (hrow : (∀ g, g < 8 → pPres P g = true → μ.2 68 g = lgN (sm (fun m => m) (dpr P S g) L))) (hh : h_ < 8) (hF : ∀ n_, n_ ≤ 8 * h_ + 8 → Q (some (.int (K n_))) μ → V G 4 X 38 [(0, .ref 0), (1, .int (nI n_)), (2, .int (nI h_)), (3, .int (nI 8))] [] μ) : ∀ (j q_ n_ : Nat), q_ + j = 8 → n_ ≤ 8 * h_ + q_ → Q (some (.int (paQ P S L (-1) K h_ j q_ n_))) μ → V G 4 X 14 [(0, .ref 0), (1, .int (nI n_)), (2, .int (nI h_)), (3, .int (nI q_))] [] μ := by
  intro j
  induction j with
  | zero =>
    intro q_ n_ h1 h2 hp
    obtain rfl : q_ = 8 := by omega
    refine V_iload_n hX dX8_pairsAlike_14 3 rfl ?_
    refine V_bipush (v := nI 8) hX dX8_pairsAlike_15 (by decide) ?_
    refine V_icmp_geN (tgt := 38) hX dX8_pairsAlike_17 (by decide) (by omega) (by omega) (fun c17 => ?_) (fun c17 => ?_)
    · exact hF n_ (by omega) hp
    · exact absurd c17 (by decide)
  | succ j ih =>
    intro q_ n_ h1 h2 hp
    refine V_iload_n hX dX8_pairsAlike_14 3 rfl ?_
    refine V_bipush (v := nI 8) hX dX8_pairsAlike_15 (by decide) ?_
    refine V_icmp_geN (tgt := 38) hX dX8_pairsAlike_17 (by decide) (by omega) (by omega) (fun c17 => ?_) (fun c17 => ?_)
    · exact absurd c17 (by omega)
    · refine V_aload_n hX dX8_pairsAlike_20 0 rfl ?_
      refine V_iload_n hX dX8_pairsAlike_21 2 rfl ?_
      refine V_iload_n hX dX8_pairsAlike_22 3 rfl ?_
      refine V_callV (As := [.int (nI h_), .int (nI q_)]) (st := []) hX mX8_330 rfl (k_areAlike (P := P) (L := L) (S := S) hP hP4 hL60 (by omega) (by omega) hrow ?_) rfl (Nat.le_of_ble_eq_true rfl) (Nat.le_of_ble_eq_true rfl) dX8_pairsAlike_23
      show V G 4 X 26 [(0, .ref 0), (1, .int (nI n_)), (2, .int (nI h_)), (3, .int (nI q_))] [.int (bI (alE P S L h_ q_))] μ
      refine V_if_eqB (tgt := 32) hX dX8_pairsAlike_26 (by decide) (fun c26 => ?_) (fun c26 => ?_)
      · refine V_iincN (n := 1) (ls' := [(0, .ref 0), (1, .int (nI n_)), (2, .int (nI h_)), (3, .int (nI (q_ + 1)))]) hX dX8_pairsAlike_32 3 rfl (by decide) rfl ?_
        refine V_goto (tgt := 14) hX dX8_pairsAlike_35 (by decide) ?_
        rw [show paQ P S L (-1) K h_ (j + 1) q_ n_ = _ from if_neg c26] at hp
        exact ih (q_ + 1) n_ (by omega) (by omega) hp
      · refine V_iincN (n := 1) (ls' := [(0, .ref 0), (1, .int (nI (n_ + 1))), (2, .int (nI h_)), (3, .int (nI q_))]) hX dX8_pairsAlike_29 1 rfl (by decide) rfl ?_
        refine V_iincN (n := 1) (ls' := [(0, .ref 0), (1, .int (nI (n_ + 1))), (2, .int (nI h_)), (3, .int (nI (q_ + 1)))]) hX dX8_pairsAlike_32 3 rfl (by decide) rfl ?_
        refine V_goto (tgt := 14) hX dX8_pairsAlike_35 (by decide) ?_
        rw [show paQ P S L (-1) K h_ (j + 1) q_ n_ = _ from (if_pos c26).trans (if_neg (nI_n1 (by omega)))] at hp
        exact ih (q_ + 1) (n_ + 1) (by omega) (by omega) hp
set_option maxRecDepth 100000 in
set_option maxHeartbeats 4000000 in
theorem lpC_pairs2 {G : VG} {d : Nat} {μ : VS} {Q : Option Value → VS → Prop} {X : VX} {P : PC} {L : Nat} {S : Nat → Nat}  {K : Nat → Int32} (hX : Cx G (d + 2) yX8_pairsAlike cX8_pairsAlike 4 (some .int) X) (hR : ∀ r μ', Q r μ' → Ret G X r μ') (hP : isP μ 1 P) (hP4 : P 0 4 < 256) (hL60 : L ≤ 60) (hrow : (∀ g, g < 8 → pPres P g = true → μ.2 68 g = lgN (sm (fun m => m) (dpr P S g) L))) (hF : ∀ n_, n_ ≤ 64 → Q (some (.int (K n_))) μ → V G 4 X 44 [(0, .ref 0), (1, .int (nI n_)), (2, .int (nI 8))] [] μ) : ∀ (j h_ n_ : Nat), h_ + j = 8 → n_ ≤ 8 * h_ → Q (some (.int (paH P S L (-1) K j h_ n_))) μ → V G 4 X 4 [(0, .ref 0), (1, .int (nI n_)), (2, .int (nI h_))] [] μ := by
  intro j
  induction j with
  | zero =>
    intro h_ n_ h1 h2 hp
    obtain rfl : h_ = 8 := by omega
    refine V_iload_n hX dX8_pairsAlike_4 2 rfl ?_
    refine V_bipush (v := nI 8) hX dX8_pairsAlike_5 (by decide) ?_
    refine V_icmp_geN (tgt := 44) hX dX8_pairsAlike_7 (by decide) (by omega) (by omega) (fun c7 => ?_) (fun c7 => ?_)
    · exact hF n_ (by omega) hp
    · exact absurd c7 (by decide)
  | succ j ih =>
    intro h_ n_ h1 h2 hp
    refine V_iload_n hX dX8_pairsAlike_4 2 rfl ?_
    refine V_bipush (v := nI 8) hX dX8_pairsAlike_5 (by decide) ?_
    refine V_icmp_geN (tgt := 44) hX dX8_pairsAlike_7 (by decide) (by omega) (by omega) (fun c7 => ?_) (fun c7 => ?_)
    · exact absurd c7 (by omega)
    · refine V_iload_n hX dX8_pairsAlike_10 2 rfl ?_
      refine V_iconst (v := nI 1) hX dX8_pairsAlike_11 (by decide) ?_
      refine V_iaddN hX dX8_pairsAlike_12 ?_
      refine V_istore_n (ls' := [(0, .ref 0), (1, .int (nI n_)), (2, .int (nI h_)), (3, .int (nI (h_ + 1)))]) hX dX8_pairsAlike_13 (by decide) rfl ?_
      refine lpC_pairs1 hX hR hP hP4 hL60 hrow (show h_ < 8 by omega) (fun m_ hm hp2 => ?_) j (h_ + 1) n_ (by omega) (by omega) hp
      refine V_iincN (n := 1) (ls' := [(0, .ref 0), (1, .int (nI m_)), (2, .int (nI (h_ + 1))), (3, .int (nI 8))]) hX dX8_pairsAlike_38 2 rfl (by decide) rfl ?_
      refine V_goto (tgt := 4) hX dX8_pairsAlike_41 (by decide) ?_
      exact V_sub [0, 1, 2] rfl (ih (h_ + 1) m_ (by omega) (by omega) hp2)
set_option maxRecDepth 100000 in
set_option maxHeartbeats 4000000 in
theorem lpC_pair1 {G : VG} {d : Nat} {μ : VS} {Q : Option Value → VS → Prop} {X : VX} {P : PC} {L h_ : Nat} {S : Nat → Nat} {i_ : Int32} {K : Nat → Int32} (hX : Cx G (d + 2) yX8_pairAlike cX8_pairAlike 5 (some .int) X) (hR : ∀ r μ', Q r μ' → Ret G X r μ') (hP : isP μ 1 P) (hP4 : P 0 4 < 256) (hL60 : L ≤ 60) (hrow : (∀ g, g < 8 → pPres P g = true → μ.2 68 g = lgN (sm (fun m => m) (dpr P S g) L))) (hh : h_ < 8) (hF : ∀ n_, n_ ≤ 8 * h_ + 8 → Q (some (.int (K n_))) μ → V G 5 X 54 [(0, .ref 0), (1, .int i_), (2, .int (nI n_)), (3, .int (nI h_)), (4, .int (nI 8))] [] μ) : ∀ (j q_ n_ : Nat), q_ + j = 8 → n_ ≤ 8 * h_ + q_ → Q (some (.int (paQ P S L i_ K h_ j q_ n_))) μ → V G 5 X 15 [(0, .ref 0), (1, .int i_), (2, .int (nI n_)), (3, .int (nI h_)), (4, .int (nI q_))] [] μ := by
  intro j
  induction j with
  | zero =>
    intro q_ n_ h1 h2 hp
    obtain rfl : q_ = 8 := by omega
    refine V_iload hX dX8_pairAlike_15 4 rfl ?_
    refine V_bipush (v := nI 8) hX dX8_pairAlike_17 (by decide) ?_
    refine V_icmp_geN (tgt := 54) hX dX8_pairAlike_19 (by decide) (by omega) (by omega) (fun c19 => ?_) (fun c19 => ?_)
    · exact hF n_ (by omega) hp
    · exact absurd c19 (by decide)
  | succ j ih =>
    intro q_ n_ h1 h2 hp
    refine V_iload hX dX8_pairAlike_15 4 rfl ?_
    refine V_bipush (v := nI 8) hX dX8_pairAlike_17 (by decide) ?_
    refine V_icmp_geN (tgt := 54) hX dX8_pairAlike_19 (by decide) (by omega) (by omega) (fun c19 => ?_) (fun c19 => ?_)
    · exact absurd c19 (by omega)
    · refine V_aload_n hX dX8_pairAlike_22 0 rfl ?_
      refine V_iload_n hX dX8_pairAlike_23 3 rfl ?_
      refine V_iload hX dX8_pairAlike_24 4 rfl ?_
      refine V_callV (As := [.int (nI h_), .int (nI q_)]) (st := []) hX mX8_330 rfl (k_areAlike (P := P) (L := L) (S := S) hP hP4 hL60 (by omega) (by omega) hrow ?_) rfl (Nat.le_of_ble_eq_true rfl) (Nat.le_of_ble_eq_true rfl) dX8_pairAlike_26
      show V G 5 X 29 [(0, .ref 0), (1, .int i_), (2, .int (nI n_)), (3, .int (nI h_)), (4, .int (nI q_))] [.int (bI (alE P S L h_ q_))] μ
      refine V_if_eqB (tgt := 48) hX dX8_pairAlike_29 (by decide) (fun c29 => ?_) (fun c29 => ?_)
      · refine V_iincN (n := 1) (ls' := [(0, .ref 0), (1, .int i_), (2, .int (nI n_)), (3, .int (nI h_)), (4, .int (nI (q_ + 1)))]) hX dX8_pairAlike_48 4 rfl (by decide) rfl ?_
        refine V_goto (tgt := 15) hX dX8_pairAlike_51 (by decide) ?_
        rw [show paQ P S L i_ K h_ (j + 1) q_ n_ = _ from if_neg c29] at hp
        exact ih (q_ + 1) n_ (by omega) (by omega) hp
      · refine V_iload_n hX dX8_pairAlike_32 2 rfl ?_
        refine V_iload_n hX dX8_pairAlike_33 1 rfl ?_
        refine V_icmp_ne (tgt := 45) hX dX8_pairAlike_34 (by decide) (fun c34 => ?_) (fun c34 => ?_)
        · refine V_iincN (n := 1) (ls' := [(0, .ref 0), (1, .int i_), (2, .int (nI (n_ + 1))), (3, .int (nI h_)), (4, .int (nI q_))]) hX dX8_pairAlike_45 2 rfl (by decide) rfl ?_
          refine V_iincN (n := 1) (ls' := [(0, .ref 0), (1, .int i_), (2, .int (nI (n_ + 1))), (3, .int (nI h_)), (4, .int (nI (q_ + 1)))]) hX dX8_pairAlike_48 4 rfl (by decide) rfl ?_
          refine V_goto (tgt := 15) hX dX8_pairAlike_51 (by decide) ?_
          rw [show paQ P S L i_ K h_ (j + 1) q_ n_ = _ from (if_pos c29).trans (if_neg c34)] at hp
          exact ih (q_ + 1) (n_ + 1) (by omega) (by omega) hp
        · refine V_bipush (v := nI 10) hX dX8_pairAlike_37 (by decide) ?_
          refine V_iload_n hX dX8_pairAlike_39 3 rfl ?_
          refine V_imulN hX dX8_pairAlike_40 ?_
          refine V_iload hX dX8_pairAlike_41 4 rfl ?_
          refine V_iaddN hX dX8_pairAlike_43 ?_
          refine V_iret hX rfl dX8_pairAlike_44 ?_
          rw [show paQ P S L i_ K h_ (j + 1) q_ n_ = _ from (if_pos c29).trans (if_pos c34)] at hp
          exact hR _ _ hp
set_option maxRecDepth 100000 in
set_option maxHeartbeats 4000000 in
theorem lpC_pair2 {G : VG} {d : Nat} {μ : VS} {Q : Option Value → VS → Prop} {X : VX} {P : PC} {L : Nat} {S : Nat → Nat} {i_ : Int32} {K : Nat → Int32} (hX : Cx G (d + 2) yX8_pairAlike cX8_pairAlike 5 (some .int) X) (hR : ∀ r μ', Q r μ' → Ret G X r μ') (hP : isP μ 1 P) (hP4 : P 0 4 < 256) (hL60 : L ≤ 60) (hrow : (∀ g, g < 8 → pPres P g = true → μ.2 68 g = lgN (sm (fun m => m) (dpr P S g) L))) (hF : ∀ n_, n_ ≤ 64 → Q (some (.int (K n_))) μ → V G 5 X 60 [(0, .ref 0), (1, .int i_), (2, .int (nI n_)), (3, .int (nI 8))] [] μ) : ∀ (j h_ n_ : Nat), h_ + j = 8 → n_ ≤ 8 * h_ → Q (some (.int (paH P S L i_ K j h_ n_))) μ → V G 5 X 4 [(0, .ref 0), (1, .int i_), (2, .int (nI n_)), (3, .int (nI h_))] [] μ := by
  intro j
  induction j with
  | zero =>
    intro h_ n_ h1 h2 hp
    obtain rfl : h_ = 8 := by omega
    refine V_iload_n hX dX8_pairAlike_4 3 rfl ?_
    refine V_bipush (v := nI 8) hX dX8_pairAlike_5 (by decide) ?_
    refine V_icmp_geN (tgt := 60) hX dX8_pairAlike_7 (by decide) (by omega) (by omega) (fun c7 => ?_) (fun c7 => ?_)
    · exact hF n_ (by omega) hp
    · exact absurd c7 (by decide)
  | succ j ih =>
    intro h_ n_ h1 h2 hp
    refine V_iload_n hX dX8_pairAlike_4 3 rfl ?_
    refine V_bipush (v := nI 8) hX dX8_pairAlike_5 (by decide) ?_
    refine V_icmp_geN (tgt := 60) hX dX8_pairAlike_7 (by decide) (by omega) (by omega) (fun c7 => ?_) (fun c7 => ?_)
    · exact absurd c7 (by omega)
    · refine V_iload_n hX dX8_pairAlike_10 3 rfl ?_
      refine V_iconst (v := nI 1) hX dX8_pairAlike_11 (by decide) ?_
      refine V_iaddN hX dX8_pairAlike_12 ?_
      refine V_istore (ls' := [(0, .ref 0), (1, .int i_), (2, .int (nI n_)), (3, .int (nI h_)), (4, .int (nI (h_ + 1)))]) hX dX8_pairAlike_13 (by decide) rfl ?_
      refine lpC_pair1 hX hR hP hP4 hL60 hrow (show h_ < 8 by omega) (fun m_ hm hp2 => ?_) j (h_ + 1) n_ (by omega) (by omega) hp
      refine V_iincN (n := 1) (ls' := [(0, .ref 0), (1, .int i_), (2, .int (nI m_)), (3, .int (nI (h_ + 1))), (4, .int (nI 8))]) hX dX8_pairAlike_54 3 rfl (by decide) rfl ?_
      refine V_goto (tgt := 4) hX dX8_pairAlike_57 (by decide) ?_
      exact V_sub [0, 1, 2, 3] rfl (ih (h_ + 1) m_ (by omega) (by omega) hp2)
set_option maxRecDepth 100000 in
set_option maxHeartbeats 4000000 in
theorem k_pairsAlike {G : VG} {d : Nat} {μ : VS} {Q : Option Value → VS → Prop} {P : PC} {L : Nat} {S : Nat → Nat} (hP : isP μ 1 P) (hP4 : P 0 4 < 256) (hL60 : L ≤ 60) (hrow : (∀ g, g < 8 → pPres P g = true → μ.2 68 g = lgN (sm (fun m => m) (dpr P S g) L))) (hQ : Q (some (.int (paH P S L (-1) (alK (-1)) 8 0 0))) μ) : Call G (d + 2) yX8_pairsAlike cX8_pairsAlike 4 (some .int) [.ref 0] μ Q := by
  intro X hX hR
  show V G 4 X 0 [(0, .ref 0)] [] μ
  refine V_iconst (v := nI 0) hX dX8_pairsAlike_0 (by decide) ?_
  refine V_istore_n (ls' := [(0, .ref 0), (1, .int (nI 0))]) hX dX8_pairsAlike_1 (by decide) rfl ?_
  refine V_iconst (v := nI 0) hX dX8_pairsAlike_2 (by decide) ?_
  refine V_istore_n (ls' := [(0, .ref 0), (1, .int (nI 0)), (2, .int (nI 0))]) hX dX8_pairsAlike_3 (by decide) rfl ?_
  refine lpC_pairs2 hX hR hP hP4 hL60 hrow (fun n_ _ hp => ?_) 8 0 0 (by decide) (by decide) hQ
  refine V_iload_n hX dX8_pairsAlike_44 1 rfl ?_
  refine V_iret hX rfl dX8_pairsAlike_45 ?_
  exact hR _ _ hp
set_option maxRecDepth 100000 in
set_option maxHeartbeats 4000000 in
theorem k_pairAlike {G : VG} {d : Nat} {μ : VS} {Q : Option Value → VS → Prop} {P : PC} {L : Nat} {S : Nat → Nat} {i_ : Int32} (hP : isP μ 1 P) (hP4 : P 0 4 < 256) (hL60 : L ≤ 60) (hrow : (∀ g, g < 8 → pPres P g = true → μ.2 68 g = lgN (sm (fun m => m) (dpr P S g) L))) (hi : ¬ i_ = -1) (hQ : Q (some (.int (paH P S L i_ (alK i_) 8 0 0))) μ) : Call G (d + 2) yX8_pairAlike cX8_pairAlike 5 (some .int) [.ref 0, .int i_] μ Q := by
  intro X hX hR
  show V G 5 X 0 [(0, .ref 0), (1, .int i_)] [] μ
  refine V_iconst (v := nI 0) hX dX8_pairAlike_0 (by decide) ?_
  refine V_istore_n (ls' := [(0, .ref 0), (1, .int i_), (2, .int (nI 0))]) hX dX8_pairAlike_1 (by decide) rfl ?_
  refine V_iconst (v := nI 0) hX dX8_pairAlike_2 (by decide) ?_
  refine V_istore_n (ls' := [(0, .ref 0), (1, .int i_), (2, .int (nI 0)), (3, .int (nI 0))]) hX dX8_pairAlike_3 (by decide) rfl ?_
  refine lpC_pair2 hX hR hP hP4 hL60 hrow (fun n_ _ hp => ?_) 8 0 0 (by decide) (by decide) hQ
  refine V_bipush (v := (-6)) hX dX8_pairAlike_60 (by decide) ?_
  refine V_iret hX rfl dX8_pairAlike_62 ?_
  rw [show alK i_ n_ = -6 from if_neg hi] at hp
  exact hR _ _ hp
set_option maxRecDepth 100000 in
set_option maxHeartbeats 4000000 in
theorem kC_alike {G : VG} {d : Nat} {μ : VS} {Q : Option Value → VS → Prop} {P : PC} {L : Nat} {S κ : Nat → Nat} {I : Nat → PC} {i_ : Int32} (hRC : RC μ P L S κ I) (hok : okP P) (hpd : okPad L S) (hQ : ∀ μ', RC μ' P L S κ I → keepM μ μ' → Q (some (.int (alikeS P L S i_))) μ') : Call G (d + 7) yX8_alike cX8_alike 2 (some .int) [.ref 0, .int i_] μ Q := by
  intro X hX hR
  have hP := hRC.1
  have hL := hRC.2.1
  have hS := hpd.2
  have hL60 := hpd.1
  have hP4 := hok.2.2.2.2.1
  show V G 2 X 0 [(0, .ref 0), (1, .int i_)] [] μ
  refine V_aload_n hX dX8_alike_0 0 rfl ?_
  refine V_getr (j := 31) hX fX8_30 rfl rfl dX8_alike_1 ?_
  refine V_callV (As := []) (st := []) hX mX8_137 rfl (kC_hasFault hL hS hL60 ?_) rfl (Nat.le_of_ble_eq_true rfl) (Nat.le_of_ble_eq_true rfl) dX8_alike_4
  show V G 2 X 7 [(0, .ref 0), (1, .int i_)] [.int (bI (¬ fltU S L = -6))] μ
  refine V_if_eqB (tgt := 13) hX dX8_alike_7 (by decide) (fun c7 => ?_) (fun c7 => ?_)
  · refine V_aload_n hX dX8_alike_13 0 rfl ?_
    refine V_callV (As := []) (st := []) hX mX8_225 rfl (k_fillDipRows hRC hok hpd (fun μ2 hRC2 hkM hrow => ?_)) rfl (Nat.le_of_ble_eq_true rfl) (Nat.le_of_ble_eq_true rfl) dX8_alike_14
    show V G 2 X 17 [(0, .ref 0), (1, .int i_)] [] μ2
    refine V_iload_n hX dX8_alike_17 1 rfl ?_
    refine V_iconst (v := (-1)) hX dX8_alike_18 (by decide) ?_
    refine V_icmp_ne (tgt := 29) hX dX8_alike_19 (by decide) (fun c19 => ?_) (fun c19 => ?_)
    · refine V_aload_n hX dX8_alike_29 0 rfl ?_
      refine V_iload_n hX dX8_alike_30 1 rfl ?_
      refine V_callV (As := [.int i_]) (st := []) hX mX8_231 rfl (k_pairAlike (P := P) (L := L) (S := S) hRC2.1 hP4 hL60 hrow c19 ?_) rfl (Nat.le_of_ble_eq_true rfl) (Nat.le_of_ble_eq_true rfl) dX8_alike_31
      show V G 2 X 34 [(0, .ref 0), (1, .int i_)] [.int (paH P S L i_ (alK i_) 8 0 0)] μ2
      refine V_iret hX rfl dX8_alike_34 ?_
      have h9 := hQ μ2
      rw [show alikeS P L S i_ = _ from if_pos (Decidable.not_not.mp c7)] at h9
      exact hR _ _ (h9 hRC2 hkM)
    · refine V_aload_n hX dX8_alike_22 0 rfl ?_
      refine V_callV (As := []) (st := []) hX mX8_228 rfl (k_pairsAlike (P := P) (L := L) (S := S) hRC2.1 hP4 hL60 hrow ?_) rfl (Nat.le_of_ble_eq_true rfl) (Nat.le_of_ble_eq_true rfl) dX8_alike_23
      show V G 2 X 26 [(0, .ref 0), (1, .int i_)] [.int (paH P S L (-1) (alK (-1)) 8 0 0)] μ2
      refine V_goto (tgt := 34) hX dX8_alike_26 (by decide) ?_
      refine V_iret hX rfl dX8_alike_34 ?_
      have h9 := hQ μ2
      rw [show alikeS P L S i_ = _ from if_pos (Decidable.not_not.mp c7)] at h9
      rw [c19] at h9
      exact hR _ _ (h9 hRC2 hkM)
  · refine V_bipush (v := (-5)) hX dX8_alike_10 (by decide) ?_
    refine V_iret hX rfl dX8_alike_12 ?_
    have h9 := hQ μ
    rw [show alikeS P L S i_ = -5 from if_neg c7] at h9
    exact hR _ _ (h9 hRC (keepM.rf μ))
set_option maxRecDepth 100000 in
set_option maxHeartbeats 4000000 in
theorem lpM_areAlike {G : VG} {d : Nat} {Q : Option Value → VS → Prop} {X : VX} {P : PC} {L h_ q_ : Nat} {S : Nat → Nat} {μ1 μ2 : VS} (hX : Cx G (d + 1) yX9_areAlike cX9_areAlike 6 (some .boolean) X) (hR : ∀ r μ', Q r μ' → Ret G X r μ') (hRL : μ2.1 69 12 = nI L) (hL60 : L ≤ 60) (hp : prR P S noC μ1 μ2 L) (hh : h_ < 8) (hq : q_ < 8) (hQ : Q (some (.int (bI (eqB (dpr P S h_) (dpr P S q_) L = true)))) μ2) : ∀ (j k_ : Nat), k_ ≤ L → L + 1 ≤ k_ + j → V G 6 X 5 [(0, .ref 69), (1, .int (nI h_)), (2, .int (nI q_)), (3, .int (bI (eqB (dpr P S h_) (dpr P S q_) k_ = true))), (4, .int (nI k_))] [] μ2 := by
  intro j
  induction j with
  | zero =>
    intro k_ h1 h2
    exact absurd h2 (by omega)
  | succ j ih =>
    intro k_ h1 h2
    refine V_iload hX dX9_areAlike_5 4 rfl ?_
    refine V_aload_n hX dX9_areAlike_7 0 rfl ?_
    refine V_getN (x := nI L) hX fX9_103 rfl hRL dX9_areAlike_8 ?_
    refine V_icmp_geN (tgt := 62) hX dX9_areAlike_11 (by decide) (by first | omega | (have := sm_lt8 (dipF P (S k_) (lAt P S k_)) (n := 8) (by decide); omega)) (by first | omega | (have := sm_lt8 (dipF P (S k_) (lAt P S k_)) (n := 8) (by decide); omega)) (fun c11 => ?_) (fun c11 => ?_)
    · refine V_iload_n hX dX9_areAlike_62 3 rfl ?_
      refine V_zret hX rfl bI_nar dX9_areAlike_63 ?_
      obtain rfl : k_ = L := by omega
      exact hR _ _ hQ
    · refine V_aload_n hX dX9_areAlike_14 0 rfl ?_
      refine V_getr (j := 79) hX fX9_47 rfl rfl dX9_areAlike_15 ?_
      refine V_iload hX dX9_areAlike_18 4 rfl ?_
      refine V_ialdN (x := nI (sm (fun h => h) (nodF P (lAt P S k_)) 8)) hX rfl (by first | omega | (have := sm_lt8 (dipF P (S k_) (lAt P S k_)) (n := 8) (by decide); omega)) (by decide) (hp.2.2.2.2.1 k_ (by omega)).1 dX9_areAlike_20 ?_
      refine V_aload_n hX dX9_areAlike_21 0 rfl ?_
      refine V_getr (j := 80) hX fX9_50 rfl rfl dX9_areAlike_22 ?_
      refine V_iload hX dX9_areAlike_25 4 rfl ?_
      refine V_ialdN (x := nI (sm (fun h => h) (agrF P (S k_) (lAt P S k_)) 8)) hX rfl (by first | omega | (have := sm_lt8 (dipF P (S k_) (lAt P S k_)) (n := 8) (by decide); omega)) (by decide) (hp.2.2.2.2.1 k_ (by omega)).2.1 dX9_areAlike_27 ?_
      refine V_iorN hX dX9_areAlike_28 ?_
      rw [show (sm (fun h => h) (nodF P (lAt P S k_)) 8) ||| (sm (fun h => h) (agrF P (S k_) (lAt P S k_)) 8) = sm (fun h => h) (dipF P (S k_) (lAt P S k_)) 8 from sm_or _ _ _ _]
      refine V_istore (ls' := [(0, .ref 69), (1, .int (nI h_)), (2, .int (nI q_)), (3, .int (bI (eqB (dpr P S h_) (dpr P S q_) k_ = true))), (4, .int (nI k_)), (5, .int (nI (sm (fun h => h) (dipF P (S k_) (lAt P S k_)) 8)))]) hX dX9_areAlike_29 (by decide) rfl ?_
      refine V_iload_n hX dX9_areAlike_31 3 rfl ?_
      refine V_if_eqB (tgt := 54) hX dX9_areAlike_32 (by decide) (fun c32 => ?_) (fun c32 => ?_)
      · refine V_iconst (v := nI 0) hX dX9_areAlike_54 (by decide) ?_
        refine V_istore_n (ls' := [(0, .ref 69), (1, .int (nI h_)), (2, .int (nI q_)), (3, .int (nI 0)), (4, .int (nI k_)), (5, .int (nI (sm (fun h => h) (dipF P (S k_) (lAt P S k_)) 8)))]) hX dX9_areAlike_55 (by decide) rfl ?_
        refine V_iincN (n := 1) (ls' := [(0, .ref 69), (1, .int (nI h_)), (2, .int (nI q_)), (3, .int (nI 0)), (4, .int (nI (k_ + 1))), (5, .int (nI (sm (fun h => h) (dipF P (S k_) (lAt P S k_)) 8)))]) hX dX9_areAlike_56 4 rfl (by decide) rfl ?_
        refine V_goto (tgt := 5) hX dX9_areAlike_59 (by decide) ?_
        have h9 := ih (k_ + 1) (by omega) (by omega)
        rw [show bI (eqB (dpr P S h_) (dpr P S q_) (k_ + 1) = true) = nI 0 from bI_f (fun z => c32 (Bool.and_eq_true_iff.mp z).1)] at h9
        exact V_sub [0, 1, 2, 3, 4] rfl h9
      · refine V_iload hX dX9_areAlike_35 5 rfl ?_
        refine V_iload_n hX dX9_areAlike_37 1 rfl ?_
        refine V_callS (As := [.int (nI (sm (fun h => h) (dipF P (S k_) (lAt P S k_)) 8)), .int (nI h_)]) (st := []) hX mX9_79 (k_has (by first | omega | (have := sm_lt8 (dipF P (S k_) (lAt P S k_)) (n := 8) (by decide); omega)) (by first | omega | (have := sm_lt8 (dipF P (S k_) (lAt P S k_)) (n := 8) (by decide); omega)) ?_) rfl (Nat.le_of_ble_eq_true rfl) (Nat.le_of_ble_eq_true rfl) dX9_areAlike_38
        show V G 6 X 41 [(0, .ref 69), (1, .int (nI h_)), (2, .int (nI q_)), (3, .int (bI (eqB (dpr P S h_) (dpr P S q_) k_ = true))), (4, .int (nI k_)), (5, .int (nI (sm (fun h => h) (dipF P (S k_) (lAt P S k_)) 8)))] [.int (bI ((sm (fun h => h) (dipF P (S k_) (lAt P S k_)) 8).testBit h_ = true))] μ2
        refine V_iload hX dX9_areAlike_41 5 rfl ?_
        refine V_iload_n hX dX9_areAlike_43 2 rfl ?_
        refine V_callS (As := [.int (nI (sm (fun h => h) (dipF P (S k_) (lAt P S k_)) 8)), .int (nI q_)]) (st := [.int (bI ((sm (fun h => h) (dipF P (S k_) (lAt P S k_)) 8).testBit h_ = true))]) hX mX9_79 (k_has (by first | omega | (have := sm_lt8 (dipF P (S k_) (lAt P S k_)) (n := 8) (by decide); omega)) (by first | omega | (have := sm_lt8 (dipF P (S k_) (lAt P S k_)) (n := 8) (by decide); omega)) ?_) rfl (Nat.le_of_ble_eq_true rfl) (Nat.le_of_ble_eq_true rfl) dX9_areAlike_44
        show V G 6 X 47 [(0, .ref 69), (1, .int (nI h_)), (2, .int (nI q_)), (3, .int (bI (eqB (dpr P S h_) (dpr P S q_) k_ = true))), (4, .int (nI k_)), (5, .int (nI (sm (fun h => h) (dipF P (S k_) (lAt P S k_)) 8)))] [.int (bI ((sm (fun h => h) (dipF P (S k_) (lAt P S k_)) 8).testBit q_ = true)), .int (bI ((sm (fun h => h) (dipF P (S k_) (lAt P S k_)) 8).testBit h_ = true))] μ2
        refine V_icmp_ne (tgt := 54) hX dX9_areAlike_47 (by decide) (fun c47 => ?_) (fun c47 => ?_)
        · refine V_iconst (v := nI 0) hX dX9_areAlike_54 (by decide) ?_
          refine V_istore_n (ls' := [(0, .ref 69), (1, .int (nI h_)), (2, .int (nI q_)), (3, .int (nI 0)), (4, .int (nI k_)), (5, .int (nI (sm (fun h => h) (dipF P (S k_) (lAt P S k_)) 8)))]) hX dX9_areAlike_55 (by decide) rfl ?_
          refine V_iincN (n := 1) (ls' := [(0, .ref 69), (1, .int (nI h_)), (2, .int (nI q_)), (3, .int (nI 0)), (4, .int (nI (k_ + 1))), (5, .int (nI (sm (fun h => h) (dipF P (S k_) (lAt P S k_)) 8)))]) hX dX9_areAlike_56 4 rfl (by decide) rfl ?_
          refine V_goto (tgt := 5) hX dX9_areAlike_59 (by decide) ?_
          have h9 := ih (k_ + 1) (by omega) (by omega)
          rw [show bI (eqB (dpr P S h_) (dpr P S q_) (k_ + 1) = true) = nI 0 from bI_f (fun z => c47 (bI_inj.mpr (by rw [sm_id hh, sm_id hq]; rw [show dipF P (S k_) (lAt P S k_) h_ = dipF P (S k_) (lAt P S k_) q_ from of_decide_eq_true (Bool.and_eq_true_iff.mp z).2])))] at h9
          exact V_sub [0, 1, 2, 3, 4] rfl h9
        · refine V_iconst (v := nI 1) hX dX9_areAlike_50 (by decide) ?_
          refine V_goto (tgt := 55) hX dX9_areAlike_51 (by decide) ?_
          refine V_istore_n (ls' := [(0, .ref 69), (1, .int (nI h_)), (2, .int (nI q_)), (3, .int (nI 1)), (4, .int (nI k_)), (5, .int (nI (sm (fun h => h) (dipF P (S k_) (lAt P S k_)) 8)))]) hX dX9_areAlike_55 (by decide) rfl ?_
          refine V_iincN (n := 1) (ls' := [(0, .ref 69), (1, .int (nI h_)), (2, .int (nI q_)), (3, .int (nI 1)), (4, .int (nI (k_ + 1))), (5, .int (nI (sm (fun h => h) (dipF P (S k_) (lAt P S k_)) 8)))]) hX dX9_areAlike_56 4 rfl (by decide) rfl ?_
          refine V_goto (tgt := 5) hX dX9_areAlike_59 (by decide) ?_
          have h9 := ih (k_ + 1) (by omega) (by omega)
          rw [show bI (eqB (dpr P S h_) (dpr P S q_) (k_ + 1) = true) = nI 1 from bI_t (Bool.and_eq_true_iff.mpr ⟨c32, decide_eq_true (show dpr P S h_ k_ = dpr P S q_ k_ from by rw [Bool.eq_iff_iff]; have z := bI_inj.mp c47; rw [sm_id hh, sm_id hq] at z; exact z)⟩)] at h9
          exact V_sub [0, 1, 2, 3, 4] rfl h9
set_option maxRecDepth 100000 in
set_option maxHeartbeats 4000000 in
theorem kM_areAlike {G : VG} {d : Nat} {Q : Option Value → VS → Prop} {P : PC} {L h_ q_ : Nat} {S : Nat → Nat} {μ1 μ2 : VS} (hRL : μ2.1 69 12 = nI L) (hL60 : L ≤ 60) (hp : prR P S noC μ1 μ2 L) (hh : h_ < 8) (hq : q_ < 8) (hQ : Q (some (.int (bI (eqB (dpr P S h_) (dpr P S q_) L = true)))) μ2) : Call G (d + 1) yX9_areAlike cX9_areAlike 6 (some .boolean) [.ref 69, .int (nI h_), .int (nI q_)] μ2 Q := by
  intro X hX hR
  show V G 6 X 0 [(0, .ref 69), (1, .int (nI h_)), (2, .int (nI q_))] [] μ2
  refine V_iconst (v := nI 1) hX dX9_areAlike_0 (by decide) ?_
  refine V_istore_n (ls' := [(0, .ref 69), (1, .int (nI h_)), (2, .int (nI q_)), (3, .int (nI 1))]) hX dX9_areAlike_1 (by decide) rfl ?_
  refine V_iconst (v := nI 0) hX dX9_areAlike_2 (by decide) ?_
  refine V_istore (ls' := [(0, .ref 69), (1, .int (nI h_)), (2, .int (nI q_)), (3, .int (nI 1)), (4, .int (nI 0))]) hX dX9_areAlike_3 (by decide) rfl ?_
  exact lpM_areAlike (μ1 := μ1) hX hR hRL hL60 hp hh hq hQ (L + 1) 0 (by omega) (by omega)
set_option maxRecDepth 100000 in
set_option maxHeartbeats 4000000 in
theorem lpM_alike1 {G : VG} {d : Nat} {μ2 : VS} {Q : Option Value → VS → Prop} {X : VX} {P : PC} {L h_ : Nat} {S : Nat → Nat} {κ : Nat → Nat} {I : Nat → PC} {μ1 : VS} {i_ : Int32} {K : Nat → Int32} (hX : Cx G (d + 2) yX9_alike cX9_alike 5 (some .int) X) (hR : ∀ r μ', Q r μ' → Ret G X r μ') (hRM2 : RM μ2 P L S κ I) (hP4 : P 0 4 < 256) (hL60 : L ≤ 60) (hp0 : prR P S noC μ1 μ2 L) (hh : h_ < 8) (hF : ∀ n_, n_ ≤ 8 * h_ + 8 → Q (some (.int (K n_))) μ2 → V G 5 X 99 [(0, .ref 69), (1, .int i_), (2, .int (nI n_)), (3, .int (nI h_)), (4, .int (nI 8))] [] μ2) : ∀ (j q_ n_ : Nat), q_ + j = 8 → n_ ≤ 8 * h_ + q_ → Q (some (.int (paQ P S L i_ K h_ j q_ n_))) μ2 → V G 5 X 37 [(0, .ref 69), (1, .int i_), (2, .int (nI n_)), (3, .int (nI h_)), (4, .int (nI q_))] [] μ2 := by
  intro j
  induction j with
  | zero =>
    intro q_ n_ h1 h2 hp
    obtain rfl : q_ = 8 := by omega
    refine V_iload hX dX9_alike_37 4 rfl ?_
    refine V_bipush (v := nI 8) hX dX9_alike_39 (by decide) ?_
    refine V_icmp_geN (tgt := 99) hX dX9_alike_41 (by decide) (by omega) (by omega) (fun c41 => ?_) (fun c41 => ?_)
    · exact hF n_ (by omega) hp
    · exact absurd c41 (by decide)
  | succ j ih =>
    intro q_ n_ h1 h2 hp
    refine V_iload hX dX9_alike_37 4 rfl ?_
    refine V_bipush (v := nI 8) hX dX9_alike_39 (by decide) ?_
    refine V_icmp_geN (tgt := 99) hX dX9_alike_41 (by decide) (by omega) (by omega) (fun c41 => ?_) (fun c41 => ?_)
    · exact absurd c41 (by omega)
    · refine V_aload_n hX dX9_alike_44 0 rfl ?_
      refine V_getN (x := nI (P 0 4)) hX fX9_72 rfl (hRM2.1.1 4 (by decide)) dX9_alike_45 ?_
      refine V_iload_n hX dX9_alike_48 3 rfl ?_
      refine V_callS (As := [.int (nI (P 0 4)), .int (nI h_)]) (st := []) hX mX9_79 (k_has (by omega) (by omega) ?_) rfl (Nat.le_of_ble_eq_true rfl) (Nat.le_of_ble_eq_true rfl) dX9_alike_49
      show V G 5 X 52 [(0, .ref 69), (1, .int i_), (2, .int (nI n_)), (3, .int (nI h_)), (4, .int (nI q_))] [.int (bI ((P 0 4).testBit h_ = true))] μ2
      refine V_if_eqB (tgt := 93) hX dX9_alike_52 (by decide) (fun c52 => ?_) (fun c52 => ?_)
      · refine V_iincN (n := 1) (ls' := [(0, .ref 69), (1, .int i_), (2, .int (nI n_)), (3, .int (nI h_)), (4, .int (nI (q_ + 1)))]) hX dX9_alike_93 4 rfl (by decide) rfl ?_
        refine V_goto (tgt := 37) hX dX9_alike_96 (by decide) ?_
        rw [show paQ P S L i_ K h_ (j + 1) q_ n_ = _ from if_neg (fun z => c52 z.1)] at hp
        exact ih (q_ + 1) n_ (by omega) (by omega) hp
      · refine V_aload_n hX dX9_alike_55 0 rfl ?_
        refine V_getN (x := nI (P 0 4)) hX fX9_72 rfl (hRM2.1.1 4 (by decide)) dX9_alike_56 ?_
        refine V_iload hX dX9_alike_59 4 rfl ?_
        refine V_callS (As := [.int (nI (P 0 4)), .int (nI q_)]) (st := []) hX mX9_79 (k_has (by omega) (by omega) ?_) rfl (Nat.le_of_ble_eq_true rfl) (Nat.le_of_ble_eq_true rfl) dX9_alike_61
        show V G 5 X 64 [(0, .ref 69), (1, .int i_), (2, .int (nI n_)), (3, .int (nI h_)), (4, .int (nI q_))] [.int (bI ((P 0 4).testBit q_ = true))] μ2
        refine V_if_eqB (tgt := 93) hX dX9_alike_64 (by decide) (fun c64 => ?_) (fun c64 => ?_)
        · refine V_iincN (n := 1) (ls' := [(0, .ref 69), (1, .int i_), (2, .int (nI n_)), (3, .int (nI h_)), (4, .int (nI (q_ + 1)))]) hX dX9_alike_93 4 rfl (by decide) rfl ?_
          refine V_goto (tgt := 37) hX dX9_alike_96 (by decide) ?_
          rw [show paQ P S L i_ K h_ (j + 1) q_ n_ = _ from if_neg (fun z => c64 z.2.1)] at hp
          exact ih (q_ + 1) n_ (by omega) (by omega) hp
        · refine V_aload_n hX dX9_alike_67 0 rfl ?_
          refine V_iload_n hX dX9_alike_68 3 rfl ?_
          refine V_iload hX dX9_alike_69 4 rfl ?_
          refine V_callV (As := [.int (nI h_), .int (nI q_)]) (st := []) hX mX9_194 rfl (kM_areAlike (P := P) (L := L) (S := S) (μ1 := μ1) hRM2.2.1.1 hL60 hp0 (by omega) (by omega) ?_) rfl (Nat.le_of_ble_eq_true rfl) (Nat.le_of_ble_eq_true rfl) dX9_alike_71
          show V G 5 X 74 [(0, .ref 69), (1, .int i_), (2, .int (nI n_)), (3, .int (nI h_)), (4, .int (nI q_))] [.int (bI (eqB (dpr P S h_) (dpr P S q_) L = true))] μ2
          refine V_if_eqB (tgt := 93) hX dX9_alike_74 (by decide) (fun c74 => ?_) (fun c74 => ?_)
          · refine V_iincN (n := 1) (ls' := [(0, .ref 69), (1, .int i_), (2, .int (nI n_)), (3, .int (nI h_)), (4, .int (nI (q_ + 1)))]) hX dX9_alike_93 4 rfl (by decide) rfl ?_
            refine V_goto (tgt := 37) hX dX9_alike_96 (by decide) ?_
            rw [show paQ P S L i_ K h_ (j + 1) q_ n_ = _ from if_neg (fun z => c74 z.2.2)] at hp
            exact ih (q_ + 1) n_ (by omega) (by omega) hp
          · refine V_iload_n hX dX9_alike_77 2 rfl ?_
            refine V_iload_n hX dX9_alike_78 1 rfl ?_
            refine V_icmp_ne (tgt := 90) hX dX9_alike_79 (by decide) (fun c79 => ?_) (fun c79 => ?_)
            · refine V_iincN (n := 1) (ls' := [(0, .ref 69), (1, .int i_), (2, .int (nI (n_ + 1))), (3, .int (nI h_)), (4, .int (nI q_))]) hX dX9_alike_90 2 rfl (by decide) rfl ?_
              refine V_iincN (n := 1) (ls' := [(0, .ref 69), (1, .int i_), (2, .int (nI (n_ + 1))), (3, .int (nI h_)), (4, .int (nI (q_ + 1)))]) hX dX9_alike_93 4 rfl (by decide) rfl ?_
              refine V_goto (tgt := 37) hX dX9_alike_96 (by decide) ?_
              rw [show paQ P S L i_ K h_ (j + 1) q_ n_ = _ from (if_pos ⟨c52, c64, c74⟩).trans (if_neg c79)] at hp
              exact ih (q_ + 1) (n_ + 1) (by omega) (by omega) hp
            · refine V_bipush (v := nI 10) hX dX9_alike_82 (by decide) ?_
              refine V_iload_n hX dX9_alike_84 3 rfl ?_
              refine V_imulN hX dX9_alike_85 ?_
              refine V_iload hX dX9_alike_86 4 rfl ?_
              refine V_iaddN hX dX9_alike_88 ?_
              refine V_iret hX rfl dX9_alike_89 ?_
              rw [show paQ P S L i_ K h_ (j + 1) q_ n_ = _ from (if_pos ⟨c52, c64, c74⟩).trans (if_pos c79)] at hp
              exact hR _ _ hp
set_option maxRecDepth 100000 in
set_option maxHeartbeats 4000000 in
theorem lpM_alike2 {G : VG} {d : Nat} {μ2 : VS} {Q : Option Value → VS → Prop} {X : VX} {P : PC} {L : Nat} {S : Nat → Nat} {κ : Nat → Nat} {I : Nat → PC} {μ1 : VS} {i_ : Int32} {K : Nat → Int32} (hX : Cx G (d + 2) yX9_alike cX9_alike 5 (some .int) X) (hR : ∀ r μ', Q r μ' → Ret G X r μ') (hRM2 : RM μ2 P L S κ I) (hP4 : P 0 4 < 256) (hL60 : L ≤ 60) (hp0 : prR P S noC μ1 μ2 L) (hF : ∀ n_, n_ ≤ 64 → Q (some (.int (K n_))) μ2 → V G 5 X 105 [(0, .ref 69), (1, .int i_), (2, .int (nI n_)), (3, .int (nI 8))] [] μ2) : ∀ (j h_ n_ : Nat), h_ + j = 8 → n_ ≤ 8 * h_ → Q (some (.int (paH P S L i_ K j h_ n_))) μ2 → V G 5 X 26 [(0, .ref 69), (1, .int i_), (2, .int (nI n_)), (3, .int (nI h_))] [] μ2 := by
  intro j
  induction j with
  | zero =>
    intro h_ n_ h1 h2 hp
    obtain rfl : h_ = 8 := by omega
    refine V_iload_n hX dX9_alike_26 3 rfl ?_
    refine V_bipush (v := nI 8) hX dX9_alike_27 (by decide) ?_
    refine V_icmp_geN (tgt := 105) hX dX9_alike_29 (by decide) (by omega) (by omega) (fun c29 => ?_) (fun c29 => ?_)
    · exact hF n_ (by omega) hp
    · exact absurd c29 (by decide)
  | succ j ih =>
    intro h_ n_ h1 h2 hp
    refine V_iload_n hX dX9_alike_26 3 rfl ?_
    refine V_bipush (v := nI 8) hX dX9_alike_27 (by decide) ?_
    refine V_icmp_geN (tgt := 105) hX dX9_alike_29 (by decide) (by omega) (by omega) (fun c29 => ?_) (fun c29 => ?_)
    · exact absurd c29 (by omega)
    · refine V_iload_n hX dX9_alike_32 3 rfl ?_
      refine V_iconst (v := nI 1) hX dX9_alike_33 (by decide) ?_
      refine V_iaddN hX dX9_alike_34 ?_
      refine V_istore (ls' := [(0, .ref 69), (1, .int i_), (2, .int (nI n_)), (3, .int (nI h_)), (4, .int (nI (h_ + 1)))]) hX dX9_alike_35 (by decide) rfl ?_
      refine lpM_alike1 hX hR hRM2 hP4 hL60 hp0 (show h_ < 8 by omega) (fun m_ hm hp2 => ?_) j (h_ + 1) n_ (by omega) (by omega) hp
      refine V_iincN (n := 1) (ls' := [(0, .ref 69), (1, .int i_), (2, .int (nI m_)), (3, .int (nI (h_ + 1))), (4, .int (nI 8))]) hX dX9_alike_99 3 rfl (by decide) rfl ?_
      refine V_goto (tgt := 26) hX dX9_alike_102 (by decide) ?_
      exact V_sub [0, 1, 2, 3] rfl (ih (h_ + 1) m_ (by omega) (by omega) hp2)
set_option maxRecDepth 100000 in
set_option maxHeartbeats 4000000 in
theorem kM_alike {G : VG} {d : Nat} {μ : VS} {Q : Option Value → VS → Prop} {P : PC} {L : Nat} {S κ : Nat → Nat} {I : Nat → PC} {i_ : Int32} (hRM : RM μ P L S κ I) (hok : okP P) (hpd : okPad L S) (hQ : ∀ μ', RM μ' P L S κ I → keepC μ μ' → Q (some (.int (alikeS P L S i_))) μ') : Call G (d + 6) yX9_alike cX9_alike 5 (some .int) [.ref 69, .int i_] μ Q := by
  intro X hX hR
  have hM := hRM.1
  have hL := hRM.2.1
  have hS := hpd.2
  have hL60 := hpd.1
  have hP4 := hok.2.2.2.2.1
  have h4 := hP4
  show V G 5 X 0 [(0, .ref 69), (1, .int i_)] [] μ
  refine V_aload_n hX dX9_alike_0 0 rfl ?_
  refine V_callV (As := []) (st := []) hX mX9_109 rfl (kM_faultOf hL hS hL60 ?_) rfl (Nat.le_of_ble_eq_true rfl) (Nat.le_of_ble_eq_true rfl) dX9_alike_1
  show V G 5 X 4 [(0, .ref 69), (1, .int i_)] [.int (fltU S L)] μ
  refine V_if_lt (tgt := 10) hX dX9_alike_4 (by decide) (fun c4 => ?_) (fun c4 => ?_)
  · refine V_aload_n hX dX9_alike_10 0 rfl ?_
    refine V_callV (As := []) (st := []) hX mX9_160 rfl (kM_lay hM hL hL60 (fun μ1 hLy hK1 => ?_)) rfl (Nat.le_of_ble_eq_true rfl) (Nat.le_of_ble_eq_true rfl) dX9_alike_11
    show V G 5 X 14 [(0, .ref 69), (1, .int i_)] [] μ1
    have hR1 := hRM.keep hK1
    refine V_aload_n hX dX9_alike_14 0 rfl ?_
    refine V_aload_n hX dX9_alike_15 0 rfl ?_
    refine V_getN (x := nI L) hX fX9_103 rfl hR1.2.1.1 dX9_alike_16 ?_
    refine V_callV (As := [.int (nI L)]) (st := []) hX mX9_163 rfl (kM_preach (sg_ := S) (cb_ := noC) (cm_ := 0) hLy.1 hok hLy.2.2.2 (by omega) (fun i hi => hLy.2.2.1 i (by omega)) (fun i hi => by have := hS i (by omega); omega) (fun i _ => Or.inr ⟨rfl, rfl⟩) (fun μ2 hp => ?_)) rfl (Nat.le_of_ble_eq_true rfl) (Nat.le_of_ble_eq_true rfl) dX9_alike_19
    show V G 5 X 22 [(0, .ref 69), (1, .int i_)] [] μ2
    have hR2 := hR1.keep hp.1.keep
    have hC2 : keepC μ μ2 := (hK1.tr hp.1.keep).C
    refine V_iconst (v := nI 0) hX dX9_alike_22 (by decide) ?_
    refine V_istore_n (ls' := [(0, .ref 69), (1, .int i_), (2, .int (nI 0))]) hX dX9_alike_23 (by decide) rfl ?_
    refine V_iconst (v := nI 0) hX dX9_alike_24 (by decide) ?_
    refine V_istore_n (ls' := [(0, .ref 69), (1, .int i_), (2, .int (nI 0)), (3, .int (nI 0))]) hX dX9_alike_25 (by decide) rfl ?_
    refine lpM_alike2 (μ1 := μ1) (i_ := i_) (K := alK i_) hX hR hR2 hP4 hL60 hp (fun n_ _ hp2 => ?_) 8 0 0 (by decide) (by decide) (by have h9 := hQ μ2; rw [show alikeS P L S i_ = _ from if_pos (flt_neg L (by omega) c4)] at h9; exact h9 hR2 hC2)
    refine V_iload_n hX dX9_alike_105 1 rfl ?_
    refine V_iconst (v := (-1)) hX dX9_alike_106 (by decide) ?_
    refine V_icmp_ne (tgt := 114) hX dX9_alike_107 (by decide) (fun c107 => ?_) (fun c107 => ?_)
    · refine V_bipush (v := (-6)) hX dX9_alike_114 (by decide) ?_
      refine V_iret hX rfl dX9_alike_116 ?_
      rw [show alK i_ n_ = -6 from if_neg c107] at hp2
      exact hR _ _ hp2
    · refine V_iload_n hX dX9_alike_110 2 rfl ?_
      refine V_goto (tgt := 116) hX dX9_alike_111 (by decide) ?_
      refine V_iret hX rfl dX9_alike_116 ?_
      rw [show alK i_ n_ = nI n_ from if_pos c107] at hp2
      exact hR _ _ hp2
  · refine V_bipush (v := (-5)) hX dX9_alike_7 (by decide) ?_
    refine V_iret hX rfl dX9_alike_9 ?_
    have h9 := hQ μ
    rw [show alikeS P L S i_ = -5 from if_neg (flt_ge hL60 c4)] at h9
    exact hR _ _ (h9 hRM (keepC.rf μ))
