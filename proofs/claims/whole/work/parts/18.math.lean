/-! counting, masks -/
def cnt (f : Nat → Bool) : Nat → Nat
  | 0 => 0
  | k + 1 => cnt f k + (if f k = true then 1 else 0)
def anyB (f : Nat → Bool) : Nat → Bool
  | 0 => false
  | k + 1 => anyB f k || f k
/-- the set of the places s h of those h below k of whom f holds, as bits -/
def sm (s : Nat → Nat) (f : Nat → Bool) : Nat → Nat
  | 0 => 0
  | k + 1 => if f k = true then sm s f k ||| 1 <<< s k else sm s f k
theorem anyB_iff {f : Nat → Bool} {n : Nat} : anyB f n = true ↔ ∃ h, h < n ∧ f h = true := by
  induction n with
  | zero => simp [anyB]
  | succ n ih =>
    unfold anyB
    rw [Bool.or_eq_true, ih]
    constructor
    · rintro (⟨h, h1, h2⟩ | h)
      · exact ⟨h, by omega, h2⟩
      · exact ⟨n, by omega, h⟩
    · rintro ⟨h, h1, h2⟩
      rcases Nat.lt_or_ge h n with q | q
      · exact Or.inl ⟨h, q, h2⟩
      · obtain rfl : h = n := by omega
        exact Or.inr h2
theorem cnt_congr {f g : Nat → Bool} {n : Nat} (h : ∀ i, i < n → f i = g i) : cnt f n = cnt g n := by
  induction n with
  | zero => rfl
  | succ n ih =>
    unfold cnt
    rw [ih (fun i hi => h i (by omega)), h n (by omega)]
theorem cnt_le (f : Nat → Bool) (n : Nat) : cnt f n ≤ n := by
  induction n with
  | zero => exact Nat.le_refl _
  | succ n ih =>
    unfold cnt
    split <;> omega
theorem cnt_one {f g : Nat → Bool} {b n : Nat} (hb : b < n) (hf : f b = false) (hg : g b = true) (h : ∀ i, i ≠ b → g i = f i) : cnt g n = cnt f n + 1 := by
  induction n with
  | zero => omega
  | succ n ih =>
    unfold cnt
    by_cases e : b = n
    · subst e
      rw [hf, hg, cnt_congr (fun i hi => h i (by omega))]
      simp
    · rw [ih (by omega), h n (fun z => e z.symm)]
      omega
theorem bit_or1 (a b i : Nat) : (a ||| 1 <<< b).testBit i = (a.testBit i || decide (b = i)) := by
  rw [Nat.testBit_or, Nat.one_shiftLeft, Nat.testBit_two_pow]
theorem sm_bit (s : Nat → Nat) (f : Nat → Bool) (n b : Nat) : (sm s f n).testBit b = anyB (fun h => f h && decide (s h = b)) n := by
  induction n with
  | zero => simp [sm, anyB]
  | succ n ih =>
    unfold sm anyB
    by_cases h : f n = true
    · rw [if_pos h, bit_or1, ih, h, Bool.true_and]
    · rw [if_neg h, ih]
      simp [h]
theorem sm_iff {s : Nat → Nat} {f : Nat → Bool} {n b : Nat} : (sm s f n).testBit b = true ↔ ∃ h, h < n ∧ f h = true ∧ s h = b := by
  rw [sm_bit, anyB_iff]
  simp
theorem popN_cnt (n k : Nat) : popN n k = cnt n.testBit k := by
  induction k with
  | zero => rfl
  | succ k ih =>
    unfold popN cnt
    rw [ih]
    congr 1
    by_cases h : n.testBit k = true
    · rw [if_pos h, (shr_test n k).mpr h]
    · rw [if_neg h]
      have h2 : ¬ n >>> k &&& 1 = 1 := fun z => h ((shr_test n k).mp z)
      have := Nat.and_le_right (n := n >>> k) (m := 1)
      omega
theorem sm_pop {s : Nat → Nat} {f : Nat → Bool} {m : Nat} : ∀ {n : Nat}, (∀ h, h < n → f h = true → s h < m) → (∀ h, h < n → ∀ g, g < n → f h = true → f g = true → s h = s g → h = g) → popN (sm s f n) m = cnt f n
  | 0, _, _ => by
    rw [popN_cnt]
    show cnt (fun i => (0 : Nat).testBit i) m = 0
    induction m with
    | zero => rfl
    | succ m ih => unfold cnt; rw [ih (fun h hh => absurd hh (by omega))]; simp
  | n + 1, hs, hi => by
    have ih := sm_pop (n := n) (fun h hh => hs h (by omega)) (fun h hh g hg => hi h (by omega) g (by omega))
    unfold sm cnt
    by_cases h : f n = true
    · rw [if_pos h, if_pos h, ← ih, popN_cnt, popN_cnt]
      refine cnt_one (b := s n) (hs n (by omega) h) ?_ ?_ ?_
      · cases q : (sm s f n).testBit (s n) with
        | false => rfl
        | true =>
          obtain ⟨g, h1, h2, h3⟩ := sm_iff.mp q
          have := hi g (by omega) n (by omega) h2 h h3
          omega
      · rw [bit_or1]; simp
      · intro i hi2
        rw [bit_or1]
        simp [Ne.symm hi2]
    · rw [if_neg h, if_neg h, ih]; rfl
theorem sm_lt {s : Nat → Nat} {f : Nat → Bool} {m : Nat} : ∀ {n : Nat}, (∀ h, h < n → f h = true → s h < m) → sm s f n < 2 ^ m
  | 0, _ => Nat.two_pow_pos m
  | n + 1, hs => by
    have ih := sm_lt (n := n) (fun h hh => hs h (by omega))
    unfold sm
    by_cases h : f n = true
    · rw [if_pos h]
      refine Nat.or_lt_two_pow ih ?_
      rw [Nat.one_shiftLeft]
      exact Nat.pow_lt_pow_right (by decide) (hs n (by omega) h)
    · rw [if_neg h]; exact ih
theorem sm_congr {s : Nat → Nat} {f g : Nat → Bool} {n : Nat} (h : ∀ i, i < n → f i = g i) : sm s f n = sm s g n := by
  induction n with
  | zero => rfl
  | succ n ih =>
    unfold sm
    rw [ih (fun i hi => h i (by omega)), h n (by omega)]
theorem sm_or (s : Nat → Nat) (f g : Nat → Bool) (n : Nat) : sm s f n ||| sm s g n = sm s (fun h => f h || g h) n := by
  apply Nat.eq_of_testBit_eq
  intro i
  rw [Nat.testBit_or, Bool.eq_iff_iff, Bool.or_eq_true, sm_iff, sm_iff, sm_iff]
  constructor
  · rintro (⟨h, h1, h2, h3⟩ | ⟨h, h1, h2, h3⟩)
    · exact ⟨h, h1, by simp [h2], h3⟩
    · exact ⟨h, h1, by simp [h2], h3⟩
  · rintro ⟨h, h1, h2, h3⟩
    rcases Bool.or_eq_true_iff.mp h2 with q | q
    · exact Or.inl ⟨h, h1, q, h3⟩
    · exact Or.inr ⟨h, h1, q, h3⟩
theorem sm_shr (s : Nat → Nat) (f : Nat → Bool) (n c : Nat) : sm s f n >>> c = sm (fun h => s h - c) (fun h => f h && decide (c ≤ s h)) n := by
  apply Nat.eq_of_testBit_eq
  intro i
  rw [Nat.testBit_shiftRight, Bool.eq_iff_iff, sm_iff, sm_iff]
  constructor
  · rintro ⟨h, h1, h2, h3⟩
    exact ⟨h, h1, by simp [h2]; omega, by omega⟩
  · rintro ⟨h, h1, h2, h3⟩
    simp only [Bool.and_eq_true, decide_eq_true_eq] at h2
    exact ⟨h, h1, h2.1, by omega⟩
theorem bit_not (b i : Nat) (hi : i < 32) : (b ^^^ 4294967295).testBit i = !b.testBit i := by
  rw [Nat.testBit_xor]
  have : (4294967295 : Nat).testBit i = true := by
    have h := (by decide : ∀ i : Fin 32, (4294967295 : Nat).testBit i.val = true)
    exact h ⟨i, hi⟩
  rw [this]
  cases b.testBit i <;> rfl
/-- places are told apart on those of whom e holds -/
def injOn (s : Nat → Nat) (e : Nat → Bool) (n : Nat) : Prop := ∀ h, h < n → ∀ g, g < n → e h = true → e g = true → s h = s g → h = g
theorem sm_at {s : Nat → Nat} {e f : Nat → Bool} {n h : Nat} (hi : injOn s e n) (hf : ∀ g, g < n → f g = true → e g = true) (hn : h < n) (he : e h = true) : (sm s f n).testBit (s h) = f h := by
  rw [Bool.eq_iff_iff, sm_iff]
  constructor
  · rintro ⟨g, h1, h2, h3⟩
    rw [← hi g h1 h hn (hf g h1 h2) he h3]
    exact h2
  · intro q
    exact ⟨h, hn, q, rfl⟩
theorem sm_diff {s : Nat → Nat} {e f g : Nat → Bool} {n : Nat} (hi : injOn s e n) (hf : ∀ h, h < n → f h = true → e h = true) (hg : ∀ h, h < n → g h = true → e h = true) (hs : ∀ h, h < n → f h = true → s h < 32) : sm s f n &&& (sm s g n ^^^ 4294967295) = sm s (fun h => f h && !g h) n := by
  apply Nat.eq_of_testBit_eq
  intro i
  rw [Nat.testBit_and, Bool.eq_iff_iff, Bool.and_eq_true, sm_iff, sm_iff]
  constructor
  · rintro ⟨⟨h, h1, h2, h3⟩, h4⟩
    subst h3
    rw [bit_not _ _ (hs h h1 h2), sm_at hi hg h1 (hf h h1 h2)] at h4
    exact ⟨h, h1, by simp only [h2, h4, Bool.and_self], rfl⟩
  · rintro ⟨h, h1, h2, h3⟩
    subst h3
    rw [Bool.and_eq_true] at h2
    refine ⟨⟨h, h1, h2.1, rfl⟩, ?_⟩
    rw [bit_not _ _ (hs h h1 h2.1), sm_at hi hg h1 (hf h h1 h2.1)]
    exact h2.2
def rgtM (a : Nat) : Nat := (a <<< 1) &&& 4294967022
def lftM (a : Nat) : Nat := (a >>> 1) &&& 4294965111
theorem rgtM_bit {a i : Nat} (hi : i < 12) : (rgtM a).testBit i = (decide (1 ≤ i) && a.testBit (i - 1) && !decide (i % 4 = 0)) := by
  unfold rgtM
  rw [Nat.testBit_and, Nat.testBit_shiftLeft]
  have h := (by decide : ∀ i : Fin 12, (4294967022 : Nat).testBit i.val = !decide (i.val % 4 = 0)) ⟨i, hi⟩
  simp only at h
  rw [h]
theorem lftM_bit {a i : Nat} (hi : i < 12) : (lftM a).testBit i = (a.testBit (1 + i) && !decide (i % 4 = 3)) := by
  unfold lftM
  rw [Nat.testBit_and, Nat.testBit_shiftRight]
  have h := (by decide : ∀ i : Fin 12, (4294965111 : Nat).testBit i.val = !decide (i.val % 4 = 3)) ⟨i, hi⟩
  simp only at h
  rw [h]
/-! a minute, by hearers -/
def lftB (P : PC) (f : Nat → Bool) (h : Nat) : Bool := anyB (fun g => f g && decide (P 1 g + 1 = P 1 h) && !decide (P 1 h % 4 = 0)) 8
def rgtB (P : PC) (f : Nat → Bool) (h : Nat) : Bool := anyB (fun g => f g && decide (P 1 g = P 1 h + 1) && !decide (P 1 h % 4 = 3)) 8
def faZ (sg : Nat) : Int := if sg = 119 then -2 else if sg = 104 then 3 else if sg = 111 then 1 else if sg = 126 then 2 else 0
def stlN (P : PC) (st h : Nat) : Nat := P 0 1 - 2 * (P 1 h / 4) - st
def dzZ (P : PC) (sg st nm : Nat) (cold : Bool) (h : Nat) : Int := faZ sg - (if cold = true then 0 else (P 3 h : Int)) + (if sg = 115 then (stlN P st h : Int) else if h = nm then 5 else 0)
def clampN (z : Int) (A : Nat) : Nat := if z < 0 then 0 else if (A : Int) < z then A else z.toNat
def lev1 (P : PC) (sg st nm : Nat) (cold : Bool) (lev : Nat → Nat) (h : Nat) : Nat := if pPres P h = true then clampN ((lev h : Int) + dzZ P sg st nm cold h) (P 2 h) else lev h
def nodF (P : PC) (l : Nat → Nat) (h : Nat) : Bool := pPres P h && !pUpr P h && decide (l h = 0)
def agrF (P : PC) (sg : Nat) (l : Nat → Nat) (h : Nat) : Bool := pPres P h && !pUpr P h && !decide (l h = 0) && decide (sg = 99) && decide (P 4 h = 1)
def snoF (P : PC) (f : Nat → Bool) (h : Nat) : Bool := f h && lftB P f h && rgtB P f h
def othF (P : PC) (f : Nat → Bool) (h : Nat) : Bool := pPres P h && !f h
def elbF (P : PC) (f : Nat → Bool) (h : Nat) : Bool := f h && (lftB P (othF P f) h || rgtB P (othF P f) h)
def lev2 (P : PC) (f : Nat → Bool) (l : Nat → Nat) (h : Nat) : Nat := if elbF P f h = true then min 2 (P 2 h) else l h
/-- the n-th of those of whom f holds, from h on -/
def nthG (f : Nat → Bool) : Nat → Nat → Nat → Nat
  | 0, _, _ => 99
  | j + 1, h, n => if f h = true then (if n = 0 then h else nthG f j (h + 1) (n - 1)) else nthG f j (h + 1) n
def nmdN (P : PC) (sg names : Nat) : Nat := if sg = 110 then (if popN (P 0 4) 8 = 0 then 99 else nthG (pPres P) 8 0 (names % popN (P 0 4) 8)) else 99
