/-! orders of the minutes: by depth, and by the next one -/
def kc (k : Nat) : Nat := match k with
  | 0 => 99
  | 1 => 104
  | 2 => 110
  | 3 => 111
  | 4 => 115
  | 5 => 119
  | _ => 126
theorem kc_bc {k : Nat} (h : k < 7) : vBC k = nI (kc k) := by
  match k, h with
  | 0, _ => rfl
  | 1, _ => rfl
  | 2, _ => rfl
  | 3, _ => rfl
  | 4, _ => rfl
  | 5, _ => rfl
  | 6, _ => rfl
theorem kc_lt : ∀ a, a < 7 → ∀ b, b < 7 → (kc a < kc b ↔ a < b) := by decide
theorem kc_eq {a b : Nat} (ha : a < 7) (hb : b < 7) (h : kc a = kc b) : a = b := by
  have h1 := (kc_lt a ha b hb)
  have h2 := (kc_lt b hb a ha)
  omega
theorem kc_sm (k : Nat) : kc k < 1000 := by unfold kc; split <;> decide
theorem kc_sg {n : Nat} (h : isSg n) : ∃ k, k < 7 ∧ n = kc k ∧ kindI n = nI k := by
  rcases h with h | h | h | h | h | h | h <;> subst h
  · exact ⟨0, by decide, rfl, rfl⟩
  · exact ⟨1, by decide, rfl, rfl⟩
  · exact ⟨2, by decide, rfl, rfl⟩
  · exact ⟨3, by decide, rfl, rfl⟩
  · exact ⟨4, by decide, rfl, rfl⟩
  · exact ⟨5, by decide, rfl, rfl⟩
  · exact ⟨6, by decide, rfl, rfl⟩
def kfold {σ : Type} (step : Nat → σ → σ) : Nat → σ → σ
  | 0, a => a
  | k + 1, a => step k (kfold step k a)
theorem kfold_id {σ : Type} {step : Nat → σ → σ} {a : σ} : ∀ K, (∀ k, k < K → step k a = a) → kfold step K a = a
  | 0, _ => rfl
  | K + 1, h => by
    unfold kfold
    rw [kfold_id K (fun k hk => h k (by omega))]
    exact h K (by omega)
theorem kfold_congr {σ : Type} {step step' : Nat → σ → σ} {a : σ} : ∀ K, (∀ k b, k < K → step k b = step' k b) → kfold step K a = kfold step' K a
  | 0, _ => rfl
  | K + 1, h => by
    unfold kfold
    rw [kfold_congr K (fun k b hk => h k b (by omega))]
    exact h K _ (by omega)
theorem kfold_skip {σ : Type} {step : Nat → σ → σ} {a : σ} {k : Nat} : ∀ r, (∀ q b, k ≤ q → q < k + r → step q b = b) → kfold step (k + r) a = kfold step k a
  | 0, _ => rfl
  | r + 1, h => by
    show step (k + r) (kfold step (k + r) a) = _
    rw [h (k + r) _ (by omega) (by omega)]
    exact kfold_skip r (fun q b h1 h2 => h q b h1 (by omega))
theorem kfold_skipTo {σ : Type} {step : Nat → σ → σ} {a : σ} {k n : Nat} (hk : k ≤ n) (h : ∀ q b, k ≤ q → q < n → step q b = b) : kfold step n a = kfold step k a := by
  have e : n = k + (n - k) := by omega
  rw [e]
  exact kfold_skip _ (fun q b h1 h2 => h q b h1 (by omega))
abbrev noM {σ : Type} : σ → (Nat → Nat) → Nat → Bool := fun _ _ _ => true
def dfs {σ : Type} (may : σ → (Nat → Nat) → Nat → Bool) (arr : σ → (Nat → Nat) → σ) : Nat → Nat → (Nat → Nat) → (Nat → Nat) → σ → σ
  | 0, _, S, _, a => arr a S
  | j + 1, m, S, c, a => kfold (fun k b => if 0 < c k ∧ may b (apS S m (kc k)) m = true then dfs may arr j (m + 1) (apS S m (kc k)) (apS c k (c k - 1)) b else b) 7 a
theorem apS_at (S : Nat → Nat) (m x : Nat) : apS S m x m = x := if_pos rfl
theorem apS_ne {S : Nat → Nat} {m x i : Nat} (h : ¬ i = m) : apS S m x i = S i := if_neg h
theorem dfs_id {σ : Type} {arr : σ → (Nat → Nat) → σ} : ∀ j m S c a, (∀ T, (∀ i, i < m → T i = S i) → arr a T = a) → dfs noM arr j m S c a = a
  | 0, m, S, c, a, h => h S (fun _ _ => rfl)
  | j + 1, m, S, c, a, h => by
    unfold dfs
    refine kfold_id 7 (fun k _ => ?_)
    by_cases e : 0 < c k
    · rw [if_pos ⟨e, rfl⟩]
      exact dfs_id j (m + 1) _ _ a (fun T hT => h T (fun i hi => by rw [hT i (by omega), apS_ne (by omega)]))
    · exact if_neg (fun z => e z.1)
theorem dfs_prune {σ : Type} {may : σ → (Nat → Nat) → Nat → Bool} {arr arrG : σ → (Nat → Nat) → σ} {n : Nat} (Pr : σ → (Nat → Nat) → Nat → Prop)
    (hL : ∀ a S, Pr a S n → arr a S = arrG a S)
    (hM : ∀ a0 a S m k, m < n → Pr a0 S m → may a (apS S m (kc k)) m = true → Pr a (apS S m (kc k)) (m + 1))
    (hN : ∀ a S m, m < n → ¬ may a S m = true → ∀ T, (∀ i, i < m + 1 → T i = S i) → arrG a T = a) :
    ∀ j m S c a, m + j = n → Pr a S m → dfs may arr j m S c a = dfs noM arrG j m S c a
  | 0, m, S, c, a, e, h => by
    obtain rfl : m = n := by omega
    exact hL a S h
  | j + 1, m, S, c, a, e, h => by
    unfold dfs
    refine kfold_congr 7 (fun k b _ => ?_)
    by_cases e1 : 0 < c k
    · by_cases e2 : may b (apS S m (kc k)) m = true
      · rw [if_pos ⟨e1, e2⟩, if_pos ⟨e1, rfl⟩]
        exact dfs_prune Pr hL hM hN j (m + 1) _ _ b (by omega) (hM a b S m k (by omega) h e2)
      · rw [if_neg (fun z => e2 z.2), if_pos ⟨e1, rfl⟩]
        exact (dfs_id j (m + 1) _ _ b (fun T hT => hN b _ m (by omega) e2 T hT)).symm
    · rw [if_neg (fun z => e1 z.1), if_neg (fun z => e1 z.1)]
theorem rsum_dec {c : Nat → Nat} {k : Nat} (h : 0 < c k) : ∀ n, k < n → rsum (apS c k (c k - 1)) n + 1 = rsum c n
  | n + 1, hk => by
    show rsum _ n + apS c k (c k - 1) n + 1 = rsum c n + c n
    by_cases e : k = n
    · subst e
      rw [apS_at, rsum_congr (f := apS c k (c k - 1)) (g := c) k (fun i hi => apS_ne (by omega))]
      omega
    · have := rsum_dec h n (by omega)
      rw [apS_ne (fun z => e z.symm)]
      omega
theorem rsum_pos {c : Nat → Nat} : ∀ n, 0 < rsum c n → ∃ k, k < n ∧ 0 < c k
  | 0, h => absurd h (by show ¬ 0 < 0; omega)
  | n + 1, h => by
    by_cases e : 0 < c n
    · exact ⟨n, by omega, e⟩
    · obtain ⟨k, h1, h2⟩ := rsum_pos n (by show 0 < rsum c n; have : 0 < rsum c n + c n := h; omega)
      exact ⟨k, by omega, h2⟩
theorem dfs_est {σ : Type} {arr : σ → (Nat → Nat) → σ} (E : σ → Prop) (hE : ∀ a S, E (arr a S)) : ∀ j m S c a, rsum c 7 = j → E (dfs noM arr j m S c a)
  | 0, m, S, c, a, _ => hE a S
  | j + 1, m, S, c, a, hc => by
    unfold dfs
    have key : ∀ K, K ≤ 7 → (∃ k, k < K ∧ 0 < c k) → E (kfold (fun k b => if 0 < c k ∧ noM b (apS S m (kc k)) m = true then dfs noM arr j (m + 1) (apS S m (kc k)) (apS c k (c k - 1)) b else b) K a) := by
      intro K
      induction K with
      | zero => rintro _ ⟨k, h1, _⟩; omega
      | succ K ih =>
        rintro hK ⟨k, h1, h2⟩
        unfold kfold
        by_cases e : 0 < c K
        · rw [if_pos ⟨e, rfl⟩]
          exact dfs_est E hE j (m + 1) _ _ _ (by have := rsum_dec e 7 (by omega); omega)
        · rw [if_neg (fun z => e z.1)]
          refine ih (by omega) ⟨k, ?_, h2⟩
          rcases Nat.lt_or_ge k K with q | q
          · exact q
          · obtain rfl : k = K := by omega
            exact absurd h2 e
    exact key 7 (Nat.le_refl _) (rsum_pos 7 (by omega))
/-! how often a number stands from a place on -/
def cv (T : Nat → Nat) (v m n : Nat) : Nat := cnt (fun i => decide (m ≤ i ∧ T i = v)) n
theorem cnt_ex {f : Nat → Bool} : ∀ {n : Nat}, 0 < cnt f n ↔ ∃ i, i < n ∧ f i = true
  | 0 => ⟨fun h => absurd h (by show ¬ 0 < 0; omega), fun ⟨i, h, _⟩ => absurd h (by omega)⟩
  | n + 1 => by
    constructor
    · intro h
      by_cases e : f n = true
      · exact ⟨n, by omega, e⟩
      · have h2 : 0 < cnt f n := by
          have h3 : cnt f (n + 1) = cnt f n := by show cnt f n + (if f n = true then 1 else 0) = cnt f n; rw [if_neg e, Nat.add_zero]
          omega
        obtain ⟨i, h3, h4⟩ := cnt_ex.mp h2
        exact ⟨i, by omega, h4⟩
    · rintro ⟨i, h1, h2⟩
      unfold cnt
      rcases Nat.lt_or_ge i n with q | q
      · have := cnt_ex.mpr ⟨i, q, h2⟩
        omega
      · obtain rfl : i = n := by omega
        rw [if_pos h2]; omega
theorem cv_ex {T : Nat → Nat} {v m n : Nat} : 0 < cv T v m n ↔ ∃ i, m ≤ i ∧ i < n ∧ T i = v := by
  unfold cv
  rw [cnt_ex]
  constructor
  · rintro ⟨i, h1, h2⟩
    have := of_decide_eq_true h2
    exact ⟨i, this.1, h1, this.2⟩
  · rintro ⟨i, h0, h1, h2⟩
    exact ⟨i, h1, decide_eq_true ⟨h0, h2⟩⟩
theorem cv_split {T : Nat → Nat} {v m n : Nat} (h : m < n) : cv T v m n = cv T v (m + 1) n + (if T m = v then 1 else 0) := by
  unfold cv
  by_cases e : T m = v
  · rw [if_pos e]
    refine cnt_one (b := m) h ?_ ?_ (fun i hi => ?_)
    · exact decide_eq_false (fun z => by omega)
    · exact decide_eq_true ⟨Nat.le_refl _, e⟩
    · rw [Bool.eq_iff_iff, decide_eq_true_eq, decide_eq_true_eq]
      constructor
      · rintro ⟨a, b⟩; exact ⟨by omega, b⟩
      · rintro ⟨a, b⟩; exact ⟨by omega, b⟩
  · rw [if_neg e, Nat.add_zero]
    refine cnt_congr (fun i _ => ?_)
    rw [Bool.eq_iff_iff, decide_eq_true_eq, decide_eq_true_eq]
    constructor
    · rintro ⟨a, b⟩
      refine ⟨?_, b⟩
      rcases Nat.eq_or_lt_of_le a with q | q
      · subst q; exact absurd b e
      · exact q
    · rintro ⟨a, b⟩; exact ⟨by omega, b⟩
theorem cv_congr {T T' : Nat → Nat} {v m n : Nat} (h : ∀ i, i < n → T i = T' i) : cv T v m n = cv T' v m n := cnt_congr (fun i hi => by rw [h i hi])
def sw (T : Nat → Nat) (i k : Nat) : Nat → Nat := fun q => if q = i then T k else if q = k then T i else T q
theorem cnt_sw {f : Nat → Bool} {i k n : Nat} (hi : i < n) (hk : k < n) : cnt (fun q => if q = i then f k else if q = k then f i else f q) n = cnt f n := by
  by_cases e : f i = f k
  · refine cnt_congr (fun q _ => ?_)
    by_cases e1 : q = i
    · rw [if_pos e1, e1, e]
    · rw [if_neg e1]
      by_cases e2 : q = k
      · rw [if_pos e2, e2, e]
      · rw [if_neg e2]
  · have hne : ¬ i = k := fun z => e (by rw [z])
    have gen : ∀ g : Nat → Bool, ∀ x y, x < n → y < n → ¬ x = y → g x = true → g y = false → cnt (fun q => if q = x then g y else if q = y then g x else g q) n = cnt g n := by
      intro g x y hx hy hxy h1 h2
      have a1 := cnt_one (f := fun q => if q = x then false else g q) (g := g) (b := x) (n := n) hx (if_pos rfl) h1 (fun q hq => (if_neg hq).symm)
      have a2 := cnt_one (f := fun q => if q = x then false else g q) (g := fun q => if q = x then g y else if q = y then g x else g q) (b := y) (n := n) hy (by show (if y = x then false else g y) = false; rw [if_neg (fun z => hxy z.symm), h2]) (by show (if y = x then g y else if y = y then g x else g y) = true; rw [if_neg (fun z => hxy z.symm), if_pos rfl, h1]) (fun q hq => by
        show (if q = x then g y else if q = y then g x else g q) = (if q = x then false else g q)
        by_cases e1 : q = x
        · rw [if_pos e1, if_pos e1, h2]
        · rw [if_neg e1, if_neg e1, if_neg hq])
      omega
    cases h1 : f i with
    | true =>
      have h2 : f k = false := by cases h : f k with
        | false => rfl
        | true => exact absurd (h1.trans h.symm) e
      rw [← gen f i k hi hk hne h1 h2]
      simp only [h1, h2]
    | false =>
      have h2 : f k = true := by cases h : f k with
        | true => rfl
        | false => exact absurd (h1.trans h.symm) e
      rw [← gen f k i hk hi (fun z => hne z.symm) h2 h1]
      refine cnt_congr (fun q _ => ?_)
      by_cases e1 : q = i
      · subst e1; simp [hne, h2]
      · by_cases e2 : q = k
        · subst e2; simp [e1, h1]
        · simp [e1, e2]
theorem cv_sw {T : Nat → Nat} {v m n i k : Nat} (hi : i < n) (hk : k < n) (hmi : m ≤ i) (hmk : m ≤ k) : cv (sw T i k) v m n = cv T v m n := by
  unfold cv
  rw [← cnt_sw (f := fun q => decide (m ≤ q ∧ T q = v)) hi hk]
  refine cnt_congr (fun q _ => ?_)
  unfold sw
  by_cases e1 : q = i
  · simp [e1, hmi, hmk]
  · by_cases e2 : q = k
    · subst e2; simp [e1, hmi, hmk]
    · simp [e1, e2]
def asc (T : Nat → Nat) (m n : Nat) : Prop := ∀ i, m ≤ i → i + 1 < n → T i ≤ T (i + 1)
def dsc (T : Nat → Nat) (m n : Nat) : Prop := ∀ i, m ≤ i → i + 1 < n → T (i + 1) ≤ T i
theorem asc.le {T : Nat → Nat} {m n p : Nat} (h : asc T m n) (hp : m ≤ p) : ∀ r, p + r < n → T p ≤ T (p + r)
  | 0, _ => Nat.le_refl _
  | r + 1, hr => Nat.le_trans (h.le hp r (by omega)) (h (p + r) (by omega) (by omega))
theorem dsc.le {T : Nat → Nat} {m n p : Nat} (h : dsc T m n) (hp : m ≤ p) : ∀ r, p + r < n → T (p + r) ≤ T p
  | 0, _ => Nat.le_refl _
  | r + 1, hr => Nat.le_trans (h (p + r) (by omega) (by omega)) (h.le hp r (by omega))
theorem asc.le' {T : Nat → Nat} {m n p q : Nat} (h : asc T m n) (hp : m ≤ p) (hpq : p ≤ q) (hq : q < n) : T p ≤ T q := by
  have := h.le hp (q - p) (by omega)
  rw [show p + (q - p) = q by omega] at this
  exact this
theorem dsc.le' {T : Nat → Nat} {m n p q : Nat} (h : dsc T m n) (hp : m ≤ p) (hpq : p ≤ q) (hq : q < n) : T q ≤ T p := by
  have := h.le hp (q - p) (by omega)
  rw [show p + (q - p) = q by omega] at this
  exact this
/-- the next order, where m is the place at which it turns -/
def nx (n m : Nat) (T T2 : Nat → Nat) : Prop := (∀ i, i < m → T2 i = T i) ∧ T m < T2 m ∧ (∀ q, m < q → q < n → T m < T q → T2 m ≤ T q) ∧ asc T2 (m + 1) n ∧ ∀ v b, b ≤ m → cv T2 v b n = cv T v b n
def sgs (T : Nat → Nat) (n : Nat) : Prop := ∀ i, i < n → isSg (T i)
theorem sgs_cv {T T2 : Nat → Nat} {n : Nat} (h : sgs T n) (e : ∀ v, cv T2 v 0 n = cv T v 0 n) : sgs T2 n := fun i hi => by
  have h1 : 0 < cv T2 (T2 i) 0 n := cv_ex.mpr ⟨i, Nat.zero_le _, hi, rfl⟩
  rw [e] at h1
  obtain ⟨q, _, h2, h3⟩ := cv_ex.mp h1
  rw [← h3]
  exact h q h2
theorem least_kind {c : Nat → Nat} : ∀ r k, (∃ q, k ≤ q ∧ q < k + r ∧ 0 < c q) → ∃ q, k ≤ q ∧ q < k + r ∧ 0 < c q ∧ ∀ x, k ≤ x → x < q → ¬ 0 < c x
  | 0, k, ⟨q, h1, h2, _⟩ => absurd h2 (by omega)
  | r + 1, k, ⟨q, h1, h2, h3⟩ => by
    by_cases e : 0 < c k
    · exact ⟨k, Nat.le_refl _, by omega, e, fun x h4 h5 => absurd h5 (by omega)⟩
    · have hq : ¬ q = k := fun z => e (by rw [← z]; exact h3)
      obtain ⟨p, a1, a2, a3, a4⟩ := least_kind r (k + 1) ⟨q, by omega, by omega, h3⟩
      refine ⟨p, by omega, by omega, a3, fun x h4 h5 => ?_⟩
      rcases Nat.eq_or_lt_of_le h4 with z | z
      · rw [← z]; exact e
      · exact a4 x z h5
theorem kfold_bd {σ : Type} {bd : σ → Nat} {step : Nat → σ → σ} {x : Nat} (h : ∀ q b, bd (step q b) ≤ bd b + x) {a : σ} : ∀ K, bd (kfold step K a) ≤ bd a + K * x
  | 0 => by show bd a ≤ _; omega
  | K + 1 => by
    show bd (step K (kfold step K a)) ≤ _
    have h1 := kfold_bd h (a := a) K
    have h2 := h K (kfold step K a)
    rw [Nat.add_mul, Nat.one_mul]
    omega
theorem dfs_bd {σ : Type} {bd : σ → Nat} {may : σ → (Nat → Nat) → Nat → Bool} {arr : σ → (Nat → Nat) → σ} (h : ∀ a S, bd (arr a S) ≤ bd a + 1) : ∀ j m S c a, bd (dfs may arr j m S c a) ≤ bd a + 7 ^ j
  | 0, m, S, c, a => h a S
  | j + 1, m, S, c, a => by
    unfold dfs
    rw [Nat.pow_succ, Nat.mul_comm]
    refine kfold_bd (bd := bd) (fun q b => ?_) 7
    split
    · exact dfs_bd h j _ _ _ b
    · exact Nat.le_add_right _ _
theorem perm_fold {σ : Type} {arr : σ → (Nat → Nat) → σ} {n : Nat} {C : Nat → Nat} {Hd Gn : (Nat → Nat) → σ → Prop} (bd : σ → Nat) (B : Nat) (hbd : ∀ a S, bd (arr a S) ≤ bd a + 1)
    (h1 : ∀ T S a, bd a + 1 ≤ B → (∀ i, i < n → T i = S i) → (∀ v, cv T v 0 n = C v) → sgs T n → Gn T (arr a S) → Hd T a)
    (h2 : ∀ T a m, m + 1 < n → T m < T (m + 1) → dsc T (m + 1) n → (∀ v, cv T v 0 n = C v) → sgs T n → (∀ T2, nx n m T T2 → Hd T2 a) → Gn T a) :
    ∀ j m, m + j = n → ∀ T S c a, (∀ i, i < m → T i = S i) → (∀ k, k < 7 → cv T (kc k) m n = c k) → (∀ v, cv T v 0 n = C v) → sgs T n → asc T m n → bd a + 7 ^ j ≤ B →
      (∀ T1, (∀ i, i < m → T1 i = S i) → (∀ k, k < 7 → cv T1 (kc k) m n = c k) → (∀ v, cv T1 v 0 n = C v) → sgs T1 n → dsc T1 m n → Gn T1 (dfs noM arr j m S c a)) → Hd T a := by
  intro j
  induction j with
  | zero =>
    intro m hm T S c a hS hc hC hg ha hB hF
    obtain rfl : m = n := by omega
    exact h1 T S a (by rw [Nat.pow_zero] at hB; exact hB) hS hC hg (hF T hS hc hC hg (fun i h3 h4 => absurd h4 (by omega)))
  | succ j ih =>
    intro m hm T S c a hS hc hC hg ha hB hF
    have hmn : m < n := by omega
    let step : Nat → σ → σ := fun k b => if 0 < c k ∧ noM b (apS S m (kc k)) m = true then dfs noM arr j (m + 1) (apS S m (kc k)) (apS c k (c k - 1)) b else b
    have hid : ∀ q b, ¬ 0 < c q → step q b = b := fun q b h => if_neg (fun z => h z.1)
    have hdo : ∀ q b, 0 < c q → step q b = dfs noM arr j (m + 1) (apS S m (kc q)) (apS c q (c q - 1)) b := fun q b h => if_pos ⟨h, rfl⟩
    have hsb : ∀ q b, bd (step q b) ≤ bd b + 7 ^ j := fun q b => by
      show bd (if _ then _ else _) ≤ _
      split
      · exact dfs_bd hbd j _ _ _ b
      · exact Nat.le_add_right _ _
    have h77 : 7 ^ (j + 1) = 7 * 7 ^ j := by rw [Nat.pow_succ, Nat.mul_comm]
    have hdfs : dfs noM arr (j + 1) m S c a = kfold step 7 a := rfl
    have cnts : ∀ (U : Nat → Nat) (k : Nat), k < 7 → U m = kc k → ((∀ x, x < 7 → cv U (kc x) m n = c x) ↔ (0 < c k ∧ ∀ x, x < 7 → cv U (kc x) (m + 1) n = apS c k (c k - 1) x)) := by
      intro U k hk hU
      constructor
      · intro h
        have h0 := h k hk
        rw [cv_split hmn, if_pos hU] at h0
        refine ⟨by omega, fun x hx => ?_⟩
        have h3 := h x hx
        rw [cv_split hmn] at h3
        by_cases e : x = k
        · subst e
          rw [apS_at]
          rw [if_pos hU] at h3
          omega
        · rw [apS_ne e]
          rw [if_neg (fun z => e (kc_eq hx hk (z.symm.trans hU)))] at h3
          omega
      · rintro ⟨h0, h⟩ x hx
        have h3 := h x hx
        rw [cv_split hmn]
        by_cases e : x = k
        · subst e
          rw [apS_at] at h3
          rw [if_pos hU]
          omega
        · rw [apS_ne e] at h3
          rw [if_neg (fun z => e (kc_eq hx hk (z.symm.trans hU)))]
          omega
    have inn : ∀ r k, k + r = 7 → k < 7 → ∀ T1 a1, (∀ i, i < m → T1 i = S i) → (∀ x, x < 7 → cv T1 (kc x) m n = c x) → (∀ v, cv T1 v 0 n = C v) → sgs T1 n → T1 m = kc k → dsc T1 (m + 1) n → a1 = kfold step (k + 1) a → Gn T1 a1 := by
      intro r
      induction r using Nat.strongRecOn with
      | ind r ihr =>
        intro k hkr hk T1 a1 b1 b2 b3 b4 b5 b6 b7
        by_cases ex : ∃ q, k + 1 ≤ q ∧ q < 7 ∧ 0 < c q
        · obtain ⟨q0, hq0⟩ := ex
          obtain ⟨k1, e1, e2, e3, e4⟩ := least_kind (c := c) (7 - (k + 1)) (k + 1) ⟨q0, hq0.1, by omega, hq0.2.2⟩
          have hk1 : k1 < 7 := by omega
          have hkk : kc k < kc k1 := (kc_lt k hk k1 hk1).mpr (by omega)
          have hpos : 0 < cv T1 (kc k1) m n := by rw [b2 k1 hk1]; exact e3
          obtain ⟨q, f1, f2, f3⟩ := cv_ex.mp hpos
          have hqm : m + 1 ≤ q := by
            rcases Nat.eq_or_lt_of_le f1 with z | z
            · rw [← z, b5] at f3; omega
            · exact z
          have hup : T1 m < T1 (m + 1) := by
            have := b6.le' (Nat.le_refl _) hqm f2
            omega
          refine h2 T1 a1 m (by omega) hup b6 b3 b4 (fun T2 hn => ?_)
          obtain ⟨n1, n2, n3, n4, n5⟩ := hn
          have hC2 : ∀ v, cv T2 v 0 n = C v := fun v => by rw [n5 v 0 (by omega), b3]
          have hg2 : sgs T2 n := sgs_cv b4 (fun v => n5 v 0 (by omega))
          obtain ⟨k2, g1, g2, -⟩ := kc_sg (hg2 m hmn)
          have hle : kc k2 ≤ kc k1 := by
            have := n3 q (by omega) f2 (by omega)
            rw [g2, f3] at this
            exact this
          have hgt : kc k < kc k2 := by rw [← b5, ← g2]; exact n2
          have hkk2 : k < k2 := (kc_lt k hk k2 g1).mp hgt
          have hc2 : ∀ x, x < 7 → cv T2 (kc x) m n = c x := fun x hx => by rw [n5 _ m (Nat.le_refl _)]; exact b2 x hx
          have hc2p : 0 < c k2 := by
            rw [← hc2 k2 g1]
            exact cv_ex.mpr ⟨m, Nat.le_refl _, hmn, g2⟩
          have hk12 : k2 = k1 := by
            rcases Nat.lt_or_ge k2 k1 with z | z
            · exact absurd hc2p (e4 k2 (by omega) z)
            · have := (kc_lt k1 hk1 k2 g1)
              omega
          subst hk12
          have cc := (cnts T2 k2 g1 g2).mp hc2
          have hB1 : bd a1 + 7 ^ j ≤ B := by
            have q1 := kfold_bd (bd := bd) hsb (a := a) (k + 1)
            have q2 : (k + 1) * 7 ^ j + 7 ^ j ≤ 7 * 7 ^ j := by
              have := Nat.mul_le_mul_right (7 ^ j) (show k + 2 ≤ 7 by omega)
              rw [show k + 2 = (k + 1) + 1 by omega, Nat.add_mul, Nat.one_mul] at this
              exact this
            rw [← b7] at q1
            omega
          refine ih (m + 1) (by omega) T2 (apS S m (kc k2)) (apS c k2 (c k2 - 1)) a1 (fun i hi => ?_) cc.2 hC2 hg2 n4 hB1 (fun T3 d1 d2 d3 d4 d5 => ?_)
          · by_cases z : i = m
            · rw [z, apS_at]; exact g2
            · rw [apS_ne z, n1 i (by omega), b1 i (by omega)]
          · have hT3m : T3 m = kc k2 := by rw [d1 m (by omega), apS_at]
            refine ihr (7 - k2) (by omega) k2 (by omega) g1 T3 _ (fun i hi => by rw [d1 i (by omega), apS_ne (by omega)]) ((cnts T3 k2 g1 hT3m).mpr ⟨hc2p, d2⟩) d3 d4 hT3m d5 ?_
            show _ = step k2 (kfold step k2 a)
            rw [hdo k2 _ hc2p, kfold_skipTo (k := k + 1) (n := k2) (by omega) (fun q b z1 z2 => hid q b (e4 q z1 z2)), ← b7]
        · have e7 : kfold step 7 a = kfold step (k + 1) a := kfold_skipTo (by omega) (fun q b z1 z2 => hid q b (fun z => ex ⟨q, z1, z2, z⟩))
          rw [b7, ← e7, ← hdfs]
          refine hF T1 b1 b2 b3 b4 (fun i z1 z2 => ?_)
          rcases Nat.eq_or_lt_of_le z1 with z | z
          · subst z
            obtain ⟨k2, g1, g2, -⟩ := kc_sg (b4 (m + 1) z2)
            have hp : 0 < c k2 := by
              rw [← b2 k2 g1]
              exact cv_ex.mpr ⟨m + 1, by omega, z2, g2⟩
            rw [b5, g2]
            rcases Nat.lt_or_ge k k2 with y | y
            · exact absurd ⟨k2, y, g1, hp⟩ ex
            · have := kc_lt k hk k2 g1
              omega
          · exact b6 i (by omega) z2
    obtain ⟨k0, g1, g2, -⟩ := kc_sg (hg m hmn)
    have cc := (cnts T k0 g1 g2).mp hc
    have hz : ∀ q, q < k0 → ¬ 0 < c q := fun q hq hp => by
      rw [← hc q (by omega)] at hp
      obtain ⟨i, f1, f2, f3⟩ := cv_ex.mp hp
      have := ha.le' (Nat.le_refl _) f1 f2
      rw [f3, g2] at this
      have := kc_lt q (by omega) k0 g1
      omega
    refine ih (m + 1) (by omega) T (apS S m (kc k0)) (apS c k0 (c k0 - 1)) a (fun i hi => ?_) cc.2 hC hg (fun i z1 z2 => ha i (by omega) z2) (by omega) (fun T3 d1 d2 d3 d4 d5 => ?_)
    · by_cases z : i = m
      · rw [z, apS_at]; exact g2
      · rw [apS_ne z, hS i (by omega)]
    · have hT3m : T3 m = kc k0 := by rw [d1 m (by omega), apS_at]
      refine inn (7 - k0) k0 (by omega) g1 T3 _ (fun i hi => by rw [d1 i (by omega), apS_ne (by omega)]) ((cnts T3 k0 g1 hT3m).mpr ⟨cc.1, d2⟩) d3 d4 hT3m d5 ?_
      show _ = step k0 (kfold step k0 a)
      rw [hdo k0 _ cc.1, kfold_id k0 (fun q z => hid q a (hz q z))]
