/-! what a state IS: a parish's numbers, the sermon's signs, the images -/
abbrev PC : Type := Nat → Nat → Nat
def isP (μ : VS) (p : Nat) (P : PC) : Prop := (∀ k, k < 7 → μ.1 p k = nI (P 0 k)) ∧ ∀ j, j < 6 → ∀ k, k < 8 → μ.1 (p + 1 + j) k = nI (P (j + 1) k)
/-- where the reference keeps the numbers of a parish -/
def mF (k : Nat) : Nat := match k with
  | 0 => 0
  | 1 => 7
  | 2 => 8
  | 3 => 9
  | 4 => 1
  | 5 => 6
  | _ => 10
def isM (μ : VS) (P : PC) : Prop := (∀ k, k < 7 → μ.1 69 (mF k) = nI (P 0 k)) ∧ (∀ j, j < 4 → ∀ h, h < 8 → μ.1 (70 + j) h = nI (P (j + 1) h)) ∧ ∀ i, i < 8 → μ.1 74 (2 * i) = nI (P 5 i) ∧ μ.1 74 (2 * i + 1) = nI (P 6 i)
/-- where the reference keeps them in an image -/
def iF (k : Nat) : Nat := match k with
  | 0 => 50
  | 1 => 53
  | 2 => 54
  | 3 => 55
  | 4 => 51
  | 5 => 52
  | _ => 56
def isI (μ : VS) (n : Nat) (P : PC) : Prop := (∀ k, k < 7 → μ.1 85 (70 * n + iF k) = nI (P 0 k)) ∧ (∀ j, j < 4 → ∀ h, h < 8 → μ.1 85 (70 * n + 8 * j + h) = nI (P (j + 1) h)) ∧ ∀ i, i < 8 → μ.1 85 (70 * n + 32 + 2 * i) = nI (P 5 i) ∧ μ.1 85 (70 * n + 32 + (2 * i + 1)) = nI (P 6 i)
def pPres (P : PC) (h : Nat) : Bool := (P 0 4).testBit h
def pUpr (P : PC) (h : Nat) : Bool := (P 0 5).testBit h
def okP (P : PC) : Prop := (1 ≤ P 0 0 ∧ P 0 0 ≤ 3) ∧ (1 ≤ P 0 1 ∧ P 0 1 ≤ 9) ∧ P 0 2 ≤ 9 ∧ P 0 3 ≤ 2 ∧ P 0 4 < 256 ∧ P 0 5 < 256 ∧ P 0 6 ≤ 8 ∧
  (∀ h, h < 8 → P 1 h < 12 ∧ P 2 h ≤ 20 ∧ P 3 h ≤ 5 ∧ P 4 h ≤ 1) ∧ (∀ i, i < 8 → P 5 i < 60 ∧ P 6 i ≤ 8) ∧
  (∀ h, h < 8 → pPres P h = true → P 1 h < 4 * P 0 0) ∧ ∀ h, h < 8 → ∀ g, g < 8 → pPres P h = true → pPres P g = true → P 1 h = P 1 g → h = g
def isPad (μ : VS) (L : Nat) (S : Nat → Nat) : Prop := μ.1 31 1 = nI L ∧ ∀ i, i < L → μ.1 32 i = nI (S i)
def isPadM (μ : VS) (L : Nat) (S : Nat → Nat) : Prop := μ.1 69 12 = nI L ∧ ∀ i, i < L → μ.1 75 i = nI (S i)
def okPad (L : Nat) (S : Nat → Nat) : Prop := L ≤ 60 ∧ ∀ i, i < L → 33 ≤ S i ∧ S i ≤ 126
def RC (μ : VS) (P : PC) (L : Nat) (S κ : Nat → Nat) (I : Nat → PC) : Prop := isP μ 1 P ∧ isPad μ L S ∧ ∀ n, n < 2 → μ.1 30 n = nI (κ n) ∧ (κ n = 1 → isP μ (16 + 7 * n) (I n))
def RM (μ : VS) (P : PC) (L : Nat) (S κ : Nat → Nat) (I : Nat → PC) : Prop := isM μ P ∧ isPadM μ L S ∧ ∀ n, n < 2 → μ.1 86 n = nI (κ n) ∧ (κ n = 1 → isI μ n (I n))
def okS (P : PC) (L : Nat) (S κ : Nat → Nat) (I : Nat → PC) : Prop := okP P ∧ okPad L S ∧ ∀ n, n < 2 → κ n ≤ 1 ∧ (κ n = 1 → okP (I n))
/-- the reference's cells stay; the other one's cells stay -/
def keepM (μ μ' : VS) : Prop := ∀ a, 69 ≤ a → μ'.1 a = μ.1 a
def keepC (μ μ' : VS) : Prop := ∀ a, a < 69 → μ'.1 a = μ.1 a
theorem keepM.rf (μ : VS) : keepM μ μ := fun _ _ => rfl
theorem keepC.rf (μ : VS) : keepC μ μ := fun _ _ => rfl
theorem keepM.tr {a b c : VS} (h : keepM a b) (g : keepM b c) : keepM a c := fun x hx => (g x hx).trans (h x hx)
theorem keepC.tr {a b c : VS} (h : keepC a b) (g : keepC b c) : keepC a c := fun x hx => (g x hx).trans (h x hx)
theorem keepM.put {μ : VS} {i k : Nat} {x : Int32} (h : i < 69) : keepM μ (vup μ.1 i k x, μ.2) := fun a ha => vup_row _ _ _ (by omega)
theorem keepC.put {μ : VS} {i k : Nat} {x : Int32} (h : 69 ≤ i) : keepC μ (vup μ.1 i k x, μ.2) := fun a ha => vup_row _ _ _ (by omega)
theorem keepM.row {μ : VS} {i : Nat} {g : Nat → Int32} (h : i < 69) : keepM μ (vrow μ.1 i g, μ.2) := fun a ha => by
  have : a ≠ i := by omega
  simp [vrow, this]
theorem vup_get {α : Type} (f : Nat → Nat → α) (i k a b : Nat) (x : α) : vup f i k x a b = if a = i ∧ b = k then x else f a b := by
  unfold vup
  by_cases h1 : a = i
  · by_cases h2 : b = k
    · simp [h1, h2]
    · simp [h1, h2]
  · simp [h1]
theorem isP.congr {μ : VS} {p : Nat} {P P' : PC} (h : isP μ p P) (e : ∀ a b, P a b = P' a b) : isP μ p P' := ⟨fun k hk => by rw [h.1 k hk, e], fun j hj k hk => by rw [h.2 j hj k hk, e]⟩
theorem isM.congr {μ : VS} {P P' : PC} (h : isM μ P) (e : ∀ a b, P a b = P' a b) : isM μ P' := ⟨fun k hk => by rw [h.1 k hk, e], fun j hj k hk => by rw [h.2.1 j hj k hk, e], fun i hi => ⟨by rw [(h.2.2 i hi).1, e], by rw [(h.2.2 i hi).2, e]⟩⟩
theorem isP.frame {μ μ' : VS} {p : Nat} {P : PC} (h : isP μ p P) (e : ∀ j, j < 7 → μ'.1 (p + j) = μ.1 (p + j)) : isP μ' p P := ⟨fun k hk => by have := e 0 (by omega); simp only [Nat.add_zero] at this; rw [this]; exact h.1 k hk, fun j hj k hk => by have := e (1 + j) (by omega); rw [← Nat.add_assoc] at this; rw [this]; exact h.2 j hj k hk⟩
theorem isP.put {μ : VS} {p : Nat} {P : PC} (h : isP μ p P) {k : Nat} (v : Nat) : isP (vup μ.1 p k (nI v), μ.2) p (vup P 0 k v) := by
  refine ⟨fun q hq => ?_, fun j hj q hq => ?_⟩
  · show vup μ.1 p k (nI v) p q = nI (vup P 0 k v 0 q)
    rw [vup_get, vup_get]
    by_cases e : q = k
    · simp [e]
    · simp only [e, and_false, if_false]; exact h.1 q hq
  · show vup μ.1 p k (nI v) (p + 1 + j) q = nI (vup P 0 k v (j + 1) q)
    rw [vup_get, vup_get]
    have e1 : ¬ p + 1 + j = p := by omega
    have e2 : ¬ j + 1 = 0 := by omega
    simp only [e1, e2, false_and, if_false]
    exact h.2 j hj q hq
theorem isP.arr {μ : VS} {p : Nat} {P : PC} (h : isP μ p P) {j k : Nat} (hj : j < 6) (v : Nat) : isP (vup μ.1 (p + 1 + j) k (nI v), μ.2) p (vup P (j + 1) k v) := by
  refine ⟨fun q hq => ?_, fun i hi q hq => ?_⟩
  · show vup μ.1 (p + 1 + j) k (nI v) p q = nI (vup P (j + 1) k v 0 q)
    rw [vup_get, vup_get]
    have e1 : ¬ p = p + 1 + j := by omega
    have e2 : ¬ 0 = j + 1 := by omega
    simp only [e1, e2, false_and, if_false]
    exact h.1 q hq
  · show vup μ.1 (p + 1 + j) k (nI v) (p + 1 + i) q = nI (vup P (j + 1) k v (i + 1) q)
    rw [vup_get, vup_get]
    by_cases e1 : i = j
    · by_cases e2 : q = k
      · simp [e1, e2]
      · simp only [e2, and_false, if_false]; exact h.2 i hi q hq
    · have e3 : ¬ p + 1 + i = p + 1 + j := by omega
      have e4 : ¬ i + 1 = j + 1 := by omega
      simp only [e3, e4, false_and, if_false]
      exact h.2 i hi q hq
theorem mF_inj : ∀ a, a < 7 → ∀ b, b < 7 → mF a = mF b → a = b := by decide
theorem isM.put {μ : VS} {P : PC} (h : isM μ P) {k : Nat} (hk : k < 7) (v : Nat) : isM (vup μ.1 69 (mF k) (nI v), μ.2) (vup P 0 k v) := by
  refine ⟨fun q hq => ?_, fun j hj q hq => ?_, fun i hi => ?_⟩
  · show vup μ.1 69 (mF k) (nI v) 69 (mF q) = nI (vup P 0 k v 0 q)
    rw [vup_get, vup_get]
    by_cases e : q = k
    · simp [e]
    · have e2 : ¬ mF q = mF k := fun z => e (mF_inj q hq k hk z)
      simp only [e, e2, and_false, if_false]; exact h.1 q hq
  · show vup μ.1 69 (mF k) (nI v) (70 + j) q = nI (vup P 0 k v (j + 1) q)
    rw [vup_get, vup_get]
    have e1 : ¬ 70 + j = 69 := by omega
    have e2 : ¬ j + 1 = 0 := by omega
    simp only [e1, e2, false_and, if_false]
    exact h.2.1 j hj q hq
  · exact h.2.2 i hi
theorem isM.arr {μ : VS} {P : PC} (h : isM μ P) {j k : Nat} (hj : j < 4) (v : Nat) : isM (vup μ.1 (70 + j) k (nI v), μ.2) (vup P (j + 1) k v) := by
  refine ⟨fun q hq => ?_, fun i hi q hq => ?_, fun i hi => ?_⟩
  · show vup μ.1 (70 + j) k (nI v) 69 (mF q) = nI (vup P (j + 1) k v 0 q)
    rw [vup_get, vup_get]
    have e1 : ¬ 69 = 70 + j := by omega
    have e2 : ¬ 0 = j + 1 := by omega
    simp only [e1, e2, false_and, if_false]
    exact h.1 q hq
  · show vup μ.1 (70 + j) k (nI v) (70 + i) q = nI (vup P (j + 1) k v (i + 1) q)
    rw [vup_get, vup_get]
    by_cases e1 : i = j
    · by_cases e2 : q = k
      · simp [e1, e2]
      · simp only [e2, and_false, if_false]; exact h.2.1 i hi q hq
    · have e3 : ¬ 70 + i = 70 + j := by omega
      have e4 : ¬ i + 1 = j + 1 := by omega
      simp only [e3, e4, false_and, if_false]
      exact h.2.1 i hi q hq
  · have g := h.2.2 i hi
    have e3 : ¬ 74 = 70 + j := by omega
    have e4 : ¬ 5 = j + 1 := by omega
    have e5 : ¬ 6 = j + 1 := by omega
    show vup μ.1 (70 + j) k (nI v) 74 _ = nI (vup P (j + 1) k v 5 i) ∧ vup μ.1 (70 + j) k (nI v) 74 _ = nI (vup P (j + 1) k v 6 i)
    rw [vup_get, vup_get, vup_get, vup_get]
    simp only [e3, e4, e5, false_and, if_false]
    exact g
theorem isM.sight0 {μ : VS} {P : PC} (h : isM μ P) (k v : Nat) : isM (vup μ.1 74 (2 * k) (nI v), μ.2) (vup P 5 k v) := by
  refine ⟨fun q hq => ?_, fun j hj q hq => ?_, fun i hi => ?_⟩
  · exact h.1 q hq
  · show vup μ.1 74 (2 * k) (nI v) (70 + j) q = nI (vup P 5 k v (j + 1) q)
    rw [vup_get, vup_get]
    have e1 : ¬ 70 + j = 74 := by omega
    have e2 : ¬ j + 1 = 5 := by omega
    simp only [e1, e2, false_and, if_false]
    exact h.2.1 j hj q hq
  · have g := h.2.2 i hi
    show vup μ.1 74 (2 * k) (nI v) 74 (2 * i) = nI (vup P 5 k v 5 i) ∧ vup μ.1 74 (2 * k) (nI v) 74 (2 * i + 1) = nI (vup P 5 k v 6 i)
    rw [vup_get, vup_get, vup_get, vup_get]
    have e1 : ¬ 2 * i + 1 = 2 * k := by omega
    refine ⟨?_, by simp only [e1, and_false, false_and, if_false, (by decide : ¬ 6 = 5)]; exact g.2⟩
    by_cases e : i = k
    · simp [e]
    · have e2 : ¬ 2 * i = 2 * k := by omega
      simp only [e, e2, and_false, if_false]
      exact g.1
theorem isM.sight1 {μ : VS} {P : PC} (h : isM μ P) (k v : Nat) : isM (vup μ.1 74 (2 * k + 1) (nI v), μ.2) (vup P 6 k v) := by
  refine ⟨fun q hq => ?_, fun j hj q hq => ?_, fun i hi => ?_⟩
  · exact h.1 q hq
  · show vup μ.1 74 (2 * k + 1) (nI v) (70 + j) q = nI (vup P 6 k v (j + 1) q)
    rw [vup_get, vup_get]
    have e1 : ¬ 70 + j = 74 := by omega
    have e2 : ¬ j + 1 = 6 := by omega
    simp only [e1, e2, false_and, if_false]
    exact h.2.1 j hj q hq
  · have g := h.2.2 i hi
    show vup μ.1 74 (2 * k + 1) (nI v) 74 (2 * i) = nI (vup P 6 k v 5 i) ∧ vup μ.1 74 (2 * k + 1) (nI v) 74 (2 * i + 1) = nI (vup P 6 k v 6 i)
    rw [vup_get, vup_get, vup_get, vup_get]
    have e1 : ¬ 2 * i = 2 * k + 1 := by omega
    refine ⟨by simp only [e1, and_false, false_and, if_false, (by decide : ¬ 5 = 6)]; exact g.1, ?_⟩
    by_cases e : i = k
    · simp [e]
    · have e2 : ¬ 2 * i + 1 = 2 * k + 1 := by omega
      simp only [e, e2, and_false, if_false]
      exact g.2
/-- an argument that a check let through is a natural -/
theorem nat_of_in {v : Int32} {a b : Nat} (ha : a < 2 ^ 31) (hb : b < 2 ^ 31) (h : nI a ≤ v ∧ v ≤ nI b) : ∃ j, a ≤ j ∧ j ≤ b ∧ v = nI j := by
  have h0 : ¬ v < 0 := Int32.not_lt.mpr (Int32.le_trans (nI_pos' ha) h.1)
  obtain ⟨j, hj, rfl⟩ := nI_of h0
  exact ⟨j, (nI_leI ha hj).mp h.1, (nI_leI hj hb).mp h.2, rfl⟩
theorem in_of_nat {j a b : Nat} (hb : b < 2 ^ 31) (h1 : a ≤ j) (h2 : j ≤ b) : nI a ≤ nI j ∧ nI j ≤ nI b := ⟨nI_le h1 (by omega), nI_le h2 hb⟩
theorem out_iff_in {v lo hi : Int32} : (v < lo ∨ hi < v) ↔ ¬ (lo ≤ v ∧ v ≤ hi) := by
  constructor
  · rintro (h | h) ⟨h1, h2⟩
    · exact absurd h1 (Int32.not_le.mpr h)
    · exact absurd h2 (Int32.not_le.mpr h)
  · intro h
    by_cases h1 : v < lo
    · exact Or.inl h1
    · by_cases h2 : hi < v
      · exact Or.inr h2
      · exact absurd ⟨Int32.not_lt.mp h1, Int32.not_lt.mp h2⟩ h
theorem nat_of_out {v : Int32} {a b : Nat} (ha : a < 2 ^ 31) (hb : b < 2 ^ 31) (h : ¬ (v < nI a ∨ nI b < v)) : ∃ j, a ≤ j ∧ j ≤ b ∧ v = nI j :=
  nat_of_in ha hb (Decidable.not_not.mp (fun z => h (out_iff_in.mpr z)))
abbrev inZ (v : Int32) (a b : Nat) : Prop := nI a ≤ v ∧ v ≤ nI b
/-- present, as a number that comes from outside is asked -/
abbrev thr (P : PC) (h : Int32) : Prop := inZ h 0 7 ∧ pPres P h.toNatClampNeg = true
theorem thr_nat {P : PC} {h : Int32} (c : thr P h) : ∃ j, j < 8 ∧ h = nI j ∧ pPres P j = true := by
  obtain ⟨j, -, h2, rfl⟩ := nat_of_in (by decide) (by decide) c.1
  exact ⟨j, by omega, rfl, by have := c.2; rw [nI_clamp (by omega)] at this; exact this⟩
theorem thr_of {P : PC} {j : Nat} (hj : j < 8) (h : pPres P j = true) : thr P (nI j) := ⟨in_of_nat (by decide) (by omega) (by omega), by rw [nI_clamp (by omega)]; exact h⟩
theorem thr_not {P : PC} {j : Nat} (hj : j < 8) (h : ¬ pPres P j = true) : ¬ thr P (nI j) := fun c => h (by have := c.2; rw [nI_clamp (by omega)] at this; exact this)
/-- who sits in a seat, of the first k hearers the last one -/
def sitK (P : PC) (s : Nat) : Nat → Int32
  | 0 => -6
  | k + 1 => if pPres P k = true ∧ P 1 k = s then nI k else sitK P s k
def bitN (h : Nat) : Nat := 1 <<< h
def clrN (a h : Nat) : Nat := a &&& ((1 <<< h) ^^^ 4294967295)
/-! the calls that change or tell the state: what they answer, and the state behind them -/
def churchS (P : PC) (r : Int32) : Int32 × PC := if inZ r 1 3 then (nI (P 0 0), vup (vup (vup (vup (vup P 0 0 r.toNatClampNeg) 0 4 0) 0 5 0) 0 6 0) 0 3 0) else (-2, P)
def leaveS (P : PC) (h : Int32) : Int32 × PC := if thr P h then (nI (popN (clrN (P 0 4) h.toNatClampNeg) 8), vup (vup P 0 4 (clrN (P 0 4) h.toNatClampNeg)) 0 5 (clrN (P 0 5) h.toNatClampNeg)) else (-1, P)
def hearP (P : PC) (h s a dl c : Nat) (u : Bool) : PC := vup (vup (vup (vup (vup (vup P 0 4 (P 0 4 ||| 1 <<< h)) 1 h s) 2 h a) 3 h dl) 4 h c) 0 5 (if u then P 0 5 ||| 1 <<< h else clrN (P 0 5) h)
def hearerS (P : PC) (h s a dl c u : Int32) : Int32 × PC :=
  if inZ h 0 7 ∧ inZ s 0 (4 * P 0 0 - 1) then
    if inZ a 0 20 ∧ inZ dl 0 5 ∧ inZ c 0 1 then
      if sitK P s.toNatClampNeg 8 = -6 ∨ sitK P s.toNatClampNeg 8 = h then (nI (popN (P 0 4 ||| 1 <<< h.toNatClampNeg) 8), hearP P h.toNatClampNeg s.toNatClampNeg a.toNatClampNeg dl.toNatClampNeg c.toNatClampNeg (decide (¬ u = 0)))
      else (-3, P)
    else (-2, P)
  else (-1, P)
def setS (P : PC) (w v : Int32) : Int32 × PC :=
  if w = 0 then (if inZ v 1 9 then (nI (P 0 1), vup P 0 1 v.toNatClampNeg) else (-2, P))
  else if w = 1 then (if inZ v 0 9 then (nI (P 0 2), vup P 0 2 v.toNatClampNeg) else (-2, P))
  else if w = 2 then (if inZ v 0 2 then (nI (P 0 3), vup P 0 3 v.toNatClampNeg) else (-2, P))
  else (-2, P)
def sayS (L : Nat) (S : Nat → Nat) (v : Int32) : Int32 × Nat × (Nat → Nat) :=
  if inZ v 33 126 then (if L = 60 then (-4, L, S) else (nI (L + 1), L + 1, fun i => if i = L then v.toNatClampNeg else S i)) else (-2, L, S)
def seenS (P : PC) (m k : Int32) : Int32 × PC :=
  if inZ m 0 59 ∧ inZ k 0 8 then (if P 0 6 = 8 then (-4, P) else (nI (P 0 6 + 1), vup (vup (vup P 5 (P 0 6) m.toNatClampNeg) 6 (P 0 6) k.toNatClampNeg) 0 6 (P 0 6 + 1))) else (-2, P)
def toldS (P : PC) (L : Nat) (w : Int32) : Int32 :=
  if w = nI 0 then nI L else if w = nI 1 then nI (P 0 0) else if w = nI 2 then nI (P 0 4) else if w = nI 3 then nI (P 0 1) else if w = nI 4 then nI (P 0 2) else if w = nI 5 then nI (P 0 3) else if w = nI 6 then nI (P 0 6)
  else if nI 10 ≤ w then
    (if thr P (w / nI 10 - nI 1) then
      (if w - w / nI 10 * nI 10 = nI 0 then nI (P 1 (w / nI 10 - nI 1).toNatClampNeg) else if w - w / nI 10 * nI 10 = nI 1 then nI (P 2 (w / nI 10 - nI 1).toNatClampNeg) else if w - w / nI 10 * nI 10 = nI 2 then nI (P 3 (w / nI 10 - nI 1).toNatClampNeg) else if w - w / nI 10 * nI 10 = nI 3 then nI (P 4 (w / nI 10 - nI 1).toNatClampNeg) else if w - w / nI 10 * nI 10 = nI 4 then bI (pUpr P (w / nI 10 - nI 1).toNatClampNeg = true) else -2)
    else -2) else -2
theorem RM.put {μ : VS} {P : PC} {L : Nat} {S κ : Nat → Nat} {I : Nat → PC} (h : RM μ P L S κ I) (k : Nat) (hk : k < 7) (v : Nat) : RM (vup μ.1 69 (mF k) (nI v), μ.2) (vup P 0 k v) L S κ I := by
  refine ⟨h.1.put hk v, ⟨?_, h.2.1.2⟩, h.2.2⟩
  show vup μ.1 69 (mF k) (nI v) 69 12 = nI L
  have e : ¬ 12 = mF k := (by decide : ∀ k, k < 7 → ¬ 12 = mF k) k hk
  rw [vup_get]
  simp only [e, and_false, if_false]
  exact h.2.1.1
theorem RM.arr {μ : VS} {P : PC} {L : Nat} {S κ : Nat → Nat} {I : Nat → PC} (h : RM μ P L S κ I) (j : Nat) (hj : j < 4) (k v : Nat) : RM (vup μ.1 (70 + j) k (nI v), μ.2) (vup P (j + 1) k v) L S κ I := by
  have e : ∀ a, a ≠ 70 + j → (vup μ.1 (70 + j) k (nI v), μ.2).1 a = μ.1 a := fun a ha => vup_row _ _ _ ha
  refine ⟨h.1.arr hj v, ⟨?_, fun i hi => ?_⟩, fun n hn => ⟨?_, fun hκ => ?_⟩⟩
  · rw [e 69 (by omega)]; exact h.2.1.1
  · rw [e 75 (by omega)]; exact h.2.1.2 i hi
  · rw [e 86 (by omega)]; exact (h.2.2 n hn).1
  · have g := (h.2.2 n hn).2 hκ
    unfold isI
    rw [e 85 (by omega)]
    exact g
theorem RM.sights {μ : VS} {P : PC} {L : Nat} {S κ : Nat → Nat} {I : Nat → PC} (h : RM μ P L S κ I) (k v u : Nat) : RM (vup (vup μ.1 74 (2 * k) (nI v)) 74 (2 * k + 1) (nI u), μ.2) (vup (vup P 5 k v) 6 k u) L S κ I :=
  ⟨(h.1.sight0 k v).sight1 k u, h.2.1, h.2.2⟩
theorem RM.congr {μ : VS} {P P' : PC} {L : Nat} {S κ : Nat → Nat} {I : Nat → PC} (h : RM μ P L S κ I) (e : ∀ a b, P a b = P' a b) : RM μ P' L S κ I := ⟨h.1.congr e, h.2⟩
theorem RC.congr {μ : VS} {P P' : PC} {L : Nat} {S κ : Nat → Nat} {I : Nat → PC} (h : RC μ P L S κ I) (e : ∀ a b, P a b = P' a b) : RC μ P' L S κ I := ⟨h.1.congr e, h.2⟩
theorem RC.put {μ : VS} {P : PC} {L : Nat} {S κ : Nat → Nat} {I : Nat → PC} (h : RC μ P L S κ I) (k v : Nat) : RC (vup μ.1 1 k (nI v), μ.2) (vup P 0 k v) L S κ I :=
  ⟨h.1.put v, h.2.1, fun n hn => ⟨(h.2.2 n hn).1, fun hκ => ((h.2.2 n hn).2 hκ).frame (fun j hj => vup_row _ _ _ (by omega))⟩⟩
theorem RC.arr {μ : VS} {P : PC} {L : Nat} {S κ : Nat → Nat} {I : Nat → PC} (h : RC μ P L S κ I) (j : Nat) (hj : j < 6) (k v : Nat) : RC (vup μ.1 (1 + 1 + j) k (nI v), μ.2) (vup P (j + 1) k v) L S κ I := by
  have e : ∀ a, a ≠ 1 + 1 + j → (vup μ.1 (1 + 1 + j) k (nI v), μ.2).1 a = μ.1 a := fun a ha => vup_row _ _ _ ha
  refine ⟨h.1.arr hj v, ⟨?_, fun i hi => ?_⟩, fun n hn => ⟨?_, fun hκ => ((h.2.2 n hn).2 hκ).frame (fun j hj => e _ (by omega))⟩⟩
  · rw [e 31 (by omega)]; exact h.2.1.1
  · rw [e 32 (by omega)]; exact h.2.1.2 i hi
  · rw [e 30 (by omega)]; exact (h.2.2 n hn).1
