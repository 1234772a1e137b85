/-! the state stays in its bounds -/
theorem RC.kC {μ μ' : VS} {P : PC} {L : Nat} {S κ : Nat → Nat} {I : Nat → PC} (h : RC μ P L S κ I) (k : keepC μ μ') : RC μ' P L S κ I := h.frame (fun a ha => k a (by omega))
theorem RM.kM {μ μ' : VS} {P : PC} {L : Nat} {S κ : Nat → Nat} {I : Nat → PC} (h : RM μ P L S κ I) (k : keepM μ μ') : RM μ' P L S κ I := by
  refine ⟨⟨fun q hq => ?_, fun j hj q hq => ?_, fun i hi => ?_⟩, ⟨?_, fun i hi => ?_⟩, fun n hn => ⟨?_, fun hκ => ?_⟩⟩
  · rw [k 69 (by omega)]; exact h.1.1 q hq
  · rw [k (70 + j) (by omega)]; exact h.1.2.1 j hj q hq
  · rw [k 74 (by omega)]; exact h.1.2.2 i hi
  · rw [k 69 (by omega)]; exact h.2.1.1
  · rw [k 75 (by omega)]; exact h.2.1.2 i hi
  · rw [k 86 (by omega)]; exact (h.2.2 n hn).1
  · have g := (h.2.2 n hn).2 hκ
    unfold isI
    rw [k 85 (by omega)]
    exact g
theorem ok_bits {P : PC} (hok : okP P) {a b : Nat} (ha : a < 256) (hb : b < 256) (hs : ∀ h, a.testBit h = true → (P 0 4).testBit h = true) : okP (vup (vup P 0 4 a) 0 5 b) :=
  ⟨hok.1, hok.2.1, hok.2.2.1, hok.2.2.2.1, ha, hb, hok.2.2.2.2.2.2.1, hok.2.2.2.2.2.2.2.1, hok.2.2.2.2.2.2.2.2.1, fun h hh z => hok.2.2.2.2.2.2.2.2.2.1 h hh (hs h z), fun h hh g hg z1 z2 e => hok.2.2.2.2.2.2.2.2.2.2 h hh g hg (hs h z1) (hs g z2) e⟩
theorem ok_church {P : PC} (hok : okP P) {n : Int32} : okP (churchS P n).2 := by
  unfold churchS
  by_cases c : inZ n 1 3
  · rw [if_pos c]
    obtain ⟨j, h1, h2, rfl⟩ := nat_of_in (by decide) (by decide) c
    rw [nI_clamp (by omega)]
    have z : ∀ h, ¬ (0 : Nat).testBit h = true := fun h => by rw [Nat.zero_testBit]; decide
    exact ⟨⟨h1, h2⟩, hok.2.1, hok.2.2.1, (by decide : 0 ≤ 2), (by decide : 0 < 256), (by decide : 0 < 256), (by decide : 0 ≤ 8), hok.2.2.2.2.2.2.2.1, hok.2.2.2.2.2.2.2.2.1, fun h hh q => absurd q (z h), fun h hh g hg q => absurd q (z h)⟩
  · rw [if_neg c]; exact hok
theorem clr_bit {a j h : Nat} (q : (clrN a j).testBit h = true) : a.testBit h = true := by
  unfold clrN at q
  rw [Nat.testBit_and, Bool.and_eq_true] at q
  exact q.1
theorem clr_lt {a j : Nat} (h : a < 256) : clrN a j < 256 := Nat.lt_of_le_of_lt Nat.and_le_left h
theorem ok_leave {P : PC} (hok : okP P) {n : Int32} : okP (leaveS P n).2 := by
  unfold leaveS
  by_cases c : thr P n
  · rw [if_pos c]
    exact ok_bits hok (clr_lt hok.2.2.2.2.1) (clr_lt hok.2.2.2.2.2.1) (fun h q => clr_bit q)
  · rw [if_neg c]; exact hok
theorem ok_hearer {P : PC} (hok : okP P) {h_ s_ a_ e_ c_ u_ : Int32} : okP (hearerS P h_ s_ a_ e_ c_ u_).2 := by
  unfold hearerS
  by_cases c1 : inZ h_ 0 7 ∧ inZ s_ 0 (4 * P 0 0 - 1)
  · rw [if_pos c1]
    by_cases c2 : inZ a_ 0 20 ∧ inZ e_ 0 5 ∧ inZ c_ 0 1
    · rw [if_pos c2]
      by_cases c3 : sitK P s_.toNatClampNeg 8 = -6 ∨ sitK P s_.toNatClampNeg 8 = h_
      · rw [if_pos c3]
        have h00 := hok.1
        obtain ⟨h, -, hh, rfl⟩ := nat_of_in (by decide) (by decide) c1.1
        obtain ⟨s, -, hs, rfl⟩ := nat_of_in (by decide) (by omega) c1.2
        obtain ⟨a, -, ha, rfl⟩ := nat_of_in (by decide) (by decide) c2.1
        obtain ⟨e, -, he, rfl⟩ := nat_of_in (by decide) (by decide) c2.2.1
        obtain ⟨c, -, hc, rfl⟩ := nat_of_in (by decide) (by decide) c2.2.2
        rw [nI_clamp (show s < 2 ^ 31 by omega)] at c3
        dsimp only
        rw [nI_clamp (show h < 2 ^ 31 by omega), nI_clamp (show s < 2 ^ 31 by omega), nI_clamp (show a < 2 ^ 31 by omega), nI_clamp (show e < 2 ^ 31 by omega), nI_clamp (show c < 2 ^ 31 by omega)]
        generalize (decide (¬ u_ = 0)) = u
        have h18 : 1 <<< h < 256 := by rw [Nat.one_shiftLeft]; exact Nat.pow_lt_pow_right (n := 8) (by decide) (by omega)
        have or8 : ∀ x, x < 256 → x ||| 1 <<< h < 256 := fun x hx => Nat.or_lt_two_pow (n := 8) hx h18
        have pr : ∀ g, pPres (hearP P h s a e c u) g = (pPres P g || decide (h = g)) := fun g => bit_or1 _ _ _
        have r1 : ∀ g, hearP P h s a e c u 1 g = if g = h then s else P 1 g := fun g => by
          show (if g = h then s else P 1 g) = _
          rfl
        have r2 : ∀ g, hearP P h s a e c u 2 g = if g = h then a else P 2 g := fun g => rfl
        have r3 : ∀ g, hearP P h s a e c u 3 g = if g = h then e else P 3 g := fun g => rfl
        have r4 : ∀ g, hearP P h s a e c u 4 g = if g = h then c else P 4 g := fun g => rfl
        have uq : ∀ g, g < 8 → pPres P g = true → P 1 g = s → g = h := fun g hg z1 z2 => by
          have q := sitK_uniq (P := P) (s := s) (k := g) 8 hg z1 z2 (fun x hx y1 y2 => hok.2.2.2.2.2.2.2.2.2.2 x hx g hg y1 z1 (y2.trans z2.symm))
          rw [q] at c3
          rcases c3 with c3 | c3
          · exact absurd c3 (nI_n6 (by omega))
          · exact Nat.le_antisymm ((nI_leI (by omega) (by omega)).mp (by rw [c3]; exact Int32.le_refl _)) ((nI_leI (by omega) (by omega)).mp (by rw [c3]; exact Int32.le_refl _))
        have pg : ∀ g, g < 8 → pPres (hearP P h s a e c u) g = true → g = h ∨ pPres P g = true := fun g hg q => by
          rw [pr, Bool.or_eq_true, decide_eq_true_eq] at q
          rcases q with q | q
          · exact Or.inr q
          · exact Or.inl q.symm
        refine ⟨hok.1, hok.2.1, hok.2.2.1, hok.2.2.2.1, or8 _ hok.2.2.2.2.1, ?_, hok.2.2.2.2.2.2.1, fun g hg => ?_, hok.2.2.2.2.2.2.2.2.1, fun g hg q => ?_, fun g hg k hk q1 q2 ee => ?_⟩
        · show (if u = true then P 0 5 ||| 1 <<< h else clrN (P 0 5) h) < 256
          split
          · exact or8 _ hok.2.2.2.2.2.1
          · exact clr_lt hok.2.2.2.2.2.1
        · have o := hok.2.2.2.2.2.2.2.1 g hg
          rw [r1, r2, r3, r4]
          by_cases z : g = h
          · rw [if_pos z, if_pos z, if_pos z, if_pos z]; omega
          · rw [if_neg z, if_neg z, if_neg z, if_neg z]; exact o
        · rw [r1]
          by_cases z : g = h
          · rw [if_pos z]; show s < 4 * P 0 0; omega
          · rw [if_neg z]
            rcases pg g hg q with y | y
            · exact absurd y z
            · exact hok.2.2.2.2.2.2.2.2.2.1 g hg y
        · rw [r1, r1] at ee
          by_cases z : g = h
          · rw [if_pos z] at ee
            by_cases z2 : k = h
            · rw [z, z2]
            · rw [if_neg z2] at ee
              rcases pg k hk q2 with y | y
              · exact absurd y z2
              · exact absurd (uq k hk y ee.symm) z2
          · rw [if_neg z] at ee
            have y1 : pPres P g = true := (pg g hg q1).resolve_left z
            by_cases z2 : k = h
            · rw [if_pos z2] at ee
              exact absurd (uq g hg y1 ee) z
            · rw [if_neg z2] at ee
              exact hok.2.2.2.2.2.2.2.2.2.2 g hg k hk y1 ((pg k hk q2).resolve_left z2) ee
      · rw [if_neg c3]; exact hok
    · rw [if_neg c2]; exact hok
  · rw [if_neg c1]; exact hok
theorem ok_set {P : PC} (hok : okP P) {w v : Int32} : okP (setS P w v).2 := by
  unfold setS
  by_cases a : w = 0
  · rw [if_pos a]
    by_cases c : inZ v 1 9
    · rw [if_pos c]
      obtain ⟨j, h1, h2, rfl⟩ := nat_of_in (by decide) (by decide) c
      rw [nI_clamp (by omega)]
      exact ⟨hok.1, ⟨h1, h2⟩, hok.2.2⟩
    · rw [if_neg c]; exact hok
  · rw [if_neg a]
    by_cases a : w = 1
    · rw [if_pos a]
      by_cases c : inZ v 0 9
      · rw [if_pos c]
        obtain ⟨j, h1, h2, rfl⟩ := nat_of_in (by decide) (by decide) c
        rw [nI_clamp (by omega)]
        exact ⟨hok.1, hok.2.1, h2, hok.2.2.2⟩
      · rw [if_neg c]; exact hok
    · rw [if_neg a]
      by_cases a : w = 2
      · rw [if_pos a]
        by_cases c : inZ v 0 2
        · rw [if_pos c]
          obtain ⟨j, h1, h2, rfl⟩ := nat_of_in (by decide) (by decide) c
          rw [nI_clamp (by omega)]
          exact ⟨hok.1, hok.2.1, hok.2.2.1, h2, hok.2.2.2.2⟩
        · rw [if_neg c]; exact hok
      · rw [if_neg a]; exact hok
theorem ok_seen {P : PC} (hok : okP P) {m k : Int32} : okP (seenS P m k).2 := by
  unfold seenS
  by_cases c : inZ m 0 59 ∧ inZ k 0 8
  · rw [if_pos c]
    by_cases e : P 0 6 = 8
    · rw [if_pos e]; exact hok
    · rw [if_neg e]
      obtain ⟨a, -, ha, rfl⟩ := nat_of_in (by decide) (by decide) c.1
      obtain ⟨b, -, hb, rfl⟩ := nat_of_in (by decide) (by decide) c.2
      dsimp only
      rw [nI_clamp (show a < 2 ^ 31 by omega), nI_clamp (show b < 2 ^ 31 by omega)]
      have h6 := hok.2.2.2.2.2.2.1
      refine ⟨hok.1, hok.2.1, hok.2.2.1, hok.2.2.2.1, hok.2.2.2.2.1, hok.2.2.2.2.2.1, (show P 0 6 + 1 ≤ 8 by omega), hok.2.2.2.2.2.2.2.1, fun i hi => ?_, hok.2.2.2.2.2.2.2.2.2⟩
      have o := hok.2.2.2.2.2.2.2.2.1 i hi
      show (if i = P 0 6 then a else P 5 i) < 60 ∧ (if i = P 0 6 then b else P 6 i) ≤ 8
      by_cases z : i = P 0 6
      · rw [if_pos z, if_pos z]; omega
      · rw [if_neg z, if_neg z]; exact o
  · rw [if_neg c]; exact hok
theorem ok_forget {P : PC} (hok : okP P) : okP (vup P 0 6 0) := ⟨hok.1, hok.2.1, hok.2.2.1, hok.2.2.2.1, hok.2.2.2.2.1, hok.2.2.2.2.2.1, (by decide : 0 ≤ 8), hok.2.2.2.2.2.2.2⟩
theorem ok_say {L : Nat} {S : Nat → Nat} (h : okPad L S) {v : Int32} : okPad (sayS L S v).2.1 (sayS L S v).2.2 := by
  unfold sayS
  by_cases c : inZ v 33 126
  · rw [if_pos c]
    by_cases e : L = 60
    · rw [if_pos e]; exact h
    · rw [if_neg e]
      obtain ⟨j, h1, h2, rfl⟩ := nat_of_in (by decide) (by decide) c
      rw [nI_clamp (by omega)]
      have h60 := h.1
      refine ⟨(show L + 1 ≤ 60 by omega), fun i hi => ?_⟩
      have hi : i < L + 1 := hi
      show 33 ≤ (if i = L then j else S i) ∧ (if i = L then j else S i) ≤ 126
      by_cases z : i = L
      · rw [if_pos z]; exact ⟨h1, h2⟩
      · rw [if_neg z]; exact h.2 i (by omega)
  · rw [if_neg c]; exact h
theorem ok_image {P : PC} {L : Nat} {S κ : Nat → Nat} {I : Nat → PC} (h : okS P L S κ I) {n : Int32} : okS P L S (imageS P κ I n).2.1 (imageS P κ I n).2.2 := by
  unfold imageS
  by_cases c : inZ n 0 1
  · rw [if_pos c]
    refine ⟨h.1, h.2.1, fun k hk => ?_⟩
    generalize n.toNatClampNeg = j
    show (if k = j then 1 else κ k) ≤ 1 ∧ ((if k = j then 1 else κ k) = 1 → okP (if k = j then P else I k))
    by_cases z : k = j
    · rw [if_pos z, if_pos z]; exact ⟨Nat.le_refl _, fun _ => h.1⟩
    · rw [if_neg z, if_neg z]; exact h.2.2 k hk
  · rw [if_neg c]; exact h
theorem ok_restore {P : PC} {L : Nat} {S κ : Nat → Nat} {I : Nat → PC} (h : okS P L S κ I) {n : Int32} : okP (restoreS P κ I n).2 := by
  unfold restoreS
  by_cases c : inZ n 0 1
  · rw [if_pos c]
    obtain ⟨j, -, h2, rfl⟩ := nat_of_in (by decide) (by decide) c
    rw [nI_clamp (by omega)]
    by_cases z : κ j = 0
    · rw [if_pos z]; exact h.1
    · rw [if_neg z]
      have q := h.2.2 j (by omega)
      exact q.2 (by omega)
  · rw [if_neg c]; exact h.1
/-! the script -/
def scr (G : VG) (X : VX) (L : Nat) (xs : Nat → Int32) : Prop := match X with
  | (_, _, _, _, s, _, _, _, _, _, A, _, _, _) => va_X (G.2.1 2000) L xs s s.heap ∧ G.2.1 2000 < s.heap.size ∧ ¬ A (G.2.1 2000)
section VSC
variable {G : VG} {d nL pc : Nat} {y : MethodName} {cc : ByteArray} {rt : Option FieldType} {X : VX} {ls : VL} {st : List Value} {μ : VS} {L : Nat} {xs : Nat → Int32}
theorem V_sld {j : Nat} (hX : Cx G d y cc nL rt X) (hs : scr G X L xs) (hj : j < L) (hL : L ≤ 4000) (hd : decode cc pc = .ok (.iaload, 1)) (k : V G nL X (pc + 1) ls (.int (xs j) :: st) μ) : V G nL X pc ls (.int (nI j) :: .ref 2000 :: st) μ := by
  obtain ⟨p, l, e, R, s, m, args, below, meth, c, A, cells, slots, Qf⟩ := X
  obtain ⟨hx, hb, hr, hlk, hml, hown, hts, hNs, hK, hSt, hA, hfr, hlo, hce, hsl⟩ := hX
  intro H locs la hP hD hS hl
  obtain ⟨h1, h2, h3⟩ := hs
  refine va_sld (i := nI j) hx hb h1 h2 h3 hS (vp_in_nI hj (by omega)) hd ?_
  rw [nI_clamp (by omega)]
  exact k H locs la hP hD hS hl
theorem V_slen (hX : Cx G d y cc nL rt X) (hs : scr G X L xs) (hd : decode cc pc = .ok (.arraylength, 1)) (k : V G nL X (pc + 1) ls (.int (nI L) :: st) μ) : V G nL X pc ls (.ref 2000 :: st) μ := by
  obtain ⟨p, l, e, R, s, m, args, below, meth, c, A, cells, slots, Qf⟩ := X
  obtain ⟨hx, hb, hr, hlk, hml, hown, hts, hNs, hK, hSt, hA, hfr, hlo, hce, hsl⟩ := hX
  intro H locs la hP hD hS hl
  obtain ⟨h1, h2, h3⟩ := hs
  exact va_slen hx hb h1 h2 h3 hS hd (k H locs la hP hD hS hl)
end VSC
theorem law_cmp {L i : Nat} (hL : L ≤ 4000) (hi : i ≤ 4000) : nI L - nI 7 < nI i ↔ L < i + 7 := by
  rw [zI_nat, zI_nat, zI_nat, zI_sub, zI_lt (by omega) (by omega)]
  omega
