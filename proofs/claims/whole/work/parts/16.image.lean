theorem V_copyR {G : VG} {d nL pc : Nat} {y : MethodName} {cc : ByteArray} {rt : Option FieldType} {X : VX} {ls : VL} {st : List Value} {μ : VS} {n i1 i2 n1 n2 z : Nat} (hX : Cx G (d + 1) y cc nL rt X) (hm : Cond.methodLink y.cls n arraycopyName ∈ lw_tbl) (hk1 : vk i1 = (9, n1)) (hk2 : vk i2 = (9, n2)) (h1 : z ≤ n1) (h2 : z ≤ n2) (hz : z < 1000) (hst : (st.map fun v => v.category).sum ≤ 8) (hd : decode cc pc = .ok (.invokestatic n, 3))
    (k : ∀ μ' : VS, (∀ a, a ≠ i2 → μ'.1 a = μ.1 a) → (∀ q, q < z → μ'.1 i2 q = μ.1 i1 q) → (∀ q, z ≤ q → μ'.1 i2 q = μ.1 i2 q) → μ'.2 = μ.2 → V G nL X (pc + 3) ls st μ') : V G nL X pc ls (.int (nI z) :: .int (nI 0) :: .ref i2 :: .int (nI 0) :: .ref i1 :: st) μ := by
  have e0 : (nI 0).toNatClampNeg = 0 := nI_clamp (by decide)
  have ez : (nI z).toNatClampNeg = z := nI_clamp (by omega)
  refine V_copy hX hm mcopy1 mcopy2 mcopy3 hk1 hk2 (by decide) (by decide) (nI_pos (by omega)) (by rw [e0, ez]; omega) (by rw [e0, ez]; omega) hst hd ?_
  rw [e0, ez]
  refine k _ (fun a ha => by simp [vrow, ha]) (fun q hq => ?_) (fun q hq => ?_) rfl
  · show vrow μ.1 i2 _ i2 q = _
    simp only [vrow, if_true, va_cpy]
    rw [if_pos (by omega), Nat.sub_zero, Nat.zero_add]
  · show vrow μ.1 i2 _ i2 q = _
    simp only [vrow, if_true, va_cpy]
    rw [if_neg (by omega)]
set_option maxRecDepth 100000 in
set_option maxHeartbeats 4000000 in
theorem kC_become {G : VG} {d : Nat} {μ : VS} {Q : Option Value → VS → Prop} {p_ q_ : Nat} {P : PC} (hkp : vk p_ = (3, 0)) (hkq : vk q_ = (3, 0)) (hd : p_ + 7 ≤ q_ ∨ q_ + 7 ≤ p_) (hP : isP μ q_ P) (hQ : ∀ μ', isP μ' p_ P → (∀ a, a < p_ ∨ p_ + 7 ≤ a → μ'.1 a = μ.1 a) → μ'.2 = μ.2 → Q none μ') : Call G (d + 1) yX4_become cX4_become 2 none [.ref p_, .ref q_] μ Q := by
  intro X hX hR
  have hx : ∀ (f : Nat → Nat → Int32) (k : Nat) (x : Int32), vup f p_ k x q_ = f q_ := fun f k x => vup_row f k x (by omega)
  show V G 2 X 0 [(0, .ref p_), (1, .ref q_)] [] μ
  refine V_aload_n hX dX4_become_0 0 rfl ?_
  refine V_aload_n hX dX4_become_1 1 rfl ?_
  refine V_getN (x := nI (P 0 0)) hX fX4_9 hkq (by first | exact hP.1 0 (by decide) | (simp only [hx]; exact hP.1 0 (by decide))) dX4_become_2 ?_
  refine V_puti hX fX4_9 fw_3_0 hkp dX4_become_5 ?_
  show V G 2 X 8 [(0, .ref p_), (1, .ref q_)] [] (vup μ.1 p_ 0 (nI (P 0 0)), μ.2)
  refine V_aload_n hX dX4_become_8 0 rfl ?_
  refine V_aload_n hX dX4_become_9 1 rfl ?_
  refine V_getN (x := nI (P 0 1)) hX fX4_15 hkq (by first | exact hP.1 1 (by decide) | (simp only [hx]; exact hP.1 1 (by decide))) dX4_become_10 ?_
  refine V_puti hX fX4_15 fw_3_1 hkp dX4_become_13 ?_
  show V G 2 X 16 [(0, .ref p_), (1, .ref q_)] [] (vup (vup μ.1 p_ 0 (nI (P 0 0))) p_ 1 (nI (P 0 1)), μ.2)
  refine V_aload_n hX dX4_become_16 0 rfl ?_
  refine V_aload_n hX dX4_become_17 1 rfl ?_
  refine V_getN (x := nI (P 0 2)) hX fX4_18 hkq (by first | exact hP.1 2 (by decide) | (simp only [hx]; exact hP.1 2 (by decide))) dX4_become_18 ?_
  refine V_puti hX fX4_18 fw_3_2 hkp dX4_become_21 ?_
  show V G 2 X 24 [(0, .ref p_), (1, .ref q_)] [] (vup (vup (vup μ.1 p_ 0 (nI (P 0 0))) p_ 1 (nI (P 0 1))) p_ 2 (nI (P 0 2)), μ.2)
  refine V_aload_n hX dX4_become_24 0 rfl ?_
  refine V_aload_n hX dX4_become_25 1 rfl ?_
  refine V_getN (x := nI (P 0 3)) hX fX4_21 hkq (by first | exact hP.1 3 (by decide) | (simp only [hx]; exact hP.1 3 (by decide))) dX4_become_26 ?_
  refine V_puti hX fX4_21 fw_3_3 hkp dX4_become_29 ?_
  show V G 2 X 32 [(0, .ref p_), (1, .ref q_)] [] (vup (vup (vup (vup μ.1 p_ 0 (nI (P 0 0))) p_ 1 (nI (P 0 1))) p_ 2 (nI (P 0 2))) p_ 3 (nI (P 0 3)), μ.2)
  refine V_aload_n hX dX4_become_32 0 rfl ?_
  refine V_aload_n hX dX4_become_33 1 rfl ?_
  refine V_getN (x := nI (P 0 4)) hX fX4_24 hkq (by first | exact hP.1 4 (by decide) | (simp only [hx]; exact hP.1 4 (by decide))) dX4_become_34 ?_
  refine V_puti hX fX4_24 fw_3_4 hkp dX4_become_37 ?_
  show V G 2 X 40 [(0, .ref p_), (1, .ref q_)] [] (vup (vup (vup (vup (vup μ.1 p_ 0 (nI (P 0 0))) p_ 1 (nI (P 0 1))) p_ 2 (nI (P 0 2))) p_ 3 (nI (P 0 3))) p_ 4 (nI (P 0 4)), μ.2)
  refine V_aload_n hX dX4_become_40 0 rfl ?_
  refine V_aload_n hX dX4_become_41 1 rfl ?_
  refine V_getN (x := nI (P 0 5)) hX fX4_27 hkq (by first | exact hP.1 5 (by decide) | (simp only [hx]; exact hP.1 5 (by decide))) dX4_become_42 ?_
  refine V_puti hX fX4_27 fw_3_5 hkp dX4_become_45 ?_
  show V G 2 X 48 [(0, .ref p_), (1, .ref q_)] [] (vup (vup (vup (vup (vup (vup μ.1 p_ 0 (nI (P 0 0))) p_ 1 (nI (P 0 1))) p_ 2 (nI (P 0 2))) p_ 3 (nI (P 0 3))) p_ 4 (nI (P 0 4))) p_ 5 (nI (P 0 5)), μ.2)
  refine V_aload_n hX dX4_become_48 0 rfl ?_
  refine V_aload_n hX dX4_become_49 1 rfl ?_
  refine V_getN (x := nI (P 0 6)) hX fX4_30 hkq (by first | exact hP.1 6 (by decide) | (simp only [hx]; exact hP.1 6 (by decide))) dX4_become_50 ?_
  refine V_puti hX fX4_30 fw_3_6 hkp dX4_become_53 ?_
  show V G 2 X 56 [(0, .ref p_), (1, .ref q_)] [] (vup (vup (vup (vup (vup (vup (vup μ.1 p_ 0 (nI (P 0 0))) p_ 1 (nI (P 0 1))) p_ 2 (nI (P 0 2))) p_ 3 (nI (P 0 3))) p_ 4 (nI (P 0 4))) p_ 5 (nI (P 0 5))) p_ 6 (nI (P 0 6)), μ.2)
  refine V_aload_n hX dX4_become_56 1 rfl ?_
  refine V_getr (j := q_ + 1) hX fX4_33 hkq rfl dX4_become_57 ?_
  refine V_iconst (v := nI 0) hX dX4_become_60 (by decide) ?_
  refine V_aload_n hX dX4_become_61 0 rfl ?_
  refine V_getr (j := p_ + 1) hX fX4_33 hkp rfl dX4_become_62 ?_
  refine V_iconst (v := nI 0) hX dX4_become_65 (by decide) ?_
  refine V_bipush (v := nI 8) hX dX4_become_66 (by decide) ?_
  refine V_copyR hX mX4_52 (vk_par hkq 0 (by decide)) (vk_par hkp 0 (by decide)) (by decide) (by decide) (by decide) (Nat.le_of_ble_eq_true rfl) dX4_become_68 (fun μ1 ra1 rb1 rc1 rd1 => ?_)
  refine V_aload_n hX dX4_become_71 1 rfl ?_
  refine V_getr (j := q_ + 2) hX fX4_37 hkq rfl dX4_become_72 ?_
  refine V_iconst (v := nI 0) hX dX4_become_75 (by decide) ?_
  refine V_aload_n hX dX4_become_76 0 rfl ?_
  refine V_getr (j := p_ + 2) hX fX4_37 hkp rfl dX4_become_77 ?_
  refine V_iconst (v := nI 0) hX dX4_become_80 (by decide) ?_
  refine V_bipush (v := nI 8) hX dX4_become_81 (by decide) ?_
  refine V_copyR hX mX4_52 (vk_par hkq 1 (by decide)) (vk_par hkp 1 (by decide)) (by decide) (by decide) (by decide) (Nat.le_of_ble_eq_true rfl) dX4_become_83 (fun μ2 ra2 rb2 rc2 rd2 => ?_)
  refine V_aload_n hX dX4_become_86 1 rfl ?_
  refine V_getr (j := q_ + 3) hX fX4_40 hkq rfl dX4_become_87 ?_
  refine V_iconst (v := nI 0) hX dX4_become_90 (by decide) ?_
  refine V_aload_n hX dX4_become_91 0 rfl ?_
  refine V_getr (j := p_ + 3) hX fX4_40 hkp rfl dX4_become_92 ?_
  refine V_iconst (v := nI 0) hX dX4_become_95 (by decide) ?_
  refine V_bipush (v := nI 8) hX dX4_become_96 (by decide) ?_
  refine V_copyR hX mX4_52 (vk_par hkq 2 (by decide)) (vk_par hkp 2 (by decide)) (by decide) (by decide) (by decide) (Nat.le_of_ble_eq_true rfl) dX4_become_98 (fun μ3 ra3 rb3 rc3 rd3 => ?_)
  refine V_aload_n hX dX4_become_101 1 rfl ?_
  refine V_getr (j := q_ + 4) hX fX4_43 hkq rfl dX4_become_102 ?_
  refine V_iconst (v := nI 0) hX dX4_become_105 (by decide) ?_
  refine V_aload_n hX dX4_become_106 0 rfl ?_
  refine V_getr (j := p_ + 4) hX fX4_43 hkp rfl dX4_become_107 ?_
  refine V_iconst (v := nI 0) hX dX4_become_110 (by decide) ?_
  refine V_bipush (v := nI 8) hX dX4_become_111 (by decide) ?_
  refine V_copyR hX mX4_52 (vk_par hkq 3 (by decide)) (vk_par hkp 3 (by decide)) (by decide) (by decide) (by decide) (Nat.le_of_ble_eq_true rfl) dX4_become_113 (fun μ4 ra4 rb4 rc4 rd4 => ?_)
  refine V_aload_n hX dX4_become_116 1 rfl ?_
  refine V_getr (j := q_ + 5) hX fX4_46 hkq rfl dX4_become_117 ?_
  refine V_iconst (v := nI 0) hX dX4_become_120 (by decide) ?_
  refine V_aload_n hX dX4_become_121 0 rfl ?_
  refine V_getr (j := p_ + 5) hX fX4_46 hkp rfl dX4_become_122 ?_
  refine V_iconst (v := nI 0) hX dX4_become_125 (by decide) ?_
  refine V_bipush (v := nI 8) hX dX4_become_126 (by decide) ?_
  refine V_copyR hX mX4_52 (vk_par hkq 4 (by decide)) (vk_par hkp 4 (by decide)) (by decide) (by decide) (by decide) (Nat.le_of_ble_eq_true rfl) dX4_become_128 (fun μ5 ra5 rb5 rc5 rd5 => ?_)
  refine V_aload_n hX dX4_become_131 1 rfl ?_
  refine V_getr (j := q_ + 6) hX fX4_49 hkq rfl dX4_become_132 ?_
  refine V_iconst (v := nI 0) hX dX4_become_135 (by decide) ?_
  refine V_aload_n hX dX4_become_136 0 rfl ?_
  refine V_getr (j := p_ + 6) hX fX4_49 hkp rfl dX4_become_137 ?_
  refine V_iconst (v := nI 0) hX dX4_become_140 (by decide) ?_
  refine V_bipush (v := nI 8) hX dX4_become_141 (by decide) ?_
  refine V_copyR hX mX4_52 (vk_par hkq 5 (by decide)) (vk_par hkp 5 (by decide)) (by decide) (by decide) (by decide) (Nat.le_of_ble_eq_true rfl) dX4_become_143 (fun μ6 ra6 rb6 rc6 rd6 => ?_)
  refine V_vret hX rfl dX4_become_146 ?_
  refine hR _ _ (hQ _ ⟨fun k hk => ?_, fun j hj k hk => ?_⟩ (fun a ha => ?_) (by rw [rd6, rd5, rd4, rd3, rd2, rd1]))
  · rw [ra6 p_ (by omega), ra5 p_ (by omega), ra4 p_ (by omega), ra3 p_ (by omega), ra2 p_ (by omega), ra1 p_ (by omega)]
    match k, hk with
    | 0, _ => simp [vup]
    | 1, _ => simp [vup]
    | 2, _ => simp [vup]
    | 3, _ => simp [vup]
    | 4, _ => simp [vup]
    | 5, _ => simp [vup]
    | 6, _ => simp [vup]
  · match j, hj with
    | 0, _ =>
      rw [ra6 (p_ + 1 + 0) (by omega), ra5 (p_ + 1 + 0) (by omega), ra4 (p_ + 1 + 0) (by omega), ra3 (p_ + 1 + 0) (by omega), ra2 (p_ + 1 + 0) (by omega), (by have := rb1 k hk; exact this : μ1.1 (p_ + 1 + 0) k = (vup (vup (vup (vup (vup (vup (vup μ.1 p_ 0 (nI (P 0 0))) p_ 1 (nI (P 0 1))) p_ 2 (nI (P 0 2))) p_ 3 (nI (P 0 3))) p_ 4 (nI (P 0 4))) p_ 5 (nI (P 0 5))) p_ 6 (nI (P 0 6)), μ.2).1 (q_ + 1 + 0) k)]
      simp only [vup_row _ _ _ (show q_ + 1 + 0 ≠ p_ by omega)]
      exact hP.2 0 (by decide) k hk
    | 1, _ =>
      rw [ra6 (p_ + 1 + 1) (by omega), ra5 (p_ + 1 + 1) (by omega), ra4 (p_ + 1 + 1) (by omega), ra3 (p_ + 1 + 1) (by omega), (by have := rb2 k hk; exact this : μ2.1 (p_ + 1 + 1) k = μ1.1 (q_ + 1 + 1) k), ra1 (q_ + 1 + 1) (by omega)]
      simp only [vup_row _ _ _ (show q_ + 1 + 1 ≠ p_ by omega)]
      exact hP.2 1 (by decide) k hk
    | 2, _ =>
      rw [ra6 (p_ + 1 + 2) (by omega), ra5 (p_ + 1 + 2) (by omega), ra4 (p_ + 1 + 2) (by omega), (by have := rb3 k hk; exact this : μ3.1 (p_ + 1 + 2) k = μ2.1 (q_ + 1 + 2) k), ra2 (q_ + 1 + 2) (by omega), ra1 (q_ + 1 + 2) (by omega)]
      simp only [vup_row _ _ _ (show q_ + 1 + 2 ≠ p_ by omega)]
      exact hP.2 2 (by decide) k hk
    | 3, _ =>
      rw [ra6 (p_ + 1 + 3) (by omega), ra5 (p_ + 1 + 3) (by omega), (by have := rb4 k hk; exact this : μ4.1 (p_ + 1 + 3) k = μ3.1 (q_ + 1 + 3) k), ra3 (q_ + 1 + 3) (by omega), ra2 (q_ + 1 + 3) (by omega), ra1 (q_ + 1 + 3) (by omega)]
      simp only [vup_row _ _ _ (show q_ + 1 + 3 ≠ p_ by omega)]
      exact hP.2 3 (by decide) k hk
    | 4, _ =>
      rw [ra6 (p_ + 1 + 4) (by omega), (by have := rb5 k hk; exact this : μ5.1 (p_ + 1 + 4) k = μ4.1 (q_ + 1 + 4) k), ra4 (q_ + 1 + 4) (by omega), ra3 (q_ + 1 + 4) (by omega), ra2 (q_ + 1 + 4) (by omega), ra1 (q_ + 1 + 4) (by omega)]
      simp only [vup_row _ _ _ (show q_ + 1 + 4 ≠ p_ by omega)]
      exact hP.2 4 (by decide) k hk
    | 5, _ =>
      rw [(by have := rb6 k hk; exact this : μ6.1 (p_ + 1 + 5) k = μ5.1 (q_ + 1 + 5) k), ra5 (q_ + 1 + 5) (by omega), ra4 (q_ + 1 + 5) (by omega), ra3 (q_ + 1 + 5) (by omega), ra2 (q_ + 1 + 5) (by omega), ra1 (q_ + 1 + 5) (by omega)]
      simp only [vup_row _ _ _ (show q_ + 1 + 5 ≠ p_ by omega)]
      exact hP.2 5 (by decide) k hk
  · rw [ra6 a (by omega), ra5 a (by omega), ra4 a (by omega), ra3 a (by omega), ra2 a (by omega), ra1 a (by omega)]
    simp only [vup_row _ _ _ (show a ≠ p_ by omega)]
theorem vk_img {n : Nat} (h : n ≤ 1) : vk (16 + 7 * n) = (3, 0) := by
  rcases (by omega : n = 0 ∨ n = 1) with e | e <;> subst e <;> rfl
def upN {α : Type} (f : Nat → α) (j : Nat) (x : α) : Nat → α := fun i => if i = j then x else f i
def imageS (P : PC) (κ : Nat → Nat) (I : Nat → PC) (n : Int32) : Int32 × (Nat → Nat) × (Nat → PC) := if inZ n 0 1 then (nI 1, upN κ n.toNatClampNeg 1, upN I n.toNatClampNeg P) else (-2, κ, I)
def restoreS (P : PC) (κ : Nat → Nat) (I : Nat → PC) (n : Int32) : Int32 × PC := if inZ n 0 1 then (if κ n.toNatClampNeg = 0 then (-3, P) else (nI 1, I n.toNatClampNeg)) else (-2, P)
theorem RC.image {μ μ1 : VS} {P : PC} {L : Nat} {S κ : Nat → Nat} {I : Nat → PC} (h : RC μ P L S κ I) {j : Nat} (hj : j ≤ 1) (h1 : isP μ1 (16 + 7 * j) P) (h2 : ∀ a, a < 16 + 7 * j ∨ 16 + 7 * j + 7 ≤ a → μ1.1 a = μ.1 a) : RC (vup μ1.1 30 j (nI 1), μ1.2) P L S (upN κ j 1) (upN I j P) := by
  have e : ∀ a, a ≠ 30 → (vup μ1.1 30 j (nI 1), μ1.2).1 a = μ1.1 a := fun a ha => vup_row _ _ _ ha
  refine ⟨h.1.frame (fun i hi => by rw [e _ (by omega), h2 _ (by omega)]), ⟨?_, fun i hi => ?_⟩, fun n hn => ⟨?_, fun hκ => ?_⟩⟩
  · rw [e 31 (by omega), h2 31 (by omega)]; exact h.2.1.1
  · rw [e 32 (by omega), h2 32 (by omega)]; exact h.2.1.2 i hi
  · show vup μ1.1 30 j (nI 1) 30 n = _
    rw [vup_get]
    unfold upN
    by_cases q : n = j
    · simp [q]
    · simp only [q, and_false, if_false]
      rw [h2 30 (by omega)]
      exact (h.2.2 n hn).1
  · unfold upN at hκ ⊢
    by_cases q : n = j
    · rw [if_pos q, q]
      exact h1.frame (fun i hi => e _ (by omega))
    · rw [if_neg q] at hκ ⊢
      exact ((h.2.2 n hn).2 hκ).frame (fun i hi => by rw [e _ (by omega), h2 _ (by omega)])
theorem RC.restore {μ μ1 : VS} {P P' : PC} {L : Nat} {S κ : Nat → Nat} {I : Nat → PC} (h : RC μ P L S κ I) (h1 : isP μ1 1 P') (h2 : ∀ a, a < 1 ∨ 1 + 7 ≤ a → μ1.1 a = μ.1 a) : RC μ1 P' L S κ I := by
  refine ⟨h1, ⟨?_, fun i hi => ?_⟩, fun n hn => ⟨?_, fun hκ => ((h.2.2 n hn).2 hκ).frame (fun j hj => h2 _ (by omega))⟩⟩
  · rw [h2 31 (by omega)]; exact h.2.1.1
  · rw [h2 32 (by omega)]; exact h.2.1.2 i hi
  · rw [h2 30 (by omega)]; exact (h.2.2 n hn).1
set_option maxRecDepth 100000 in
set_option maxHeartbeats 4000000 in
theorem kC_image {G : VG} {d : Nat} {μ : VS} {Q : Option Value → VS → Prop} {P : PC} {L : Nat} {S κ : Nat → Nat} {I : Nat → PC} {n_ : Int32} (hRC : RC μ P L S κ I) (hQ : ∀ μ', RC μ' P L S (imageS P κ I n_).2.1 (imageS P κ I n_).2.2 → keepM μ μ' → Q (some (.int (imageS P κ I n_).1)) μ') : Call G (d + 2) yX8_image cX8_image 2 (some .int) [.ref 0, .int n_] μ Q := by
  intro X hX hR
  have hP := hRC.1
  show V G 2 X 0 [(0, .ref 0), (1, .int n_)] [] μ
  refine V_iload_n hX dX8_image_0 1 rfl ?_
  refine V_iconst (v := nI 0) hX dX8_image_1 (by decide) ?_
  refine V_iconst (v := nI 1) hX dX8_image_2 (by decide) ?_
  refine V_callS (As := [.int n_, .int (nI 0), .int (nI 1)]) (st := []) hX mX8_73 (k_isOutside ?_) rfl (Nat.le_of_ble_eq_true rfl) (Nat.le_of_ble_eq_true rfl) dX8_image_3
  show V G 2 X 6 [(0, .ref 0), (1, .int n_)] [.int (bI (n_ < nI 0 ∨ nI 1 < n_))] μ
  refine V_if_eqB (tgt := 12) hX dX8_image_6 (by decide) (fun c6 => ?_) (fun c6 => ?_)
  · obtain ⟨j_, hj0, hj7, rfl⟩ := nat_of_out (by decide) (by decide) c6
    refine V_aload_n hX dX8_image_12 0 rfl ?_
    refine V_getr (j := 15) hX fX8_19 rfl rfl dX8_image_13 ?_
    refine V_iload_n hX dX8_image_16 1 rfl ?_
    refine V_paldN (r := 16 + 7 * j_) hX rfl (by omega) (by decide) rfl dX8_image_17 ?_
    refine V_aload_n hX dX8_image_18 0 rfl ?_
    refine V_getr (j := 1) hX fX8_10 rfl rfl dX8_image_19 ?_
    refine V_callV (As := [.ref 1]) (st := []) hX mX8_272 (vk_img (by omega)) (kC_become (vk_img (by omega)) rfl (by omega) hP (fun μ1 hb1 hb2 hb3 => ?_)) rfl (Nat.le_of_ble_eq_true rfl) (Nat.le_of_ble_eq_true rfl) dX8_image_22
    show V G 2 X 25 [(0, .ref 0), (1, .int (nI j_))] [] μ1
    refine V_aload_n hX dX8_image_25 0 rfl ?_
    refine V_getr (j := 30) hX fX8_23 rfl rfl dX8_image_26 ?_
    refine V_iload_n hX dX8_image_29 1 rfl ?_
    refine V_iconst (v := nI 1) hX dX8_image_30 (by decide) ?_
    refine V_zastN hX rfl (by omega) (by decide) rfl dX8_image_31 ?_
    show V G 2 X 32 [(0, .ref 0), (1, .int (nI j_))] [] (vup μ1.1 30 j_ (nI 1), μ1.2)
    refine V_iconst (v := nI 1) hX dX8_image_32 (by decide) ?_
    refine V_iret hX rfl dX8_image_33 ?_
    have h9 := hQ (vup μ1.1 30 j_ (nI 1), μ1.2)
    rw [show imageS P κ I (nI j_) = _ from if_pos (in_of_not_out c6)] at h9
    rw [nI_clamp (by omega)] at h9
    exact hR _ _ (h9 (hRC.image hj7 hb1 hb2) (fun a ha => by show vup μ1.1 30 j_ (nI 1) a = _; rw [vup_row _ _ _ (by omega), hb2 a (by omega)]))
  · refine V_bipush (v := (-2)) hX dX8_image_9 (by decide) ?_
    refine V_iret hX rfl dX8_image_11 ?_
    have h9 := hQ μ
    rw [show imageS P κ I n_ = (-2, κ, I) from if_neg (not_in_of_out c6)] at h9
    exact hR _ _ (h9 hRC (keepM.rf μ))
set_option maxRecDepth 100000 in
set_option maxHeartbeats 4000000 in
theorem kC_restore {G : VG} {d : Nat} {μ : VS} {Q : Option Value → VS → Prop} {P : PC} {L : Nat} {S κ : Nat → Nat} {I : Nat → PC} {n_ : Int32} (hRC : RC μ P L S κ I) (hκ : ∀ n, n < 2 → κ n ≤ 1) (hQ : ∀ μ', RC μ' (restoreS P κ I n_).2 L S κ I → keepM μ μ' → Q (some (.int (restoreS P κ I n_).1)) μ') : Call G (d + 2) yX8_restore cX8_restore 2 (some .int) [.ref 0, .int n_] μ Q := by
  intro X hX hR
  show V G 2 X 0 [(0, .ref 0), (1, .int n_)] [] μ
  refine V_iload_n hX dX8_restore_0 1 rfl ?_
  refine V_iconst (v := nI 0) hX dX8_restore_1 (by decide) ?_
  refine V_iconst (v := nI 1) hX dX8_restore_2 (by decide) ?_
  refine V_callS (As := [.int n_, .int (nI 0), .int (nI 1)]) (st := []) hX mX8_73 (k_isOutside ?_) rfl (Nat.le_of_ble_eq_true rfl) (Nat.le_of_ble_eq_true rfl) dX8_restore_3
  show V G 2 X 6 [(0, .ref 0), (1, .int n_)] [.int (bI (n_ < nI 0 ∨ nI 1 < n_))] μ
  refine V_if_eqB (tgt := 12) hX dX8_restore_6 (by decide) (fun c6 => ?_) (fun c6 => ?_)
  · obtain ⟨j_, hj0, hj7, rfl⟩ := nat_of_out (by decide) (by decide) c6
    refine V_aload_n hX dX8_restore_12 0 rfl ?_
    refine V_getr (j := 30) hX fX8_23 rfl rfl dX8_restore_13 ?_
    refine V_iload_n hX dX8_restore_16 1 rfl ?_
    refine V_zaldN (x := nI (κ j_)) hX rfl (by first | omega | (have := hκ j_ (by omega); omega)) (by decide) (hRC.2.2 j_ (by omega)).1 dX8_restore_17 ?_
    refine V_if_neN (tgt := 24) hX dX8_restore_18 (by decide) (by first | omega | (have := hκ j_ (by omega); omega)) (fun c18 => ?_) (fun c18 => ?_)
    · have hκ1 : κ j_ = 1 := by have := hκ j_ (by omega); omega
      refine V_aload_n hX dX8_restore_24 0 rfl ?_
      refine V_getr (j := 1) hX fX8_10 rfl rfl dX8_restore_25 ?_
      refine V_aload_n hX dX8_restore_28 0 rfl ?_
      refine V_getr (j := 15) hX fX8_19 rfl rfl dX8_restore_29 ?_
      refine V_iload_n hX dX8_restore_32 1 rfl ?_
      refine V_paldN (r := 16 + 7 * j_) hX rfl (by first | omega | (have := hκ j_ (by omega); omega)) (by decide) rfl dX8_restore_33 ?_
      refine V_callV (As := [.ref (16 + 7 * j_)]) (st := []) hX mX8_272 rfl (kC_become rfl (vk_img (by omega)) (by omega) ((hRC.2.2 j_ (by omega)).2 hκ1) (fun μ1 hb1 hb2 hb3 => ?_)) rfl (Nat.le_of_ble_eq_true rfl) (Nat.le_of_ble_eq_true rfl) dX8_restore_34
      show V G 2 X 37 [(0, .ref 0), (1, .int (nI j_))] [] μ1
      refine V_iconst (v := nI 1) hX dX8_restore_37 (by decide) ?_
      refine V_iret hX rfl dX8_restore_38 ?_
      have h9 := hQ μ1
      rw [show restoreS P κ I (nI j_) = _ from (if_pos (in_of_not_out c6)).trans (if_neg (by rw [nI_clamp (by omega)]; exact c18))] at h9
      rw [nI_clamp (by omega)] at h9
      exact hR _ _ (h9 (hRC.restore hb1 hb2) (fun a ha => hb2 a (by omega)))
    · refine V_bipush (v := (-3)) hX dX8_restore_21 (by decide) ?_
      refine V_iret hX rfl dX8_restore_23 ?_
      have h9 := hQ μ
      rw [show restoreS P κ I (nI j_) = (-3, P) from (if_pos (in_of_not_out c6)).trans (if_pos (by rw [nI_clamp (by omega)]; exact c18))] at h9
      exact hR _ _ (h9 hRC (keepM.rf μ))
  · refine V_bipush (v := (-2)) hX dX8_restore_9 (by decide) ?_
    refine V_iret hX rfl dX8_restore_11 ?_
    have h9 := hQ μ
    rw [show restoreS P κ I n_ = (-2, P) from if_neg (not_in_of_out c6)] at h9
    exact hR _ _ (h9 hRC (keepM.rf μ))
