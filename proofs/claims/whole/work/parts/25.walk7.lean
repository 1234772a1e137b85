theorem wk_range {w : Nat} (h : vk w = (5, 0)) : 34 ≤ w ∧ w ≤ 54 := by
  have key : ∀ w, w < 87 → vk w = (5, 0) → 34 ≤ w ∧ w ≤ 54 := by decide +kernel
  exact key w (vk_lt h (by decide)) h
theorem pk_range {p : Nat} (h : vk p = (3, 0)) : 1 ≤ p ∧ p ≤ 23 := by
  have key : ∀ w, w < 87 → vk w = (3, 0) → 1 ≤ w ∧ w ≤ 23 := by decide +kernel
  exact key p (vk_lt h (by decide)) h
def mw0 (P : PC) : MW := (P 2, 0, 0, fun _ => 0)
def mwR (P : PC) (sg : Nat → Nat) (cold : Nat → Bool) (u : MW) : Nat → MW
  | 0 => u
  | k + 1 => mwStep P (sg k) (cold k) (mwR P sg cold u k)
theorem mw0_ok {P : PC} (hok : okP P) : okU (mw0 P) 0 := ⟨fun h hh => (hok.2.2.2.2.2.2.2.1 h hh).2.1, Nat.le_refl _, Nat.le_refl _⟩
theorem mwR_ok {P : PC} (hok : okP P) {sg : Nat → Nat} {cold : Nat → Bool} {u : MW} {n : Nat} (hu : okU u n) : ∀ k, okU (mwR P sg cold u k) (n + k)
  | 0 => hu
  | k + 1 => (mwR_ok hok hu k).step hok
theorem mwR_add (P : PC) (sg : Nat → Nat) (cold : Nat → Bool) (u : MW) (a : Nat) : ∀ b, mwR P sg cold u (a + b) = mwR P (fun i => sg (a + i)) (fun i => cold (a + i)) (mwR P sg cold u a) b
  | 0 => rfl
  | b + 1 => by
    show mwStep P (sg (a + b)) (cold (a + b)) (mwR P sg cold u (a + b)) = _
    rw [mwR_add P sg cold u a b]
    rfl
theorem mwR_congr {P : PC} {sg sg' : Nat → Nat} {cold cold' : Nat → Bool} {u : MW} : ∀ k, (∀ i, i < k → sg i = sg' i) → (∀ i, i < k → cold i = cold' i) → mwR P sg cold u k = mwR P sg' cold' u k
  | 0, _, _ => rfl
  | k + 1, h, g => by
    show mwStep P (sg k) (cold k) _ = mwStep P (sg' k) (cold' k) _
    rw [h k (by omega), g k (by omega), mwR_congr k (fun i hi => h i (by omega)) (fun i hi => g i (by omega))]
abbrev noC : Nat → Bool := fun _ => false
set_option maxRecDepth 100000 in
set_option maxHeartbeats 4000000 in
theorem k_begin {G : VG} {d : Nat} {μ : VS} {Q : Option Value → VS → Prop} {w_ p_ : Nat} {P : PC} (hkw : vk w_ = (5, 0)) (hkp : vk p_ = (3, 0)) (hP : isP μ p_ P) (hQ : ∀ μ', (∀ a, a ≠ w_ → a ≠ w_ + 1 → μ'.1 a = μ.1 a) → isW μ' w_ (mw0 P) → μ'.2 = μ.2 → Q none μ') : Call G (d + 1) yX6_begin cX6_begin 2 none [.ref w_, .ref p_] μ Q := by
  intro X hX hR
  have hap := pw_apart hkp hkw
  show V G 2 X 0 [(0, .ref w_), (1, .ref p_)] [] μ
  refine V_aload_n hX dX6_begin_0 1 rfl ?_
  refine V_getr (j := p_ + 2) hX fX6_52 hkp rfl dX6_begin_1 ?_
  refine V_iconst (v := nI 0) hX dX6_begin_4 (by decide) ?_
  refine V_aload_n hX dX6_begin_5 0 rfl ?_
  refine V_getr (j := w_ + 1) hX fX6_9 hkw rfl dX6_begin_6 ?_
  refine V_iconst (v := nI 0) hX dX6_begin_9 (by decide) ?_
  refine V_bipush (v := nI 8) hX dX6_begin_10 (by decide) ?_
  refine V_copyR hX mX6_57 (vk_par hkp 1 (by decide)) (vk_wlk hkw) (by decide) (by decide) (by decide) (Nat.le_of_ble_eq_true rfl) dX6_begin_12 (fun μ1 ra rb rc rd => ?_)
  refine V_aload_n hX dX6_begin_15 0 rfl ?_
  refine V_iconst (v := nI 0) hX dX6_begin_16 (by decide) ?_
  refine V_puti hX fX6_15 fw_5_1 hkw dX6_begin_17 ?_
  show V G 2 X 20 [(0, .ref w_), (1, .ref p_)] [] (vup μ1.1 w_ 1 (nI 0), μ1.2)
  refine V_aload_n hX dX6_begin_20 0 rfl ?_
  refine V_iconst (v := nI 0) hX dX6_begin_21 (by decide) ?_
  refine V_puti hX fX6_19 fw_5_2 hkw dX6_begin_22 ?_
  show V G 2 X 25 [(0, .ref w_), (1, .ref p_)] [] (vup (vup μ1.1 w_ 1 (nI 0)) w_ 2 (nI 0), μ1.2)
  refine V_aload_n hX dX6_begin_25 0 rfl ?_
  refine V_iconst (v := nI 0) hX dX6_begin_26 (by decide) ?_
  refine V_puti hX fX6_22 fw_5_3 hkw dX6_begin_27 ?_
  show V G 2 X 30 [(0, .ref w_), (1, .ref p_)] [] (vup (vup (vup μ1.1 w_ 1 (nI 0)) w_ 2 (nI 0)) w_ 3 (nI 0), μ1.2)
  refine V_aload_n hX dX6_begin_30 0 rfl ?_
  refine V_iconst (v := nI 0) hX dX6_begin_31 (by decide) ?_
  refine V_puti hX fX6_25 fw_5_4 hkw dX6_begin_32 ?_
  show V G 2 X 35 [(0, .ref w_), (1, .ref p_)] [] (vup (vup (vup (vup μ1.1 w_ 1 (nI 0)) w_ 2 (nI 0)) w_ 3 (nI 0)) w_ 4 (nI 0), μ1.2)
  refine V_aload_n hX dX6_begin_35 0 rfl ?_
  refine V_iconst (v := nI 0) hX dX6_begin_36 (by decide) ?_
  refine V_puti hX fX6_28 fw_5_5 hkw dX6_begin_37 ?_
  show V G 2 X 40 [(0, .ref w_), (1, .ref p_)] [] (vup (vup (vup (vup (vup μ1.1 w_ 1 (nI 0)) w_ 2 (nI 0)) w_ 3 (nI 0)) w_ 4 (nI 0)) w_ 5 (nI 0), μ1.2)
  refine V_aload_n hX dX6_begin_40 0 rfl ?_
  refine V_iconst (v := nI 0) hX dX6_begin_41 (by decide) ?_
  refine V_puti hX fX6_31 fw_5_6 hkw dX6_begin_42 ?_
  show V G 2 X 45 [(0, .ref w_), (1, .ref p_)] [] (vup (vup (vup (vup (vup (vup μ1.1 w_ 1 (nI 0)) w_ 2 (nI 0)) w_ 3 (nI 0)) w_ 4 (nI 0)) w_ 5 (nI 0)) w_ 6 (nI 0), μ1.2)
  refine V_aload_n hX dX6_begin_45 0 rfl ?_
  refine V_iconst (v := nI 0) hX dX6_begin_46 (by decide) ?_
  refine V_puti hX fX6_34 fw_5_7 hkw dX6_begin_47 ?_
  show V G 2 X 50 [(0, .ref w_), (1, .ref p_)] [] (vup (vup (vup (vup (vup (vup (vup μ1.1 w_ 1 (nI 0)) w_ 2 (nI 0)) w_ 3 (nI 0)) w_ 4 (nI 0)) w_ 5 (nI 0)) w_ 6 (nI 0)) w_ 7 (nI 0), μ1.2)
  refine V_aload_n hX dX6_begin_50 0 rfl ?_
  refine V_iconst (v := nI 0) hX dX6_begin_51 (by decide) ?_
  refine V_puti hX fX6_37 fw_5_8 hkw dX6_begin_52 ?_
  show V G 2 X 55 [(0, .ref w_), (1, .ref p_)] [] (vup (vup (vup (vup (vup (vup (vup (vup μ1.1 w_ 1 (nI 0)) w_ 2 (nI 0)) w_ 3 (nI 0)) w_ 4 (nI 0)) w_ 5 (nI 0)) w_ 6 (nI 0)) w_ 7 (nI 0)) w_ 8 (nI 0), μ1.2)
  refine V_aload_n hX dX6_begin_55 0 rfl ?_
  refine V_iconst (v := nI 0) hX dX6_begin_56 (by decide) ?_
  refine V_puti hX fX6_40 fw_5_9 hkw dX6_begin_57 ?_
  show V G 2 X 60 [(0, .ref w_), (1, .ref p_)] [] (vup (vup (vup (vup (vup (vup (vup (vup (vup μ1.1 w_ 1 (nI 0)) w_ 2 (nI 0)) w_ 3 (nI 0)) w_ 4 (nI 0)) w_ 5 (nI 0)) w_ 6 (nI 0)) w_ 7 (nI 0)) w_ 8 (nI 0)) w_ 9 (nI 0), μ1.2)
  refine V_aload_n hX dX6_begin_60 0 rfl ?_
  refine V_iconst (v := nI 0) hX dX6_begin_61 (by decide) ?_
  refine V_puti hX fX6_43 fw_5_10 hkw dX6_begin_62 ?_
  show V G 2 X 65 [(0, .ref w_), (1, .ref p_)] [] (vup (vup (vup (vup (vup (vup (vup (vup (vup (vup μ1.1 w_ 1 (nI 0)) w_ 2 (nI 0)) w_ 3 (nI 0)) w_ 4 (nI 0)) w_ 5 (nI 0)) w_ 6 (nI 0)) w_ 7 (nI 0)) w_ 8 (nI 0)) w_ 9 (nI 0)) w_ 10 (nI 0), μ1.2)
  refine V_aload_n hX dX6_begin_65 0 rfl ?_
  refine V_iconst (v := nI 0) hX dX6_begin_66 (by decide) ?_
  refine V_puti hX fX6_46 fw_5_11 hkw dX6_begin_67 ?_
  show V G 2 X 70 [(0, .ref w_), (1, .ref p_)] [] (vup (vup (vup (vup (vup (vup (vup (vup (vup (vup (vup μ1.1 w_ 1 (nI 0)) w_ 2 (nI 0)) w_ 3 (nI 0)) w_ 4 (nI 0)) w_ 5 (nI 0)) w_ 6 (nI 0)) w_ 7 (nI 0)) w_ 8 (nI 0)) w_ 9 (nI 0)) w_ 10 (nI 0)) w_ 11 (nI 0), μ1.2)
  refine V_aload_n hX dX6_begin_70 0 rfl ?_
  refine V_iconst (v := nI 0) hX dX6_begin_71 (by decide) ?_
  refine V_puti hX fX6_49 fw_5_12 hkw dX6_begin_72 ?_
  show V G 2 X 75 [(0, .ref w_), (1, .ref p_)] [] (vup (vup (vup (vup (vup (vup (vup (vup (vup (vup (vup (vup μ1.1 w_ 1 (nI 0)) w_ 2 (nI 0)) w_ 3 (nI 0)) w_ 4 (nI 0)) w_ 5 (nI 0)) w_ 6 (nI 0)) w_ 7 (nI 0)) w_ 8 (nI 0)) w_ 9 (nI 0)) w_ 10 (nI 0)) w_ 11 (nI 0)) w_ 12 (nI 0), μ1.2)
  refine V_vret hX rfl dX6_begin_75 ?_
  refine hR _ _ (hQ _ (fun a h1 h2 => ?_) ⟨fun h hh => ?_, ?_, ?_, fun k h7 h8 => ?_⟩ (by dsimp only; exact rd))
  · dsimp only; rw [vup_row _ _ _ h1, vup_row _ _ _ h1, vup_row _ _ _ h1, vup_row _ _ _ h1, vup_row _ _ _ h1, vup_row _ _ _ h1, vup_row _ _ _ h1, vup_row _ _ _ h1, vup_row _ _ _ h1, vup_row _ _ _ h1, vup_row _ _ _ h1, vup_row _ _ _ h1]; exact ra a h2
  · dsimp only; rw [vup_row _ _ _ (show w_ + 1 ≠ w_ by omega), vup_row _ _ _ (show w_ + 1 ≠ w_ by omega), vup_row _ _ _ (show w_ + 1 ≠ w_ by omega), vup_row _ _ _ (show w_ + 1 ≠ w_ by omega), vup_row _ _ _ (show w_ + 1 ≠ w_ by omega), vup_row _ _ _ (show w_ + 1 ≠ w_ by omega), vup_row _ _ _ (show w_ + 1 ≠ w_ by omega), vup_row _ _ _ (show w_ + 1 ≠ w_ by omega), vup_row _ _ _ (show w_ + 1 ≠ w_ by omega), vup_row _ _ _ (show w_ + 1 ≠ w_ by omega), vup_row _ _ _ (show w_ + 1 ≠ w_ by omega), vup_row _ _ _ (show w_ + 1 ≠ w_ by omega)]; rw [rb h hh]; exact hP.2 1 (by decide) h hh
  · exact ((vup_ne (by decide)).trans ((vup_ne (by decide)).trans ((vup_ne (by decide)).trans ((vup_ne (by decide)).trans ((vup_ne (by decide)).trans ((vup_ne (by decide)).trans ((vup_ne (by decide)).trans ((vup_ne (by decide)).trans ((vup_ne (by decide)).trans ((vup_ne (by decide)).trans ((vup_ne (by decide)).trans (vup_same _ _ _ _))))))))))))
  · exact ((vup_ne (by decide)).trans ((vup_ne (by decide)).trans ((vup_ne (by decide)).trans ((vup_ne (by decide)).trans ((vup_ne (by decide)).trans ((vup_ne (by decide)).trans ((vup_ne (by decide)).trans ((vup_ne (by decide)).trans ((vup_ne (by decide)).trans ((vup_ne (by decide)).trans (vup_same _ _ _ _)))))))))))
  · match k, h7, h8 with
    | 7, _, _ => exact ((vup_ne (by decide)).trans ((vup_ne (by decide)).trans ((vup_ne (by decide)).trans ((vup_ne (by decide)).trans ((vup_ne (by decide)).trans (vup_same _ _ _ _))))))
    | 8, _, _ => exact ((vup_ne (by decide)).trans ((vup_ne (by decide)).trans ((vup_ne (by decide)).trans ((vup_ne (by decide)).trans (vup_same _ _ _ _)))))
    | 9, _, _ => exact ((vup_ne (by decide)).trans ((vup_ne (by decide)).trans ((vup_ne (by decide)).trans (vup_same _ _ _ _))))
    | 10, _, _ => exact ((vup_ne (by decide)).trans ((vup_ne (by decide)).trans (vup_same _ _ _ _)))
    | 11, _, _ => exact ((vup_ne (by decide)).trans (vup_same _ _ _ _))
    | 12, _, _ => exact (vup_same _ _ _ _)
set_option maxRecDepth 100000 in
set_option maxHeartbeats 4000000 in
theorem k_become {G : VG} {d : Nat} {μ : VS} {Q : Option Value → VS → Prop} {w_ v_ : Nat} {u_ : MW} (hkw : vk w_ = (5, 0)) (hkv : vk v_ = (5, 0)) (hne : w_ + 2 ≤ v_ ∨ v_ + 2 ≤ w_) (hU : isW μ v_ u_) (hQ : ∀ μ', (∀ a, a ≠ w_ → a ≠ w_ + 1 → μ'.1 a = μ.1 a) → isW μ' w_ u_ → μ'.2 = μ.2 → Q none μ') : Call G (d + 1) yX6_become cX6_become 2 none [.ref w_, .ref v_] μ Q := by
  intro X hX hR
  show V G 2 X 0 [(0, .ref w_), (1, .ref v_)] [] μ
  refine V_aload_n hX dX6_become_0 1 rfl ?_
  refine V_getr (j := v_ + 1) hX fX6_9 hkv rfl dX6_become_1 ?_
  refine V_iconst (v := nI 0) hX dX6_become_4 (by decide) ?_
  refine V_aload_n hX dX6_become_5 0 rfl ?_
  refine V_getr (j := w_ + 1) hX fX6_9 hkw rfl dX6_become_6 ?_
  refine V_iconst (v := nI 0) hX dX6_become_9 (by decide) ?_
  refine V_bipush (v := nI 8) hX dX6_become_10 (by decide) ?_
  refine V_copyR hX mX6_57 (vk_wlk hkv) (vk_wlk hkw) (by decide) (by decide) (by decide) (Nat.le_of_ble_eq_true rfl) dX6_become_12 (fun μ1 ra rb rc rd => ?_)
  refine V_aload_n hX dX6_become_15 0 rfl ?_
  refine V_aload_n hX dX6_become_16 1 rfl ?_
  refine V_getN (x := nI u_.2.1) hX fX6_15 hkv ((congrFun (ra v_ (by omega)) _).trans hU.2.1) dX6_become_17 ?_
  refine V_puti hX fX6_15 fw_5_1 hkw dX6_become_20 ?_
  show V G 2 X 23 [(0, .ref w_), (1, .ref v_)] [] (vup μ1.1 w_ 1 (nI u_.2.1), μ1.2)
  refine V_aload_n hX dX6_become_23 0 rfl ?_
  refine V_aload_n hX dX6_become_24 1 rfl ?_
  refine V_getN (x := nI u_.2.2.1) hX fX6_19 hkv ((congrFun (vup_row _ _ _ (show v_ ≠ w_ by omega)) _).trans ((congrFun (ra v_ (by omega)) _).trans hU.2.2.1)) dX6_become_25 ?_
  refine V_puti hX fX6_19 fw_5_2 hkw dX6_become_28 ?_
  show V G 2 X 31 [(0, .ref w_), (1, .ref v_)] [] (vup (vup μ1.1 w_ 1 (nI u_.2.1)) w_ 2 (nI u_.2.2.1), μ1.2)
  refine V_aload_n hX dX6_become_31 0 rfl ?_
  refine V_aload_n hX dX6_become_32 1 rfl ?_
  refine V_getN (x := μ1.1 v_ 3) hX fX6_22 hkv ((congrFun (vup_row _ _ _ (show v_ ≠ w_ by omega)) _).trans ((congrFun (vup_row _ _ _ (show v_ ≠ w_ by omega)) _).trans rfl)) dX6_become_33 ?_
  refine V_puti hX fX6_22 fw_5_3 hkw dX6_become_36 ?_
  show V G 2 X 39 [(0, .ref w_), (1, .ref v_)] [] (vup (vup (vup μ1.1 w_ 1 (nI u_.2.1)) w_ 2 (nI u_.2.2.1)) w_ 3 (μ1.1 v_ 3), μ1.2)
  refine V_aload_n hX dX6_become_39 0 rfl ?_
  refine V_aload_n hX dX6_become_40 1 rfl ?_
  refine V_getN (x := μ1.1 v_ 4) hX fX6_25 hkv ((congrFun (vup_row _ _ _ (show v_ ≠ w_ by omega)) _).trans ((congrFun (vup_row _ _ _ (show v_ ≠ w_ by omega)) _).trans ((congrFun (vup_row _ _ _ (show v_ ≠ w_ by omega)) _).trans rfl))) dX6_become_41 ?_
  refine V_puti hX fX6_25 fw_5_4 hkw dX6_become_44 ?_
  show V G 2 X 47 [(0, .ref w_), (1, .ref v_)] [] (vup (vup (vup (vup μ1.1 w_ 1 (nI u_.2.1)) w_ 2 (nI u_.2.2.1)) w_ 3 (μ1.1 v_ 3)) w_ 4 (μ1.1 v_ 4), μ1.2)
  refine V_aload_n hX dX6_become_47 0 rfl ?_
  refine V_aload_n hX dX6_become_48 1 rfl ?_
  refine V_getN (x := μ1.1 v_ 5) hX fX6_28 hkv ((congrFun (vup_row _ _ _ (show v_ ≠ w_ by omega)) _).trans ((congrFun (vup_row _ _ _ (show v_ ≠ w_ by omega)) _).trans ((congrFun (vup_row _ _ _ (show v_ ≠ w_ by omega)) _).trans ((congrFun (vup_row _ _ _ (show v_ ≠ w_ by omega)) _).trans rfl)))) dX6_become_49 ?_
  refine V_puti hX fX6_28 fw_5_5 hkw dX6_become_52 ?_
  show V G 2 X 55 [(0, .ref w_), (1, .ref v_)] [] (vup (vup (vup (vup (vup μ1.1 w_ 1 (nI u_.2.1)) w_ 2 (nI u_.2.2.1)) w_ 3 (μ1.1 v_ 3)) w_ 4 (μ1.1 v_ 4)) w_ 5 (μ1.1 v_ 5), μ1.2)
  refine V_aload_n hX dX6_become_55 0 rfl ?_
  refine V_aload_n hX dX6_become_56 1 rfl ?_
  refine V_getN (x := μ1.1 v_ 6) hX fX6_31 hkv ((congrFun (vup_row _ _ _ (show v_ ≠ w_ by omega)) _).trans ((congrFun (vup_row _ _ _ (show v_ ≠ w_ by omega)) _).trans ((congrFun (vup_row _ _ _ (show v_ ≠ w_ by omega)) _).trans ((congrFun (vup_row _ _ _ (show v_ ≠ w_ by omega)) _).trans ((congrFun (vup_row _ _ _ (show v_ ≠ w_ by omega)) _).trans rfl))))) dX6_become_57 ?_
  refine V_puti hX fX6_31 fw_5_6 hkw dX6_become_60 ?_
  show V G 2 X 63 [(0, .ref w_), (1, .ref v_)] [] (vup (vup (vup (vup (vup (vup μ1.1 w_ 1 (nI u_.2.1)) w_ 2 (nI u_.2.2.1)) w_ 3 (μ1.1 v_ 3)) w_ 4 (μ1.1 v_ 4)) w_ 5 (μ1.1 v_ 5)) w_ 6 (μ1.1 v_ 6), μ1.2)
  refine V_aload_n hX dX6_become_63 0 rfl ?_
  refine V_aload_n hX dX6_become_64 1 rfl ?_
  refine V_getN (x := nI (u_.2.2.2 7)) hX fX6_34 hkv ((congrFun (vup_row _ _ _ (show v_ ≠ w_ by omega)) _).trans ((congrFun (vup_row _ _ _ (show v_ ≠ w_ by omega)) _).trans ((congrFun (vup_row _ _ _ (show v_ ≠ w_ by omega)) _).trans ((congrFun (vup_row _ _ _ (show v_ ≠ w_ by omega)) _).trans ((congrFun (vup_row _ _ _ (show v_ ≠ w_ by omega)) _).trans ((congrFun (vup_row _ _ _ (show v_ ≠ w_ by omega)) _).trans ((congrFun (ra v_ (by omega)) _).trans (hU.2.2.2 7 (by decide) (by decide))))))))) dX6_become_65 ?_
  refine V_puti hX fX6_34 fw_5_7 hkw dX6_become_68 ?_
  show V G 2 X 71 [(0, .ref w_), (1, .ref v_)] [] (vup (vup (vup (vup (vup (vup (vup μ1.1 w_ 1 (nI u_.2.1)) w_ 2 (nI u_.2.2.1)) w_ 3 (μ1.1 v_ 3)) w_ 4 (μ1.1 v_ 4)) w_ 5 (μ1.1 v_ 5)) w_ 6 (μ1.1 v_ 6)) w_ 7 (nI (u_.2.2.2 7)), μ1.2)
  refine V_aload_n hX dX6_become_71 0 rfl ?_
  refine V_aload_n hX dX6_become_72 1 rfl ?_
  refine V_getN (x := nI (u_.2.2.2 8)) hX fX6_37 hkv ((congrFun (vup_row _ _ _ (show v_ ≠ w_ by omega)) _).trans ((congrFun (vup_row _ _ _ (show v_ ≠ w_ by omega)) _).trans ((congrFun (vup_row _ _ _ (show v_ ≠ w_ by omega)) _).trans ((congrFun (vup_row _ _ _ (show v_ ≠ w_ by omega)) _).trans ((congrFun (vup_row _ _ _ (show v_ ≠ w_ by omega)) _).trans ((congrFun (vup_row _ _ _ (show v_ ≠ w_ by omega)) _).trans ((congrFun (vup_row _ _ _ (show v_ ≠ w_ by omega)) _).trans ((congrFun (ra v_ (by omega)) _).trans (hU.2.2.2 8 (by decide) (by decide)))))))))) dX6_become_73 ?_
  refine V_puti hX fX6_37 fw_5_8 hkw dX6_become_76 ?_
  show V G 2 X 79 [(0, .ref w_), (1, .ref v_)] [] (vup (vup (vup (vup (vup (vup (vup (vup μ1.1 w_ 1 (nI u_.2.1)) w_ 2 (nI u_.2.2.1)) w_ 3 (μ1.1 v_ 3)) w_ 4 (μ1.1 v_ 4)) w_ 5 (μ1.1 v_ 5)) w_ 6 (μ1.1 v_ 6)) w_ 7 (nI (u_.2.2.2 7))) w_ 8 (nI (u_.2.2.2 8)), μ1.2)
  refine V_aload_n hX dX6_become_79 0 rfl ?_
  refine V_aload_n hX dX6_become_80 1 rfl ?_
  refine V_getN (x := nI (u_.2.2.2 9)) hX fX6_40 hkv ((congrFun (vup_row _ _ _ (show v_ ≠ w_ by omega)) _).trans ((congrFun (vup_row _ _ _ (show v_ ≠ w_ by omega)) _).trans ((congrFun (vup_row _ _ _ (show v_ ≠ w_ by omega)) _).trans ((congrFun (vup_row _ _ _ (show v_ ≠ w_ by omega)) _).trans ((congrFun (vup_row _ _ _ (show v_ ≠ w_ by omega)) _).trans ((congrFun (vup_row _ _ _ (show v_ ≠ w_ by omega)) _).trans ((congrFun (vup_row _ _ _ (show v_ ≠ w_ by omega)) _).trans ((congrFun (vup_row _ _ _ (show v_ ≠ w_ by omega)) _).trans ((congrFun (ra v_ (by omega)) _).trans (hU.2.2.2 9 (by decide) (by decide))))))))))) dX6_become_81 ?_
  refine V_puti hX fX6_40 fw_5_9 hkw dX6_become_84 ?_
  show V G 2 X 87 [(0, .ref w_), (1, .ref v_)] [] (vup (vup (vup (vup (vup (vup (vup (vup (vup μ1.1 w_ 1 (nI u_.2.1)) w_ 2 (nI u_.2.2.1)) w_ 3 (μ1.1 v_ 3)) w_ 4 (μ1.1 v_ 4)) w_ 5 (μ1.1 v_ 5)) w_ 6 (μ1.1 v_ 6)) w_ 7 (nI (u_.2.2.2 7))) w_ 8 (nI (u_.2.2.2 8))) w_ 9 (nI (u_.2.2.2 9)), μ1.2)
  refine V_aload_n hX dX6_become_87 0 rfl ?_
  refine V_aload_n hX dX6_become_88 1 rfl ?_
  refine V_getN (x := nI (u_.2.2.2 10)) hX fX6_43 hkv ((congrFun (vup_row _ _ _ (show v_ ≠ w_ by omega)) _).trans ((congrFun (vup_row _ _ _ (show v_ ≠ w_ by omega)) _).trans ((congrFun (vup_row _ _ _ (show v_ ≠ w_ by omega)) _).trans ((congrFun (vup_row _ _ _ (show v_ ≠ w_ by omega)) _).trans ((congrFun (vup_row _ _ _ (show v_ ≠ w_ by omega)) _).trans ((congrFun (vup_row _ _ _ (show v_ ≠ w_ by omega)) _).trans ((congrFun (vup_row _ _ _ (show v_ ≠ w_ by omega)) _).trans ((congrFun (vup_row _ _ _ (show v_ ≠ w_ by omega)) _).trans ((congrFun (vup_row _ _ _ (show v_ ≠ w_ by omega)) _).trans ((congrFun (ra v_ (by omega)) _).trans (hU.2.2.2 10 (by decide) (by decide)))))))))))) dX6_become_89 ?_
  refine V_puti hX fX6_43 fw_5_10 hkw dX6_become_92 ?_
  show V G 2 X 95 [(0, .ref w_), (1, .ref v_)] [] (vup (vup (vup (vup (vup (vup (vup (vup (vup (vup μ1.1 w_ 1 (nI u_.2.1)) w_ 2 (nI u_.2.2.1)) w_ 3 (μ1.1 v_ 3)) w_ 4 (μ1.1 v_ 4)) w_ 5 (μ1.1 v_ 5)) w_ 6 (μ1.1 v_ 6)) w_ 7 (nI (u_.2.2.2 7))) w_ 8 (nI (u_.2.2.2 8))) w_ 9 (nI (u_.2.2.2 9))) w_ 10 (nI (u_.2.2.2 10)), μ1.2)
  refine V_aload_n hX dX6_become_95 0 rfl ?_
  refine V_aload_n hX dX6_become_96 1 rfl ?_
  refine V_getN (x := nI (u_.2.2.2 11)) hX fX6_46 hkv ((congrFun (vup_row _ _ _ (show v_ ≠ w_ by omega)) _).trans ((congrFun (vup_row _ _ _ (show v_ ≠ w_ by omega)) _).trans ((congrFun (vup_row _ _ _ (show v_ ≠ w_ by omega)) _).trans ((congrFun (vup_row _ _ _ (show v_ ≠ w_ by omega)) _).trans ((congrFun (vup_row _ _ _ (show v_ ≠ w_ by omega)) _).trans ((congrFun (vup_row _ _ _ (show v_ ≠ w_ by omega)) _).trans ((congrFun (vup_row _ _ _ (show v_ ≠ w_ by omega)) _).trans ((congrFun (vup_row _ _ _ (show v_ ≠ w_ by omega)) _).trans ((congrFun (vup_row _ _ _ (show v_ ≠ w_ by omega)) _).trans ((congrFun (vup_row _ _ _ (show v_ ≠ w_ by omega)) _).trans ((congrFun (ra v_ (by omega)) _).trans (hU.2.2.2 11 (by decide) (by decide))))))))))))) dX6_become_97 ?_
  refine V_puti hX fX6_46 fw_5_11 hkw dX6_become_100 ?_
  show V G 2 X 103 [(0, .ref w_), (1, .ref v_)] [] (vup (vup (vup (vup (vup (vup (vup (vup (vup (vup (vup μ1.1 w_ 1 (nI u_.2.1)) w_ 2 (nI u_.2.2.1)) w_ 3 (μ1.1 v_ 3)) w_ 4 (μ1.1 v_ 4)) w_ 5 (μ1.1 v_ 5)) w_ 6 (μ1.1 v_ 6)) w_ 7 (nI (u_.2.2.2 7))) w_ 8 (nI (u_.2.2.2 8))) w_ 9 (nI (u_.2.2.2 9))) w_ 10 (nI (u_.2.2.2 10))) w_ 11 (nI (u_.2.2.2 11)), μ1.2)
  refine V_aload_n hX dX6_become_103 0 rfl ?_
  refine V_aload_n hX dX6_become_104 1 rfl ?_
  refine V_getN (x := nI (u_.2.2.2 12)) hX fX6_49 hkv ((congrFun (vup_row _ _ _ (show v_ ≠ w_ by omega)) _).trans ((congrFun (vup_row _ _ _ (show v_ ≠ w_ by omega)) _).trans ((congrFun (vup_row _ _ _ (show v_ ≠ w_ by omega)) _).trans ((congrFun (vup_row _ _ _ (show v_ ≠ w_ by omega)) _).trans ((congrFun (vup_row _ _ _ (show v_ ≠ w_ by omega)) _).trans ((congrFun (vup_row _ _ _ (show v_ ≠ w_ by omega)) _).trans ((congrFun (vup_row _ _ _ (show v_ ≠ w_ by omega)) _).trans ((congrFun (vup_row _ _ _ (show v_ ≠ w_ by omega)) _).trans ((congrFun (vup_row _ _ _ (show v_ ≠ w_ by omega)) _).trans ((congrFun (vup_row _ _ _ (show v_ ≠ w_ by omega)) _).trans ((congrFun (vup_row _ _ _ (show v_ ≠ w_ by omega)) _).trans ((congrFun (ra v_ (by omega)) _).trans (hU.2.2.2 12 (by decide) (by decide)))))))))))))) dX6_become_105 ?_
  refine V_puti hX fX6_49 fw_5_12 hkw dX6_become_108 ?_
  show V G 2 X 111 [(0, .ref w_), (1, .ref v_)] [] (vup (vup (vup (vup (vup (vup (vup (vup (vup (vup (vup (vup μ1.1 w_ 1 (nI u_.2.1)) w_ 2 (nI u_.2.2.1)) w_ 3 (μ1.1 v_ 3)) w_ 4 (μ1.1 v_ 4)) w_ 5 (μ1.1 v_ 5)) w_ 6 (μ1.1 v_ 6)) w_ 7 (nI (u_.2.2.2 7))) w_ 8 (nI (u_.2.2.2 8))) w_ 9 (nI (u_.2.2.2 9))) w_ 10 (nI (u_.2.2.2 10))) w_ 11 (nI (u_.2.2.2 11))) w_ 12 (nI (u_.2.2.2 12)), μ1.2)
  refine V_vret hX rfl dX6_become_111 ?_
  refine hR _ _ (hQ _ (fun a h1 h2 => ?_) ⟨fun h hh => ?_, ?_, ?_, fun k h7 h8 => ?_⟩ (by dsimp only; exact rd))
  · dsimp only; rw [vup_row _ _ _ h1, vup_row _ _ _ h1, vup_row _ _ _ h1, vup_row _ _ _ h1, vup_row _ _ _ h1, vup_row _ _ _ h1, vup_row _ _ _ h1, vup_row _ _ _ h1, vup_row _ _ _ h1, vup_row _ _ _ h1, vup_row _ _ _ h1, vup_row _ _ _ h1]; exact ra a h2
  · dsimp only; rw [vup_row _ _ _ (show w_ + 1 ≠ w_ by omega), vup_row _ _ _ (show w_ + 1 ≠ w_ by omega), vup_row _ _ _ (show w_ + 1 ≠ w_ by omega), vup_row _ _ _ (show w_ + 1 ≠ w_ by omega), vup_row _ _ _ (show w_ + 1 ≠ w_ by omega), vup_row _ _ _ (show w_ + 1 ≠ w_ by omega), vup_row _ _ _ (show w_ + 1 ≠ w_ by omega), vup_row _ _ _ (show w_ + 1 ≠ w_ by omega), vup_row _ _ _ (show w_ + 1 ≠ w_ by omega), vup_row _ _ _ (show w_ + 1 ≠ w_ by omega), vup_row _ _ _ (show w_ + 1 ≠ w_ by omega), vup_row _ _ _ (show w_ + 1 ≠ w_ by omega)]; rw [rb h hh]; exact hU.1 h hh
  · exact ((vup_ne (by decide)).trans ((vup_ne (by decide)).trans ((vup_ne (by decide)).trans ((vup_ne (by decide)).trans ((vup_ne (by decide)).trans ((vup_ne (by decide)).trans ((vup_ne (by decide)).trans ((vup_ne (by decide)).trans ((vup_ne (by decide)).trans ((vup_ne (by decide)).trans ((vup_ne (by decide)).trans (vup_same _ _ _ _))))))))))))
  · exact ((vup_ne (by decide)).trans ((vup_ne (by decide)).trans ((vup_ne (by decide)).trans ((vup_ne (by decide)).trans ((vup_ne (by decide)).trans ((vup_ne (by decide)).trans ((vup_ne (by decide)).trans ((vup_ne (by decide)).trans ((vup_ne (by decide)).trans ((vup_ne (by decide)).trans (vup_same _ _ _ _)))))))))))
  · match k, h7, h8 with
    | 7, _, _ => exact ((vup_ne (by decide)).trans ((vup_ne (by decide)).trans ((vup_ne (by decide)).trans ((vup_ne (by decide)).trans ((vup_ne (by decide)).trans (vup_same _ _ _ _))))))
    | 8, _, _ => exact ((vup_ne (by decide)).trans ((vup_ne (by decide)).trans ((vup_ne (by decide)).trans ((vup_ne (by decide)).trans (vup_same _ _ _ _)))))
    | 9, _, _ => exact ((vup_ne (by decide)).trans ((vup_ne (by decide)).trans ((vup_ne (by decide)).trans (vup_same _ _ _ _))))
    | 10, _, _ => exact ((vup_ne (by decide)).trans ((vup_ne (by decide)).trans (vup_same _ _ _ _)))
    | 11, _, _ => exact ((vup_ne (by decide)).trans (vup_same _ _ _ _))
    | 12, _, _ => exact (vup_same _ _ _ _)
set_option maxRecDepth 100000 in
set_option maxHeartbeats 4000000 in
theorem lp_passAll {G : VG} {d : Nat} {X : VX} {μ : VS} {w_ p_ f_ t_ n_ L : Nat} {P : PC} {S : Nat → Nat} {u_ : MW} (hX : Cx G (d + 4) yX6_passAll cX6_passAll 6 none X) (hkw : vk w_ = (5, 0)) (hkp : vk p_ = (3, 0)) (hP : isP μ p_ P) (hok : okP P) (hL : isPad μ L S) (hS : ∀ i, i < L → 33 ≤ S i ∧ S i ≤ 126) (hL60 : L ≤ 60) (hu : okU u_ n_) (htL : t_ ≤ L) (hft : f_ ≤ t_) (hn : n_ + (t_ - f_) ≤ 100)  (hE : ∀ μ1 : VS, (∀ a, a ≠ w_ → a ≠ w_ + 1 → μ1.1 a = μ.1 a) → isW μ1 w_ (mwR P (fun i => S (f_ + i)) noC u_ (t_ - f_)) → (f_ < t_ → isK μ1 w_ P (S (t_ - 1)) (mwL1 P (S (t_ - 1)) false (mwR P (fun i => S (f_ + i)) noC u_ (t_ - 1 - f_)))) → μ1.2 = μ.2 → V G 6 X 29 [(0, .ref w_), (1, .ref p_), (2, .ref 31), (3, .int (nI f_)), (4, .int (nI t_)), (5, .int (nI t_))] [] μ1) : ∀ (j k_ : Nat) (μ1 : VS), f_ ≤ k_ ∧ k_ ≤ t_ → t_ + 1 ≤ k_ + j → (∀ a, a ≠ w_ → a ≠ w_ + 1 → μ1.1 a = μ.1 a) → isW μ1 w_ (mwR P (fun i => S (f_ + i)) noC u_ (k_ - f_)) → (f_ < k_ → isK μ1 w_ P (S (k_ - 1)) (mwL1 P (S (k_ - 1)) false (mwR P (fun i => S (f_ + i)) noC u_ (k_ - 1 - f_)))) → μ1.2 = μ.2 → V G 6 X 3 [(0, .ref w_), (1, .ref p_), (2, .ref 31), (3, .int (nI f_)), (4, .int (nI t_)), (5, .int (nI k_))] [] μ1 := by
  have hap := pw_apart hkp hkw
  have hwr := wk_range hkw
  intro j
  induction j with
  | zero =>
    intro k_ μ1 h1 h2
    exact absurd h2 (by omega)
  | succ j ih =>
    intro k_ μ1 h1 h2 hI1 hU1 hK1 hJ1
    have hP1 : isP μ1 p_ P := hP.frame (fun j hj => hI1 _ (by omega) (by omega))
    have hL1 : isPad μ1 L S := ⟨by rw [hI1 31 (by omega) (by omega)]; exact hL.1, fun i hi => by rw [hI1 32 (by omega) (by omega)]; exact hL.2 i hi⟩
    refine V_iload hX dX6_passAll_3 5 rfl ?_
    refine V_iload hX dX6_passAll_5 4 rfl ?_
    refine V_icmp_geN (tgt := 29) hX dX6_passAll_7 (by decide) (by omega) (by omega) (fun c7 => ?_) (fun c7 => ?_)
    · obtain rfl : k_ = t_ := by omega
      exact hE μ1 hI1 hU1 hK1 hJ1
    · refine V_aload_n hX dX6_passAll_10 0 rfl ?_
      refine V_aload_n hX dX6_passAll_11 1 rfl ?_
      refine V_aload_n hX dX6_passAll_12 2 rfl ?_
      refine V_getr (j := 32) hX fX6_63 rfl rfl dX6_passAll_13 ?_
      refine V_iload hX dX6_passAll_16 5 rfl ?_
      refine V_ialdN (x := nI (S k_)) hX rfl (by omega) (by decide) (hL1.2 _ (by omega)) dX6_passAll_18 ?_
      refine V_iconst (v := nI 0) hX dX6_passAll_19 (by decide) ?_
      show V G 6 X 20 [(0, .ref w_), (1, .ref p_), (2, .ref 31), (3, .int (nI f_)), (4, .int (nI t_)), (5, .int (nI k_))] [.int (bI (false = true)), .int (nI (S k_)), .ref p_, .ref w_] μ1
      refine V_callV (As := [.ref p_, .int (nI (S k_)), .int (bI (false = true))]) (st := []) hX mX6_68 hkw (k_pass (cold_ := false) (P := P) hkw hkp hP1 hok (by have := hS k_ (by omega); omega) hU1 (mwR_ok hok hu (k_ - f_)) (by omega) (fun μ2 a2 b2 c2 d2 => ?_)) rfl (Nat.le_of_ble_eq_true rfl) (Nat.le_of_ble_eq_true rfl) dX6_passAll_20
      show V G 6 X 23 [(0, .ref w_), (1, .ref p_), (2, .ref 31), (3, .int (nI f_)), (4, .int (nI t_)), (5, .int (nI k_))] [] μ2
      refine V_iincN (n := 1) (ls' := [(0, .ref w_), (1, .ref p_), (2, .ref 31), (3, .int (nI f_)), (4, .int (nI t_)), (5, .int (nI (k_ + 1)))]) hX dX6_passAll_23 5 rfl (by decide) rfl ?_
      refine V_goto (tgt := 3) hX dX6_passAll_26 (by decide) ?_
      exact ih (k_ + 1) μ2 (by omega) (by omega) (fun a h1 h2 => by rw [a2 a h1 h2, hI1 a h1 h2]) (by rw [show k_ + 1 - f_ = (k_ - f_) + 1 by omega]; show isW μ2 w_ (mwStep P (S (f_ + (k_ - f_))) false _); rw [show f_ + (k_ - f_) = k_ by omega]; exact b2) (fun _ => by rw [show k_ + 1 - 1 = k_ by omega]; have e9 : mwL1 P (S k_) false (mwR P (fun i => S (f_ + i)) noC u_ (k_ - f_)) = mwL1 P (S k_) false (mwR P (fun i => S (f_ + i)) noC u_ (k_ - f_)) := rfl; exact c2) (by rw [d2, hJ1])
set_option maxRecDepth 100000 in
set_option maxHeartbeats 4000000 in
theorem k_passAll {G : VG} {d : Nat} {μ : VS} {Q : Option Value → VS → Prop} {w_ p_ f_ t_ n_ L : Nat} {P : PC} {S : Nat → Nat} {u_ : MW} (hkw : vk w_ = (5, 0)) (hkp : vk p_ = (3, 0)) (hP : isP μ p_ P) (hok : okP P) (hL : isPad μ L S) (hS : ∀ i, i < L → 33 ≤ S i ∧ S i ≤ 126) (hL60 : L ≤ 60) (hu : okU u_ n_) (htL : t_ ≤ L) (hft : f_ ≤ t_) (hn : n_ + (t_ - f_) ≤ 100) (hU : isW μ w_ u_) (hQ : ∀ μ' : VS, (∀ a, a ≠ w_ → a ≠ w_ + 1 → μ'.1 a = μ.1 a) → isW μ' w_ (mwR P (fun i => S (f_ + i)) noC u_ (t_ - f_)) → (f_ < t_ → isK μ' w_ P (S (t_ - 1)) (mwL1 P (S (t_ - 1)) false (mwR P (fun i => S (f_ + i)) noC u_ (t_ - 1 - f_)))) → μ'.2 = μ.2 → Q none μ') : Call G (d + 4) yX6_passAll cX6_passAll 6 none [.ref w_, .ref p_, .ref 31, .int (nI f_), .int (nI t_)] μ Q := by
  intro X hX hR
  show V G 6 X 0 [(0, .ref w_), (1, .ref p_), (2, .ref 31), (3, .int (nI f_)), (4, .int (nI t_))] [] μ
  refine V_iload_n hX dX6_passAll_0 3 rfl ?_
  refine V_istore (ls' := [(0, .ref w_), (1, .ref p_), (2, .ref 31), (3, .int (nI f_)), (4, .int (nI t_)), (5, .int (nI f_))]) hX dX6_passAll_1 (by decide) rfl ?_
  refine lp_passAll hX hkw hkp hP hok hL hS hL60 hu htL hft hn (fun μ1 g1 g2 g3 g4 => ?_) (t_ - f_ + 1) f_ μ (by omega) (by omega) (fun _ _ _ => rfl) (by rw [Nat.sub_self]; exact hU) (fun z => absurd z (by omega)) rfl
  refine V_vret hX rfl dX6_passAll_29 ?_
  exact hR _ _ (hQ μ1 g1 g2 g3 g4)
set_option maxRecDepth 100000 in
set_option maxHeartbeats 4000000 in
theorem k_goneThrough {G : VG} {d : Nat} {μ : VS} {Q : Option Value → VS → Prop} {t_ L : Nat} {P : PC} {S : Nat → Nat} (hP : isP μ 1 P) (hok : okP P) (hL : isPad μ L S) (hS : ∀ i, i < L → 33 ≤ S i ∧ S i ≤ 126) (hL60 : L ≤ 60) (htL : t_ ≤ L) (hQ : ∀ μ' : VS, (∀ a, a ≠ 34 → a ≠ 35 → μ'.1 a = μ.1 a) → isW μ' 34 (mwR P S noC (mw0 P) t_) → (0 < t_ → isK μ' 34 P (S (t_ - 1)) (mwL1 P (S (t_ - 1)) false (mwR P S noC (mw0 P) (t_ - 1)))) → μ'.2 = μ.2 → Q (some (.ref 34)) μ') : Call G (d + 5) yX8_goneThrough cX8_goneThrough 3 (some (.object "NodTax$Walk")) [.ref 0, .int (nI t_)] μ Q := by
  intro X hX hR
  show V G 3 X 0 [(0, .ref 0), (1, .int (nI t_))] [] μ
  refine V_aload_n hX dX8_goneThrough_0 0 rfl ?_
  refine V_getr (j := 33) hX fX8_36 rfl rfl dX8_goneThrough_1 ?_
  refine V_iconst (v := nI 0) hX dX8_goneThrough_4 (by decide) ?_
  refine V_waldN (r := 34) hX rfl (by decide) (by decide) rfl dX8_goneThrough_5 ?_
  refine V_astore_n (ls' := [(0, .ref 0), (1, .int (nI t_)), (2, .ref 34)]) hX dX8_goneThrough_6 (by decide) rfl ?_
  refine V_aload_n hX dX8_goneThrough_7 2 rfl ?_
  refine V_aload_n hX dX8_goneThrough_8 0 rfl ?_
  refine V_getr (j := 1) hX fX8_10 rfl rfl dX8_goneThrough_9 ?_
  refine V_callV (As := [.ref 1]) (st := []) hX mX8_287 rfl (k_begin rfl rfl hP (fun μ1 a1 b1 d1 => ?_)) rfl (Nat.le_of_ble_eq_true rfl) (Nat.le_of_ble_eq_true rfl) dX8_goneThrough_12
  show V G 3 X 15 [(0, .ref 0), (1, .int (nI t_)), (2, .ref 34)] [] μ1
  have hP1 : isP μ1 1 P := hP.frame (fun j hj => a1 _ (by omega) (by omega))
  have hL1 : isPad μ1 L S := ⟨by rw [a1 31 (by omega) (by omega)]; exact hL.1, fun i hi => by rw [a1 32 (by omega) (by omega)]; exact hL.2 i hi⟩
  refine V_aload_n hX dX8_goneThrough_15 2 rfl ?_
  refine V_aload_n hX dX8_goneThrough_16 0 rfl ?_
  refine V_getr (j := 1) hX fX8_10 rfl rfl dX8_goneThrough_17 ?_
  refine V_aload_n hX dX8_goneThrough_20 0 rfl ?_
  refine V_getr (j := 31) hX fX8_30 rfl rfl dX8_goneThrough_21 ?_
  refine V_iconst (v := nI 0) hX dX8_goneThrough_24 (by decide) ?_
  refine V_iload_n hX dX8_goneThrough_25 1 rfl ?_
  refine V_callV (As := [.ref 1, .ref 31, .int (nI 0), .int (nI t_)]) (st := []) hX mX8_290 rfl (k_passAll (P := P) (n_ := 0) rfl rfl hP1 hok hL1 hS hL60 (mw0_ok hok) htL (Nat.zero_le _) (by omega) b1 (fun μ2 a2 b2 c2 d2 => ?_)) rfl (Nat.le_of_ble_eq_true rfl) (Nat.le_of_ble_eq_true rfl) dX8_goneThrough_26
  show V G 3 X 29 [(0, .ref 0), (1, .int (nI t_)), (2, .ref 34)] [] μ2
  refine V_aload_n hX dX8_goneThrough_29 2 rfl ?_
  refine V_aret hX rfl dX8_goneThrough_30 ?_
  exact hR _ _ (hQ μ2 (fun a h1 h2 => by rw [a2 a h1 h2, a1 a h1 h2]) (by simp only [Nat.zero_add, Nat.sub_zero] at b2; exact b2) (fun z => by have c3 := c2 z; simp only [Nat.zero_add, Nat.sub_zero] at c3; exact c3) (by rw [d2, d1]))
