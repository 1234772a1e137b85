theorem vp_cons {D : va_G} {cl : List vw_C} {F : Nat → Nat × va_E} {H : Heap} (s n : Nat) (h : va_at D cl (F s) H) (h2 : va_P D cl ((List.range' (s + 1) n).map F) H) : va_P D cl ((List.range' s (n + 1)).map F) H := by
  intro i q hq
  rw [List.range'_succ, List.map_cons] at hq
  cases i with
  | zero =>
    rw [List.getElem?_cons_zero] at hq
    cases hq
    exact h
  | succ i =>
    rw [List.getElem?_cons_succ] at hq
    exact h2 i q hq
theorem vp_none {D : va_G} {cl : List vw_C} {F : Nat → Nat × va_E} {H : Heap} (s : Nat) : va_P D cl ((List.range' s 0).map F) H := by
  intro i q hq
  rw [List.range'_zero, List.map_nil, List.getElem?_nil] at hq
  cases hq
theorem at_int {G : VG} {μ : VS} {H : Heap} {i n a : Nat} (hk : vk i = (9, n)) (ha : G.2.1 i = a) (h0 : μ.1 i = fun _ => 0) (h : va_at G.1 vwCl (a, .inl (G.2.2 9, n, .inl (fun _ => 0))) H) : va_at G.1 vwCl (G.2.1 i, vE G μ i) H := by
  rw [vE_int G μ hk, ha, h0]
  exact h
theorem at_bool {G : VG} {μ : VS} {H : Heap} {i n a : Nat} (hk : vk i = (11, n)) (ha : G.2.1 i = a) (h0 : μ.1 i = fun _ => 0) (h : va_at G.1 vwCl (a, .inl (G.2.2 11, n, .inl (fun _ => 0))) H) : va_at G.1 vwCl (G.2.1 i, vE G μ i) H := by
  rw [vE_bool G μ hk, ha, h0]
  exact h
theorem at_long {G : VG} {μ : VS} {H : Heap} {i n a : Nat} (hk : vk i = (10, n)) (ha : G.2.1 i = a) (h0 : μ.2 i = fun _ => 0) (h : va_at G.1 vwCl (a, .inl (G.2.2 10, n, .inr (.inl (fun _ => 0)))) H) : va_at G.1 vwCl (G.2.1 i, vE G μ i) H := by
  rw [vE_long G μ hk, ha, h0]
  exact h
theorem at_par {G : VG} {μ : VS} {H : Heap} {i n a : Nat} {f : Nat → Option Nat} (hk : vk i = (12, n)) (ha : G.2.1 i = a) (h0 : ∀ j, j < n → f j = some (G.2.1 (i + 1 + 7 * j))) (h : va_at G.1 vwCl (a, .inl (G.2.2 12, n, .inr (.inr (.inr (.inr f))))) H) : va_at G.1 vwCl (G.2.1 i, vE G μ i) H := by
  rw [vE_par G μ hk, ha]
  show H[a]? = some (vp_cell _ _)
  rw [← vp_q_congr h0]
  exact h
theorem at_walk {G : VG} {μ : VS} {H : Heap} {i n a : Nat} {f : Nat → Option Nat} (hk : vk i = (13, n)) (ha : G.2.1 i = a) (h0 : ∀ j, j < n → f j = some (G.2.1 (i + 1 + 2 * j))) (h : va_at G.1 vwCl (a, .inl (G.2.2 13, n, .inr (.inr (.inr (.inr f))))) H) : va_at G.1 vwCl (G.2.1 i, vE G μ i) H := by
  rw [vE_walk G μ hk, ha]
  show H[a]? = some (vp_cell _ _)
  rw [← vp_q_congr h0]
  exact h
theorem at_obj {G : VG} {μ : VS} {H : Heap} {i ci a : Nat} {fs : List Value} (hk : vk i = (ci, 0)) (hc : ci < 9) (ha : G.2.1 i = a) (h0 : vfs G μ i ci = fs) (h : va_at G.1 vwCl (a, .inr (ci, fs)) H) : va_at G.1 vwCl (G.2.1 i, vE G μ i) H := by
  rw [vE_obj G μ hk hc, ha, h0]
  exact h
def mapF {α β : Type} (f : Nat → α → β) : Nat → List α → List β
  | _, [] => []
  | i, a :: l => f i a :: mapF f (i + 1) l
theorem mapF_idx {α β : Type} (f : Nat → α → β) : ∀ (l : List α) (i : Nat), l.mapIdx (fun k => f (i + k)) = mapF f i l
  | [], i => rfl
  | a :: l, i => by
    rw [List.mapIdx_cons]
    show f (i + 0) a :: _ = f i a :: mapF f (i + 1) l
    rw [← mapF_idx f l (i + 1), Nat.add_zero]
    congr 1
    congr 1
    funext k
    rw [show i + (k + 1) = i + 1 + k by omega]
theorem vfs_F (G : VG) (μ : VS) (i ci : Nat) : vfs G μ i ci = mapF (fun k t => vre G.2.1 (vfv μ i k t)) 0 (vF ci) := by
  rw [← mapF_idx]
  unfold vfs
  congr 1
  funext k
  rw [Nat.zero_add]
theorem ad_key {G : VG} {wl : va_W} {l : List Nat} {f : Nat → Nat} (hl : l.length = 87) (hw : wl.map Prod.fst = l) {i : Nat} (hi : i < 87) : ∃ e, wl[i]? = some ((G.1, adF l f, G.2.2).2.1 i, e) := by
  have h1 : l[i]? = some (l[i]'(by omega)) := List.getElem?_eq_getElem (by omega)
  have h2 : (wl.map Prod.fst)[i]? = some (l[i]'(by omega)) := by rw [hw]; exact h1
  rw [List.getElem?_map] at h2
  obtain ⟨q, hq1, hq2⟩ := Option.map_eq_some_iff.mp h2
  refine ⟨q.2, ?_⟩
  have e1 : (G.1, adF l f, G.2.2).2.1 i = l[i]'(by omega) := by
    show (match l[i]? with | some a => a | none => f i) = _
    rw [h1]
  rw [hq1, e1, ← hq2]
theorem vW_D {G : VG} {μ : VS} {A : Nat → Prop} {wl : va_W} (key : ∀ i, i < 87 → ∃ e, wl[i]? = some (G.2.1 i, e)) (hD2 : va_D A wl) : va_D A (vW G μ) := by
  refine ⟨fun i j a1 a2 h1 h2 e9 => ?_, fun i a1 h1 => ?_⟩
  · have hi : i < 87 := by
      have := (List.getElem?_eq_some_iff.mp h1).1
      rw [vW_len] at this
      exact this
    have hj : j < 87 := by
      have := (List.getElem?_eq_some_iff.mp h2).1
      rw [vW_len] at this
      exact this
    rw [vW_at _ _ hi] at h1
    rw [vW_at _ _ hj] at h2
    cases h1
    cases h2
    obtain ⟨x1, hx1⟩ := key i hi
    obtain ⟨x2, hx2⟩ := key j hj
    exact hD2.1 i j _ _ hx1 hx2 e9
  · have hi : i < 87 := by
      have := (List.getElem?_eq_some_iff.mp h1).1
      rw [vW_len] at this
      exact this
    rw [vW_at _ _ hi] at h1
    cases h1
    obtain ⟨x1, hx1⟩ := key i hi
    have h9 := hD2.2 i _ hx1
    exact h9
set_option maxRecDepth 100000 in
set_option maxHeartbeats 4000000 in
theorem toP_ {G : VG} {H : Heap} {f : Nat → Nat} {q1 q2 q3 q4 q5 q6 q7 q8 q9 q10 q11 q12 q13 q14 q15 q16 q17 q18 q19 q20 q21 q22 q23 q24 q25 q26 q27 q28 q29 q30 q31 q32 q33 q34 q35 q36 q37 q38 q39 q40 q41 q42 q43 q44 q45 q46 q47 q48 q49 q50 q51 q52 q53 q54 q55 q56 q57 q58 q59 q60 q61 q62 q63 q64 q65 q66 q67 q68 q69 q70 q71 q72 q73 q74 q75 q76 q77 q78 q79 q80 q81 q82 q83 q84 q85 q86 q87 : Nat} (hP2 : va_P G.1 vwCl ([oX8 q1 q2 q9 q16 q17 q18 q20 q21 q25 q29 q30 q33, oX4 q2 q3 q4 q5 q6 q7 q8, oI G q3 8, oI G q4 8, oI G q5 8, oI G q6 8, oI G q7 8, oI G q8 8, oX4 q9 q10 q11 q12 q13 q14 q15, oI G q10 8, oI G q11 8, oI G q12 8, oI G q13 8, oI G q14 8, oI G q15 8, (q16, .inl (G.2.2 12, 2, .inr (.inr (.inr (.inr (va_up (va_up (fun _ => none) 0 (some q34)) 1 (some q41))))))), oX4 q34 q35 q36 q37 q38 q39 q40, oI G q35 8, oI G q36 8, oI G q37 8, oI G q38 8, oI G q39 8, oI G q40 8, oX4 q41 q42 q43 q44 q45 q46 q47, oI G q42 8, oI G q43 8, oI G q44 8, oI G q45 8, oI G q46 8, oI G q47 8, oZ G q17 2, oX3 q18 q19, oI G q19 60, (q20, .inl (G.2.2 13, 11, .inr (.inr (.inr (.inr (va_up (va_up (va_up (va_up (va_up (va_up (va_up (va_up (va_up (va_up (va_up (fun _ => none) 0 (some q48)) 1 (some q50)) 2 (some q52)) 3 (some q54)) 4 (some q56)) 5 (some q58)) 6 (some q60)) 7 (some q62)) 8 (some q64)) 9 (some q66)) 10 (some q68))))))), oX6 q48 q49, oI G q49 8, oX6 q50 q51, oI G q51 8, oX6 q52 q53, oI G q53 8, oX6 q54 q55, oI G q55 8, oX6 q56 q57, oI G q57 8, oX6 q58 q59, oI G q59 8, oX6 q60 q61, oI G q61 8, oX6 q62 q63, oI G q63 8, oX6 q64 q65, oI G q65 8, oX6 q66 q67, oI G q67 8, oX6 q68 q69, oI G q69 8, oX0 q21 q22 q23 q24, oI G q22 7, oI G q23 7, oI G q24 7, oX1 q25 q26 q27 q28, oI G q26 7, oI G q27 7, oI G q28 7, oX7 q29, oX5 q30 q31 q32, oI G q31 3, oI G q32 8, oL G q33 8, oX9 q70 q71 q72 q73 q74 q75 q76 q77 q78 q79 q80 q81 q82 q83 q84 q85 q86 q87, oI G q71 8, oI G q72 8, oI G q73 8, oI G q74 8, oI G q75 16, oI G q76 61, oI G q77 61, oI G q78 8, oI G q79 8, oI G q80 61, oI G q81 61, oI G q82 61, oI G q83 488, oI G q84 61, oI G q85 8, oI G q86 140, oZ G q87 2]) H) : va_P G.1 vwCl (vW (G.1, adF [q1, q2, q3, q4, q5, q6, q7, q8, q9, q10, q11, q12, q13, q14, q15, q16, q34, q35, q36, q37, q38, q39, q40, q41, q42, q43, q44, q45, q46, q47, q17, q18, q19, q20, q48, q49, q50, q51, q52, q53, q54, q55, q56, q57, q58, q59, q60, q61, q62, q63, q64, q65, q66, q67, q68, q69, q21, q22, q23, q24, q25, q26, q27, q28, q29, q30, q31, q32, q33, q70, q71, q72, q73, q74, q75, q76, q77, q78, q79, q80, q81, q82, q83, q84, q85, q86, q87] f, G.2.2) mu0) H := by
  generalize hA : adF [q1, q2, q3, q4, q5, q6, q7, q8, q9, q10, q11, q12, q13, q14, q15, q16, q34, q35, q36, q37, q38, q39, q40, q41, q42, q43, q44, q45, q46, q47, q17, q18, q19, q20, q48, q49, q50, q51, q52, q53, q54, q55, q56, q57, q58, q59, q60, q61, q62, q63, q64, q65, q66, q67, q68, q69, q21, q22, q23, q24, q25, q26, q27, q28, q29, q30, q31, q32, q33, q70, q71, q72, q73, q74, q75, q76, q77, q78, q79, q80, q81, q82, q83, q84, q85, q86, q87] f = ad
  unfold vW
  rw [List.range_eq_range']
  refine vp_cons 0 86 (at_obj (G := (G.1, ad, G.2.2)) (μ := mu0) (i := 0) (ci := 7) (a := q1) rfl (by decide) (by show ad 0 = q1; rw [← hA]; rfl) (by rw [vfs_F, ← hA]; rfl) (hP2 0 _ rfl)) ?_
  refine vp_cons 1 85 (at_obj (G := (G.1, ad, G.2.2)) (μ := mu0) (i := 1) (ci := 3) (a := q2) rfl (by decide) (by show ad 1 = q2; rw [← hA]; rfl) (by rw [vfs_F, ← hA]; rfl) (hP2 1 _ rfl)) ?_
  refine vp_cons 2 84 (at_int (G := (G.1, ad, G.2.2)) (μ := mu0) (i := 2) (n := 8) (a := q3) rfl (by show ad 2 = q3; rw [← hA]; rfl) rfl (hP2 2 _ rfl)) ?_
  refine vp_cons 3 83 (at_int (G := (G.1, ad, G.2.2)) (μ := mu0) (i := 3) (n := 8) (a := q4) rfl (by show ad 3 = q4; rw [← hA]; rfl) rfl (hP2 3 _ rfl)) ?_
  refine vp_cons 4 82 (at_int (G := (G.1, ad, G.2.2)) (μ := mu0) (i := 4) (n := 8) (a := q5) rfl (by show ad 4 = q5; rw [← hA]; rfl) rfl (hP2 4 _ rfl)) ?_
  refine vp_cons 5 81 (at_int (G := (G.1, ad, G.2.2)) (μ := mu0) (i := 5) (n := 8) (a := q6) rfl (by show ad 5 = q6; rw [← hA]; rfl) rfl (hP2 5 _ rfl)) ?_
  refine vp_cons 6 80 (at_int (G := (G.1, ad, G.2.2)) (μ := mu0) (i := 6) (n := 8) (a := q7) rfl (by show ad 6 = q7; rw [← hA]; rfl) rfl (hP2 6 _ rfl)) ?_
  refine vp_cons 7 79 (at_int (G := (G.1, ad, G.2.2)) (μ := mu0) (i := 7) (n := 8) (a := q8) rfl (by show ad 7 = q8; rw [← hA]; rfl) rfl (hP2 7 _ rfl)) ?_
  refine vp_cons 8 78 (at_obj (G := (G.1, ad, G.2.2)) (μ := mu0) (i := 8) (ci := 3) (a := q9) rfl (by decide) (by show ad 8 = q9; rw [← hA]; rfl) (by rw [vfs_F, ← hA]; rfl) (hP2 8 _ rfl)) ?_
  refine vp_cons 9 77 (at_int (G := (G.1, ad, G.2.2)) (μ := mu0) (i := 9) (n := 8) (a := q10) rfl (by show ad 9 = q10; rw [← hA]; rfl) rfl (hP2 9 _ rfl)) ?_
  refine vp_cons 10 76 (at_int (G := (G.1, ad, G.2.2)) (μ := mu0) (i := 10) (n := 8) (a := q11) rfl (by show ad 10 = q11; rw [← hA]; rfl) rfl (hP2 10 _ rfl)) ?_
  refine vp_cons 11 75 (at_int (G := (G.1, ad, G.2.2)) (μ := mu0) (i := 11) (n := 8) (a := q12) rfl (by show ad 11 = q12; rw [← hA]; rfl) rfl (hP2 11 _ rfl)) ?_
  refine vp_cons 12 74 (at_int (G := (G.1, ad, G.2.2)) (μ := mu0) (i := 12) (n := 8) (a := q13) rfl (by show ad 12 = q13; rw [← hA]; rfl) rfl (hP2 12 _ rfl)) ?_
  refine vp_cons 13 73 (at_int (G := (G.1, ad, G.2.2)) (μ := mu0) (i := 13) (n := 8) (a := q14) rfl (by show ad 13 = q14; rw [← hA]; rfl) rfl (hP2 13 _ rfl)) ?_
  refine vp_cons 14 72 (at_int (G := (G.1, ad, G.2.2)) (μ := mu0) (i := 14) (n := 8) (a := q15) rfl (by show ad 14 = q15; rw [← hA]; rfl) rfl (hP2 14 _ rfl)) ?_
  refine vp_cons 15 71 (at_par (G := (G.1, ad, G.2.2)) (μ := mu0) (i := 15) (n := 2) (a := q16) (f := va_up (va_up (fun _ => none) 0 (some q34)) 1 (some q41)) rfl (by show ad 15 = q16; rw [← hA]; rfl) (by rw [← hA]; intro j hj; match j, hj with | 0, _ => rfl | 1, _ => rfl) (hP2 15 _ rfl)) ?_
  refine vp_cons 16 70 (at_obj (G := (G.1, ad, G.2.2)) (μ := mu0) (i := 16) (ci := 3) (a := q34) rfl (by decide) (by show ad 16 = q34; rw [← hA]; rfl) (by rw [vfs_F, ← hA]; rfl) (hP2 16 _ rfl)) ?_
  refine vp_cons 17 69 (at_int (G := (G.1, ad, G.2.2)) (μ := mu0) (i := 17) (n := 8) (a := q35) rfl (by show ad 17 = q35; rw [← hA]; rfl) rfl (hP2 17 _ rfl)) ?_
  refine vp_cons 18 68 (at_int (G := (G.1, ad, G.2.2)) (μ := mu0) (i := 18) (n := 8) (a := q36) rfl (by show ad 18 = q36; rw [← hA]; rfl) rfl (hP2 18 _ rfl)) ?_
  refine vp_cons 19 67 (at_int (G := (G.1, ad, G.2.2)) (μ := mu0) (i := 19) (n := 8) (a := q37) rfl (by show ad 19 = q37; rw [← hA]; rfl) rfl (hP2 19 _ rfl)) ?_
  refine vp_cons 20 66 (at_int (G := (G.1, ad, G.2.2)) (μ := mu0) (i := 20) (n := 8) (a := q38) rfl (by show ad 20 = q38; rw [← hA]; rfl) rfl (hP2 20 _ rfl)) ?_
  refine vp_cons 21 65 (at_int (G := (G.1, ad, G.2.2)) (μ := mu0) (i := 21) (n := 8) (a := q39) rfl (by show ad 21 = q39; rw [← hA]; rfl) rfl (hP2 21 _ rfl)) ?_
  refine vp_cons 22 64 (at_int (G := (G.1, ad, G.2.2)) (μ := mu0) (i := 22) (n := 8) (a := q40) rfl (by show ad 22 = q40; rw [← hA]; rfl) rfl (hP2 22 _ rfl)) ?_
  refine vp_cons 23 63 (at_obj (G := (G.1, ad, G.2.2)) (μ := mu0) (i := 23) (ci := 3) (a := q41) rfl (by decide) (by show ad 23 = q41; rw [← hA]; rfl) (by rw [vfs_F, ← hA]; rfl) (hP2 23 _ rfl)) ?_
  refine vp_cons 24 62 (at_int (G := (G.1, ad, G.2.2)) (μ := mu0) (i := 24) (n := 8) (a := q42) rfl (by show ad 24 = q42; rw [← hA]; rfl) rfl (hP2 24 _ rfl)) ?_
  refine vp_cons 25 61 (at_int (G := (G.1, ad, G.2.2)) (μ := mu0) (i := 25) (n := 8) (a := q43) rfl (by show ad 25 = q43; rw [← hA]; rfl) rfl (hP2 25 _ rfl)) ?_
  refine vp_cons 26 60 (at_int (G := (G.1, ad, G.2.2)) (μ := mu0) (i := 26) (n := 8) (a := q44) rfl (by show ad 26 = q44; rw [← hA]; rfl) rfl (hP2 26 _ rfl)) ?_
  refine vp_cons 27 59 (at_int (G := (G.1, ad, G.2.2)) (μ := mu0) (i := 27) (n := 8) (a := q45) rfl (by show ad 27 = q45; rw [← hA]; rfl) rfl (hP2 27 _ rfl)) ?_
  refine vp_cons 28 58 (at_int (G := (G.1, ad, G.2.2)) (μ := mu0) (i := 28) (n := 8) (a := q46) rfl (by show ad 28 = q46; rw [← hA]; rfl) rfl (hP2 28 _ rfl)) ?_
  refine vp_cons 29 57 (at_int (G := (G.1, ad, G.2.2)) (μ := mu0) (i := 29) (n := 8) (a := q47) rfl (by show ad 29 = q47; rw [← hA]; rfl) rfl (hP2 29 _ rfl)) ?_
  refine vp_cons 30 56 (at_bool (G := (G.1, ad, G.2.2)) (μ := mu0) (i := 30) (n := 2) (a := q17) rfl (by show ad 30 = q17; rw [← hA]; rfl) rfl (hP2 30 _ rfl)) ?_
  refine vp_cons 31 55 (at_obj (G := (G.1, ad, G.2.2)) (μ := mu0) (i := 31) (ci := 2) (a := q18) rfl (by decide) (by show ad 31 = q18; rw [← hA]; rfl) (by rw [vfs_F, ← hA]; rfl) (hP2 31 _ rfl)) ?_
  refine vp_cons 32 54 (at_int (G := (G.1, ad, G.2.2)) (μ := mu0) (i := 32) (n := 60) (a := q19) rfl (by show ad 32 = q19; rw [← hA]; rfl) rfl (hP2 32 _ rfl)) ?_
  refine vp_cons 33 53 (at_walk (G := (G.1, ad, G.2.2)) (μ := mu0) (i := 33) (n := 11) (a := q20) (f := va_up (va_up (va_up (va_up (va_up (va_up (va_up (va_up (va_up (va_up (va_up (fun _ => none) 0 (some q48)) 1 (some q50)) 2 (some q52)) 3 (some q54)) 4 (some q56)) 5 (some q58)) 6 (some q60)) 7 (some q62)) 8 (some q64)) 9 (some q66)) 10 (some q68)) rfl (by show ad 33 = q20; rw [← hA]; rfl) (by rw [← hA]; intro j hj; match j, hj with | 0, _ => rfl | 1, _ => rfl | 2, _ => rfl | 3, _ => rfl | 4, _ => rfl | 5, _ => rfl | 6, _ => rfl | 7, _ => rfl | 8, _ => rfl | 9, _ => rfl | 10, _ => rfl) (hP2 33 _ rfl)) ?_
  refine vp_cons 34 52 (at_obj (G := (G.1, ad, G.2.2)) (μ := mu0) (i := 34) (ci := 5) (a := q48) rfl (by decide) (by show ad 34 = q48; rw [← hA]; rfl) (by rw [vfs_F, ← hA]; rfl) (hP2 34 _ rfl)) ?_
  refine vp_cons 35 51 (at_int (G := (G.1, ad, G.2.2)) (μ := mu0) (i := 35) (n := 8) (a := q49) rfl (by show ad 35 = q49; rw [← hA]; rfl) rfl (hP2 35 _ rfl)) ?_
  refine vp_cons 36 50 (at_obj (G := (G.1, ad, G.2.2)) (μ := mu0) (i := 36) (ci := 5) (a := q50) rfl (by decide) (by show ad 36 = q50; rw [← hA]; rfl) (by rw [vfs_F, ← hA]; rfl) (hP2 36 _ rfl)) ?_
  refine vp_cons 37 49 (at_int (G := (G.1, ad, G.2.2)) (μ := mu0) (i := 37) (n := 8) (a := q51) rfl (by show ad 37 = q51; rw [← hA]; rfl) rfl (hP2 37 _ rfl)) ?_
  refine vp_cons 38 48 (at_obj (G := (G.1, ad, G.2.2)) (μ := mu0) (i := 38) (ci := 5) (a := q52) rfl (by decide) (by show ad 38 = q52; rw [← hA]; rfl) (by rw [vfs_F, ← hA]; rfl) (hP2 38 _ rfl)) ?_
  refine vp_cons 39 47 (at_int (G := (G.1, ad, G.2.2)) (μ := mu0) (i := 39) (n := 8) (a := q53) rfl (by show ad 39 = q53; rw [← hA]; rfl) rfl (hP2 39 _ rfl)) ?_
  refine vp_cons 40 46 (at_obj (G := (G.1, ad, G.2.2)) (μ := mu0) (i := 40) (ci := 5) (a := q54) rfl (by decide) (by show ad 40 = q54; rw [← hA]; rfl) (by rw [vfs_F, ← hA]; rfl) (hP2 40 _ rfl)) ?_
  refine vp_cons 41 45 (at_int (G := (G.1, ad, G.2.2)) (μ := mu0) (i := 41) (n := 8) (a := q55) rfl (by show ad 41 = q55; rw [← hA]; rfl) rfl (hP2 41 _ rfl)) ?_
  refine vp_cons 42 44 (at_obj (G := (G.1, ad, G.2.2)) (μ := mu0) (i := 42) (ci := 5) (a := q56) rfl (by decide) (by show ad 42 = q56; rw [← hA]; rfl) (by rw [vfs_F, ← hA]; rfl) (hP2 42 _ rfl)) ?_
  refine vp_cons 43 43 (at_int (G := (G.1, ad, G.2.2)) (μ := mu0) (i := 43) (n := 8) (a := q57) rfl (by show ad 43 = q57; rw [← hA]; rfl) rfl (hP2 43 _ rfl)) ?_
  refine vp_cons 44 42 (at_obj (G := (G.1, ad, G.2.2)) (μ := mu0) (i := 44) (ci := 5) (a := q58) rfl (by decide) (by show ad 44 = q58; rw [← hA]; rfl) (by rw [vfs_F, ← hA]; rfl) (hP2 44 _ rfl)) ?_
  refine vp_cons 45 41 (at_int (G := (G.1, ad, G.2.2)) (μ := mu0) (i := 45) (n := 8) (a := q59) rfl (by show ad 45 = q59; rw [← hA]; rfl) rfl (hP2 45 _ rfl)) ?_
  refine vp_cons 46 40 (at_obj (G := (G.1, ad, G.2.2)) (μ := mu0) (i := 46) (ci := 5) (a := q60) rfl (by decide) (by show ad 46 = q60; rw [← hA]; rfl) (by rw [vfs_F, ← hA]; rfl) (hP2 46 _ rfl)) ?_
  refine vp_cons 47 39 (at_int (G := (G.1, ad, G.2.2)) (μ := mu0) (i := 47) (n := 8) (a := q61) rfl (by show ad 47 = q61; rw [← hA]; rfl) rfl (hP2 47 _ rfl)) ?_
  refine vp_cons 48 38 (at_obj (G := (G.1, ad, G.2.2)) (μ := mu0) (i := 48) (ci := 5) (a := q62) rfl (by decide) (by show ad 48 = q62; rw [← hA]; rfl) (by rw [vfs_F, ← hA]; rfl) (hP2 48 _ rfl)) ?_
  refine vp_cons 49 37 (at_int (G := (G.1, ad, G.2.2)) (μ := mu0) (i := 49) (n := 8) (a := q63) rfl (by show ad 49 = q63; rw [← hA]; rfl) rfl (hP2 49 _ rfl)) ?_
  refine vp_cons 50 36 (at_obj (G := (G.1, ad, G.2.2)) (μ := mu0) (i := 50) (ci := 5) (a := q64) rfl (by decide) (by show ad 50 = q64; rw [← hA]; rfl) (by rw [vfs_F, ← hA]; rfl) (hP2 50 _ rfl)) ?_
  refine vp_cons 51 35 (at_int (G := (G.1, ad, G.2.2)) (μ := mu0) (i := 51) (n := 8) (a := q65) rfl (by show ad 51 = q65; rw [← hA]; rfl) rfl (hP2 51 _ rfl)) ?_
  refine vp_cons 52 34 (at_obj (G := (G.1, ad, G.2.2)) (μ := mu0) (i := 52) (ci := 5) (a := q66) rfl (by decide) (by show ad 52 = q66; rw [← hA]; rfl) (by rw [vfs_F, ← hA]; rfl) (hP2 52 _ rfl)) ?_
  refine vp_cons 53 33 (at_int (G := (G.1, ad, G.2.2)) (μ := mu0) (i := 53) (n := 8) (a := q67) rfl (by show ad 53 = q67; rw [← hA]; rfl) rfl (hP2 53 _ rfl)) ?_
  refine vp_cons 54 32 (at_obj (G := (G.1, ad, G.2.2)) (μ := mu0) (i := 54) (ci := 5) (a := q68) rfl (by decide) (by show ad 54 = q68; rw [← hA]; rfl) (by rw [vfs_F, ← hA]; rfl) (hP2 54 _ rfl)) ?_
  refine vp_cons 55 31 (at_int (G := (G.1, ad, G.2.2)) (μ := mu0) (i := 55) (n := 8) (a := q69) rfl (by show ad 55 = q69; rw [← hA]; rfl) rfl (hP2 55 _ rfl)) ?_
  refine vp_cons 56 30 (at_obj (G := (G.1, ad, G.2.2)) (μ := mu0) (i := 56) (ci := 0) (a := q21) rfl (by decide) (by show ad 56 = q21; rw [← hA]; rfl) (by rw [vfs_F, ← hA]; rfl) (hP2 56 _ rfl)) ?_
  refine vp_cons 57 29 (at_int (G := (G.1, ad, G.2.2)) (μ := mu0) (i := 57) (n := 7) (a := q22) rfl (by show ad 57 = q22; rw [← hA]; rfl) rfl (hP2 57 _ rfl)) ?_
  refine vp_cons 58 28 (at_int (G := (G.1, ad, G.2.2)) (μ := mu0) (i := 58) (n := 7) (a := q23) rfl (by show ad 58 = q23; rw [← hA]; rfl) rfl (hP2 58 _ rfl)) ?_
  refine vp_cons 59 27 (at_int (G := (G.1, ad, G.2.2)) (μ := mu0) (i := 59) (n := 7) (a := q24) rfl (by show ad 59 = q24; rw [← hA]; rfl) rfl (hP2 59 _ rfl)) ?_
  refine vp_cons 60 26 (at_obj (G := (G.1, ad, G.2.2)) (μ := mu0) (i := 60) (ci := 1) (a := q25) rfl (by decide) (by show ad 60 = q25; rw [← hA]; rfl) (by rw [vfs_F, ← hA]; rfl) (hP2 60 _ rfl)) ?_
  refine vp_cons 61 25 (at_int (G := (G.1, ad, G.2.2)) (μ := mu0) (i := 61) (n := 7) (a := q26) rfl (by show ad 61 = q26; rw [← hA]; rfl) rfl (hP2 61 _ rfl)) ?_
  refine vp_cons 62 24 (at_int (G := (G.1, ad, G.2.2)) (μ := mu0) (i := 62) (n := 7) (a := q27) rfl (by show ad 62 = q27; rw [← hA]; rfl) rfl (hP2 62 _ rfl)) ?_
  refine vp_cons 63 23 (at_int (G := (G.1, ad, G.2.2)) (μ := mu0) (i := 63) (n := 7) (a := q28) rfl (by show ad 63 = q28; rw [← hA]; rfl) rfl (hP2 63 _ rfl)) ?_
  refine vp_cons 64 22 (at_obj (G := (G.1, ad, G.2.2)) (μ := mu0) (i := 64) (ci := 6) (a := q29) rfl (by decide) (by show ad 64 = q29; rw [← hA]; rfl) (by rw [vfs_F, ← hA]; rfl) (hP2 64 _ rfl)) ?_
  refine vp_cons 65 21 (at_obj (G := (G.1, ad, G.2.2)) (μ := mu0) (i := 65) (ci := 4) (a := q30) rfl (by decide) (by show ad 65 = q30; rw [← hA]; rfl) (by rw [vfs_F, ← hA]; rfl) (hP2 65 _ rfl)) ?_
  refine vp_cons 66 20 (at_int (G := (G.1, ad, G.2.2)) (μ := mu0) (i := 66) (n := 3) (a := q31) rfl (by show ad 66 = q31; rw [← hA]; rfl) rfl (hP2 66 _ rfl)) ?_
  refine vp_cons 67 19 (at_int (G := (G.1, ad, G.2.2)) (μ := mu0) (i := 67) (n := 8) (a := q32) rfl (by show ad 67 = q32; rw [← hA]; rfl) rfl (hP2 67 _ rfl)) ?_
  refine vp_cons 68 18 (at_long (G := (G.1, ad, G.2.2)) (μ := mu0) (i := 68) (n := 8) (a := q33) rfl (by show ad 68 = q33; rw [← hA]; rfl) rfl (hP2 68 _ rfl)) ?_
  refine vp_cons 69 17 (at_obj (G := (G.1, ad, G.2.2)) (μ := mu0) (i := 69) (ci := 8) (a := q70) rfl (by decide) (by show ad 69 = q70; rw [← hA]; rfl) (by rw [vfs_F, ← hA]; rfl) (hP2 69 _ rfl)) ?_
  refine vp_cons 70 16 (at_int (G := (G.1, ad, G.2.2)) (μ := mu0) (i := 70) (n := 8) (a := q71) rfl (by show ad 70 = q71; rw [← hA]; rfl) rfl (hP2 70 _ rfl)) ?_
  refine vp_cons 71 15 (at_int (G := (G.1, ad, G.2.2)) (μ := mu0) (i := 71) (n := 8) (a := q72) rfl (by show ad 71 = q72; rw [← hA]; rfl) rfl (hP2 71 _ rfl)) ?_
  refine vp_cons 72 14 (at_int (G := (G.1, ad, G.2.2)) (μ := mu0) (i := 72) (n := 8) (a := q73) rfl (by show ad 72 = q73; rw [← hA]; rfl) rfl (hP2 72 _ rfl)) ?_
  refine vp_cons 73 13 (at_int (G := (G.1, ad, G.2.2)) (μ := mu0) (i := 73) (n := 8) (a := q74) rfl (by show ad 73 = q74; rw [← hA]; rfl) rfl (hP2 73 _ rfl)) ?_
  refine vp_cons 74 12 (at_int (G := (G.1, ad, G.2.2)) (μ := mu0) (i := 74) (n := 16) (a := q75) rfl (by show ad 74 = q75; rw [← hA]; rfl) rfl (hP2 74 _ rfl)) ?_
  refine vp_cons 75 11 (at_int (G := (G.1, ad, G.2.2)) (μ := mu0) (i := 75) (n := 61) (a := q76) rfl (by show ad 75 = q76; rw [← hA]; rfl) rfl (hP2 75 _ rfl)) ?_
  refine vp_cons 76 10 (at_int (G := (G.1, ad, G.2.2)) (μ := mu0) (i := 76) (n := 61) (a := q77) rfl (by show ad 76 = q77; rw [← hA]; rfl) rfl (hP2 76 _ rfl)) ?_
  refine vp_cons 77 9 (at_int (G := (G.1, ad, G.2.2)) (μ := mu0) (i := 77) (n := 8) (a := q78) rfl (by show ad 77 = q78; rw [← hA]; rfl) rfl (hP2 77 _ rfl)) ?_
  refine vp_cons 78 8 (at_int (G := (G.1, ad, G.2.2)) (μ := mu0) (i := 78) (n := 8) (a := q79) rfl (by show ad 78 = q79; rw [← hA]; rfl) rfl (hP2 78 _ rfl)) ?_
  refine vp_cons 79 7 (at_int (G := (G.1, ad, G.2.2)) (μ := mu0) (i := 79) (n := 61) (a := q80) rfl (by show ad 79 = q80; rw [← hA]; rfl) rfl (hP2 79 _ rfl)) ?_
  refine vp_cons 80 6 (at_int (G := (G.1, ad, G.2.2)) (μ := mu0) (i := 80) (n := 61) (a := q81) rfl (by show ad 80 = q81; rw [← hA]; rfl) rfl (hP2 80 _ rfl)) ?_
  refine vp_cons 81 5 (at_int (G := (G.1, ad, G.2.2)) (μ := mu0) (i := 81) (n := 61) (a := q82) rfl (by show ad 81 = q82; rw [← hA]; rfl) rfl (hP2 81 _ rfl)) ?_
  refine vp_cons 82 4 (at_int (G := (G.1, ad, G.2.2)) (μ := mu0) (i := 82) (n := 488) (a := q83) rfl (by show ad 82 = q83; rw [← hA]; rfl) rfl (hP2 82 _ rfl)) ?_
  refine vp_cons 83 3 (at_int (G := (G.1, ad, G.2.2)) (μ := mu0) (i := 83) (n := 61) (a := q84) rfl (by show ad 83 = q84; rw [← hA]; rfl) rfl (hP2 83 _ rfl)) ?_
  refine vp_cons 84 2 (at_int (G := (G.1, ad, G.2.2)) (μ := mu0) (i := 84) (n := 8) (a := q85) rfl (by show ad 84 = q85; rw [← hA]; rfl) rfl (hP2 84 _ rfl)) ?_
  refine vp_cons 85 1 (at_int (G := (G.1, ad, G.2.2)) (μ := mu0) (i := 85) (n := 140) (a := q86) rfl (by show ad 85 = q86; rw [← hA]; rfl) rfl (hP2 85 _ rfl)) ?_
  refine vp_cons 86 0 (at_bool (G := (G.1, ad, G.2.2)) (μ := mu0) (i := 86) (n := 2) (a := q87) rfl (by show ad 86 = q87; rw [← hA]; rfl) rfl (hP2 86 _ rfl)) ?_
  exact vp_none 87
set_option maxRecDepth 100000 in
set_option maxHeartbeats 4000000 in
theorem toV_ {G : VG} {X : VX} {b : Nat} {f : Nat → Nat} {q1 q2 q3 q4 q5 q6 q7 q8 q9 q10 q11 q12 q13 q14 q15 q16 q17 q18 q19 q20 q21 q22 q23 q24 q25 q26 q27 q28 q29 q30 q31 q32 q33 q34 q35 q36 q37 q38 q39 q40 q41 q42 q43 q44 q45 q46 q47 q48 q49 q50 q51 q52 q53 q54 q55 q56 q57 q58 q59 q60 q61 q62 q63 q64 q65 q66 q67 q68 q69 q70 q71 q72 q73 q74 q75 q76 q77 q78 q79 q80 q81 q82 q83 q84 q85 q86 q87 : Nat} (hC : uC X 600000 7302250) (hb : f 2000 = b) (hV : V (G.1, adF [q1, q2, q3, q4, q5, q6, q7, q8, q9, q10, q11, q12, q13, q14, q15, q16, q34, q35, q36, q37, q38, q39, q40, q41, q42, q43, q44, q45, q46, q47, q17, q18, q19, q20, q48, q49, q50, q51, q52, q53, q54, q55, q56, q57, q58, q59, q60, q61, q62, q63, q64, q65, q66, q67, q68, q69, q21, q22, q23, q24, q25, q26, q27, q28, q29, q30, q31, q32, q33, q70, q71, q72, q73, q74, q75, q76, q77, q78, q79, q80, q81, q82, q83, q84, q85, q86, q87] f, G.2.2) 4 X 18 [(0, .ref 2000), (1, .ref 0), (2, .ref 69), (3, .int (nI 0))] [] mu0) : U G 4 X 87 1749 18 [(3, .int 0), (2, .ref q70), (1, .ref q1), (0, .ref b)] [] ([oX8 q1 q2 q9 q16 q17 q18 q20 q21 q25 q29 q30 q33, oX4 q2 q3 q4 q5 q6 q7 q8, oI G q3 8, oI G q4 8, oI G q5 8, oI G q6 8, oI G q7 8, oI G q8 8, oX4 q9 q10 q11 q12 q13 q14 q15, oI G q10 8, oI G q11 8, oI G q12 8, oI G q13 8, oI G q14 8, oI G q15 8, (q16, .inl (G.2.2 12, 2, .inr (.inr (.inr (.inr (va_up (va_up (fun _ => none) 0 (some q34)) 1 (some q41))))))), oZ G q17 2, oX3 q18 q19, oI G q19 60, (q20, .inl (G.2.2 13, 11, .inr (.inr (.inr (.inr (va_up (va_up (va_up (va_up (va_up (va_up (va_up (va_up (va_up (va_up (va_up (fun _ => none) 0 (some q48)) 1 (some q50)) 2 (some q52)) 3 (some q54)) 4 (some q56)) 5 (some q58)) 6 (some q60)) 7 (some q62)) 8 (some q64)) 9 (some q66)) 10 (some q68))))))), oX0 q21 q22 q23 q24, oI G q22 7, oI G q23 7, oI G q24 7, oX1 q25 q26 q27 q28, oI G q26 7, oI G q27 7, oI G q28 7, oX7 q29, oX5 q30 q31 q32, oI G q31 3, oI G q32 8, oL G q33 8, oX4 q34 q35 q36 q37 q38 q39 q40, oI G q35 8, oI G q36 8, oI G q37 8, oI G q38 8, oI G q39 8, oI G q40 8, oX4 q41 q42 q43 q44 q45 q46 q47, oI G q42 8, oI G q43 8, oI G q44 8, oI G q45 8, oI G q46 8, oI G q47 8, oX6 q48 q49, oI G q49 8, oX6 q50 q51, oI G q51 8, oX6 q52 q53, oI G q53 8, oX6 q54 q55, oI G q55 8, oX6 q56 q57, oI G q57 8, oX6 q58 q59, oI G q59 8, oX6 q60 q61, oI G q61 8, oX6 q62 q63, oI G q63 8, oX6 q64 q65, oI G q65 8, oX6 q66 q67, oI G q67 8, oX6 q68 q69, oI G q69 8, oX9 q70 q71 q72 q73 q74 q75 q76 q77 q78 q79 q80 q81 q82 q83 q84 q85 q86 q87, oI G q71 8, oI G q72 8, oI G q73 8, oI G q74 8, oI G q75 16, oI G q76 61, oI G q77 61, oI G q78 8, oI G q79 8, oI G q80 61, oI G q81 61, oI G q82 61, oI G q83 488, oI G q84 61, oI G q85 8, oI G q86 140, oZ G q87 2]) := by
  obtain ⟨p, l, e, R, s, m, args, below, meth, c, A, cells, slots, Qf⟩ := X
  obtain ⟨hC1, hC2⟩ := hC
  subst hC1; subst hC2; subst hb
  intro H locs la hP hD hS hl
  have hP2 := hP.sub (ws' := [oX8 q1 q2 q9 q16 q17 q18 q20 q21 q25 q29 q30 q33, oX4 q2 q3 q4 q5 q6 q7 q8, oI G q3 8, oI G q4 8, oI G q5 8, oI G q6 8, oI G q7 8, oI G q8 8, oX4 q9 q10 q11 q12 q13 q14 q15, oI G q10 8, oI G q11 8, oI G q12 8, oI G q13 8, oI G q14 8, oI G q15 8, (q16, .inl (G.2.2 12, 2, .inr (.inr (.inr (.inr (va_up (va_up (fun _ => none) 0 (some q34)) 1 (some q41))))))), oX4 q34 q35 q36 q37 q38 q39 q40, oI G q35 8, oI G q36 8, oI G q37 8, oI G q38 8, oI G q39 8, oI G q40 8, oX4 q41 q42 q43 q44 q45 q46 q47, oI G q42 8, oI G q43 8, oI G q44 8, oI G q45 8, oI G q46 8, oI G q47 8, oZ G q17 2, oX3 q18 q19, oI G q19 60, (q20, .inl (G.2.2 13, 11, .inr (.inr (.inr (.inr (va_up (va_up (va_up (va_up (va_up (va_up (va_up (va_up (va_up (va_up (va_up (fun _ => none) 0 (some q48)) 1 (some q50)) 2 (some q52)) 3 (some q54)) 4 (some q56)) 5 (some q58)) 6 (some q60)) 7 (some q62)) 8 (some q64)) 9 (some q66)) 10 (some q68))))))), oX6 q48 q49, oI G q49 8, oX6 q50 q51, oI G q51 8, oX6 q52 q53, oI G q53 8, oX6 q54 q55, oI G q55 8, oX6 q56 q57, oI G q57 8, oX6 q58 q59, oI G q59 8, oX6 q60 q61, oI G q61 8, oX6 q62 q63, oI G q63 8, oX6 q64 q65, oI G q65 8, oX6 q66 q67, oI G q67 8, oX6 q68 q69, oI G q69 8, oX0 q21 q22 q23 q24, oI G q22 7, oI G q23 7, oI G q24 7, oX1 q25 q26 q27 q28, oI G q26 7, oI G q27 7, oI G q28 7, oX7 q29, oX5 q30 q31 q32, oI G q31 3, oI G q32 8, oL G q33 8, oX9 q70 q71 q72 q73 q74 q75 q76 q77 q78 q79 q80 q81 q82 q83 q84 q85 q86 q87, oI G q71 8, oI G q72 8, oI G q73 8, oI G q74 8, oI G q75 16, oI G q76 61, oI G q77 61, oI G q78 8, oI G q79 8, oI G q80 61, oI G q81 61, oI G q82 61, oI G q83 488, oI G q84 61, oI G q85 8, oI G q86 140, oZ G q87 2]) [0, 1, 2, 3, 4, 5, 6, 7, 8, 9, 10, 11, 12, 13, 14, 15, 33, 34, 35, 36, 37, 38, 39, 40, 41, 42, 43, 44, 45, 46, 16, 17, 18, 19, 47, 48, 49, 50, 51, 52, 53, 54, 55, 56, 57, 58, 59, 60, 61, 62, 63, 64, 65, 66, 67, 68, 20, 21, 22, 23, 24, 25, 26, 27, 28, 29, 30, 31, 32, 69, 70, 71, 72, 73, 74, 75, 76, 77, 78, 79, 80, 81, 82, 83, 84, 85, 86] rfl
  have hD2 := hD.sub (ws' := [oX8 q1 q2 q9 q16 q17 q18 q20 q21 q25 q29 q30 q33, oX4 q2 q3 q4 q5 q6 q7 q8, oI G q3 8, oI G q4 8, oI G q5 8, oI G q6 8, oI G q7 8, oI G q8 8, oX4 q9 q10 q11 q12 q13 q14 q15, oI G q10 8, oI G q11 8, oI G q12 8, oI G q13 8, oI G q14 8, oI G q15 8, (q16, .inl (G.2.2 12, 2, .inr (.inr (.inr (.inr (va_up (va_up (fun _ => none) 0 (some q34)) 1 (some q41))))))), oX4 q34 q35 q36 q37 q38 q39 q40, oI G q35 8, oI G q36 8, oI G q37 8, oI G q38 8, oI G q39 8, oI G q40 8, oX4 q41 q42 q43 q44 q45 q46 q47, oI G q42 8, oI G q43 8, oI G q44 8, oI G q45 8, oI G q46 8, oI G q47 8, oZ G q17 2, oX3 q18 q19, oI G q19 60, (q20, .inl (G.2.2 13, 11, .inr (.inr (.inr (.inr (va_up (va_up (va_up (va_up (va_up (va_up (va_up (va_up (va_up (va_up (va_up (fun _ => none) 0 (some q48)) 1 (some q50)) 2 (some q52)) 3 (some q54)) 4 (some q56)) 5 (some q58)) 6 (some q60)) 7 (some q62)) 8 (some q64)) 9 (some q66)) 10 (some q68))))))), oX6 q48 q49, oI G q49 8, oX6 q50 q51, oI G q51 8, oX6 q52 q53, oI G q53 8, oX6 q54 q55, oI G q55 8, oX6 q56 q57, oI G q57 8, oX6 q58 q59, oI G q59 8, oX6 q60 q61, oI G q61 8, oX6 q62 q63, oI G q63 8, oX6 q64 q65, oI G q65 8, oX6 q66 q67, oI G q67 8, oX6 q68 q69, oI G q69 8, oX0 q21 q22 q23 q24, oI G q22 7, oI G q23 7, oI G q24 7, oX1 q25 q26 q27 q28, oI G q26 7, oI G q27 7, oI G q28 7, oX7 q29, oX5 q30 q31 q32, oI G q31 3, oI G q32 8, oL G q33 8, oX9 q70 q71 q72 q73 q74 q75 q76 q77 q78 q79 q80 q81 q82 q83 q84 q85 q86 q87, oI G q71 8, oI G q72 8, oI G q73 8, oI G q74 8, oI G q75 16, oI G q76 61, oI G q77 61, oI G q78 8, oI G q79 8, oI G q80 61, oI G q81 61, oI G q82 61, oI G q83 488, oI G q84 61, oI G q85 8, oI G q86 140, oZ G q87 2]) [0, 1, 2, 3, 4, 5, 6, 7, 8, 9, 10, 11, 12, 13, 14, 15, 33, 34, 35, 36, 37, 38, 39, 40, 41, 42, 43, 44, 45, 46, 16, 17, 18, 19, 47, 48, 49, 50, 51, 52, 53, 54, 55, 56, 57, 58, 59, 60, 61, 62, 63, 64, 65, 66, 67, 68, 20, 21, 22, 23, 24, 25, 26, 27, 28, 29, 30, 31, 32, 69, 70, 71, 72, 73, 74, 75, 76, 77, 78, 79, 80, 81, 82, 83, 84, 85, 86] (by decide) rfl
  refine W.widen (k := 600000) (n := 7302250) (by decide) (by decide) ?_
  exact hV H locs la (toP_ hP2) (vW_D (fun i hi => ad_key (G := G) (l := [q1, q2, q3, q4, q5, q6, q7, q8, q9, q10, q11, q12, q13, q14, q15, q16, q34, q35, q36, q37, q38, q39, q40, q41, q42, q43, q44, q45, q46, q47, q17, q18, q19, q20, q48, q49, q50, q51, q52, q53, q54, q55, q56, q57, q58, q59, q60, q61, q62, q63, q64, q65, q66, q67, q68, q69, q21, q22, q23, q24, q25, q26, q27, q28, q29, q30, q31, q32, q33, q70, q71, q72, q73, q74, q75, q76, q77, q78, q79, q80, q81, q82, q83, q84, q85, q86, q87]) (f := f) rfl rfl hi) hD2) hS (lv_sub hl [3, 2, 1, 0] rfl)
