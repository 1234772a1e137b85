def serK (μ μ' : VS) : Prop := (∀ a, a ≠ 76 → μ'.1 a = μ.1 a) ∧ μ'.2 = μ.2
theorem serK.rf (μ : VS) : serK μ μ := ⟨fun _ _ => rfl, rfl⟩
theorem serK.tr {a b c : VS} (h : serK a b) (g : serK b c) : serK a c := ⟨fun x hx => (g.1 x hx).trans (h.1 x hx), g.2.trans h.2⟩
theorem serK.keep {a b : VS} (h : serK a b) : mKeep a b := ⟨fun x k hx => by rw [h.1 x (fun z => hx (by unfold mAll; omega))], h.2⟩
abbrev isSr (μ : VS) (T : Nat → Nat) (n : Nat) : Prop := ∀ q, q < n → μ.1 76 q = nI (T q)
theorem sw_put {μ : VS} {T : Nat → Nat} {n i k : Nat} (hT : isSr μ T n) : ∀ q, q < n → (vup (vup μ.1 76 i (nI (T k))) 76 k (nI (T i)) 76 q) = nI (sw T i k q) := by
  intro q hq
  rw [vup_get, vup_get]
  unfold sw
  by_cases e1 : q = k
  · subst e1
    by_cases e2 : q = i
    · subst e2; simp
    · simp [e2]
  · by_cases e2 : q = i
    · subst e2; simp [e1]
    · simp only [e1, e2, and_false, if_false]; exact hT q hq
theorem cv_bd {T T1 : Nat → Nat} {n B : Nat} (e : ∀ v, cv T1 v 0 n = cv T v 0 n) (h : ∀ q, q < n → T q < B) : ∀ q, q < n → T1 q < B := fun i hi => by
  have h1 : 0 < cv T1 (T1 i) 0 n := cv_ex.mpr ⟨i, Nat.zero_le _, hi, rfl⟩
  rw [e] at h1
  obtain ⟨q, _, h2, h3⟩ := cv_ex.mp h1
  rw [← h3]
  exact h q h2
def soI (T : Nat → Nat) (n k : Nat) (T1 : Nat → Nat) : Prop := (∀ v, cv T1 v 0 n = cv T v 0 n) ∧ ∀ p, p < k → ∀ q, p < q → q < n → T1 p ≤ T1 q
def soJ (T : Nat → Nat) (n k i : Nat) (T1 : Nat → Nat) : Prop := soI T n k T1 ∧ ∀ q, k < q → q < i → T1 k ≤ T1 q
theorem sw_i (T : Nat → Nat) (i k : Nat) : sw T i k i = T k := if_pos rfl
theorem sw_k (T : Nat → Nat) {i k : Nat} (h : ¬ k = i) : sw T i k k = T i := by unfold sw; rw [if_neg h, if_pos rfl]
theorem sw_o (T : Nat → Nat) {i k q : Nat} (h1 : ¬ q = i) (h2 : ¬ q = k) : sw T i k q = T q := by unfold sw; rw [if_neg h1, if_neg h2]
theorem soJ.swp {T : Nat → Nat} {n k i : Nat} {T1 : Nat → Nat} (h : soJ T n k i T1) (hk : k < i) (hi : i < n) (c : T1 i < T1 k) : soJ T n k (i + 1) (sw T1 i k) := by
  refine ⟨⟨fun v => ?_, fun p hp q h1 h2 => ?_⟩, fun q h1 h2 => ?_⟩
  · rw [cv_sw hi (by omega) (Nat.zero_le _) (Nat.zero_le _)]; exact h.1.1 v
  · rw [sw_o T1 (q := p) (by omega) (by omega)]
    by_cases e1 : q = i
    · rw [e1, sw_i]; exact h.1.2 p hp k hp (by omega)
    · by_cases e2 : q = k
      · rw [e2, sw_k T1 (by omega)]; exact h.1.2 p hp i (by omega) hi
      · rw [sw_o T1 e1 e2]; exact h.1.2 p hp q h1 h2
  · rw [sw_k T1 (by omega)]
    by_cases e1 : q = i
    · rw [e1, sw_i]; omega
    · rw [sw_o T1 e1 (by omega)]
      have := h.2 q h1 (by omega)
      omega
theorem soJ.no {T : Nat → Nat} {n k i : Nat} {T1 : Nat → Nat} (h : soJ T n k i T1) (c : T1 k ≤ T1 i) : soJ T n k (i + 1) T1 := by
  refine ⟨h.1, fun q h1 h2 => ?_⟩
  by_cases e1 : q = i
  · rw [e1]; exact c
  · exact h.2 q h1 (by omega)
theorem soJ.done {T : Nat → Nat} {n k : Nat} {T1 : Nat → Nat} (h : soJ T n k n T1) : soI T n (k + 1) T1 := by
  refine ⟨h.1.1, fun p hp q h1 h2 => ?_⟩
  by_cases e : p = k
  · subst e; exact h.2 q h1 h2
  · exact h.1.2 p (by omega) q h1 h2
theorem soI.asc {T : Nat → Nat} {n : Nat} {T1 : Nat → Nat} (h : soI T n n T1) : asc T1 0 n := fun i _ h2 => h.2 i (by omega) (i + 1) (by omega) h2
def rvI (T1 T2 : Nat → Nat) (m n lo hi : Nat) : Prop := (∀ q, q < n → (m < q ∧ q < lo) ∨ hi < q → T2 q = T1 (m + n - q)) ∧ (∀ q, q < n → q ≤ m ∨ (lo ≤ q ∧ q ≤ hi) → T2 q = T1 q) ∧ ∀ v b, b ≤ m → cv T2 v b n = cv T1 v b n
theorem rvI.stp {T1 T2 : Nat → Nat} {m n lo hi : Nat} (h : rvI T1 T2 m n lo (hi + 1)) (e : lo + (hi + 1) = m + n) (hm : m < lo) (hh : hi + 1 < n) (hl : lo < hi + 1) : rvI T1 (sw T2 lo (hi + 1)) m n (lo + 1) hi := by
  refine ⟨fun q hq c => ?_, fun q hq c => ?_, fun v b hb => ?_⟩
  · by_cases e1 : q = lo
    · subst e1
      rw [sw_i, h.2.1 (hi + 1) (by omega) (Or.inr (by omega))]
      congr 1; omega
    · by_cases e2 : q = hi + 1
      · subst e2
        rw [sw_k T2 (by omega), h.2.1 lo (by omega) (Or.inr (by omega))]
        congr 1; omega
      · rw [sw_o T2 e1 e2]
        exact h.1 q hq (by omega)
  · rw [sw_o T2 (by omega) (by omega)]
    exact h.2.1 q hq (by omega)
  · rw [cv_sw (by omega) (by omega) (by omega) (by omega)]; exact h.2.2 v b hb
theorem rvI.nx {T T2 : Nat → Nat} {m n i lo hi : Nat} (h : rvI (sw T i m) T2 m n lo hi) (e : lo + hi = m + n) (hm : m < lo) (hh : hi < n) (hl : hi ≤ lo) (hmi : m < i) (hi2 : i < n) (hd : dsc T (m + 1) n) (hup : T m < T i) (hle : ∀ q, i < q → q < n → T q ≤ T m) : nx n m T T2 := by
  have hval : ∀ q, m < q → q < n → T2 q = sw T i m (m + n - q) := fun q h1 h2 => by
    by_cases c : (m < q ∧ q < lo) ∨ hi < q
    · exact h.1 q h2 c
    · rw [h.2.1 q h2 (Or.inr (by omega))]
      congr 1; omega
  have hT2m : T2 m = T i := by rw [h.2.1 m (by omega) (Or.inl (Nat.le_refl _)), sw_k T (by omega)]
  refine ⟨fun q hq => ?_, by rw [hT2m]; exact hup, fun q h1 h2 h3 => ?_, fun q h1 h2 => ?_, fun v b hb => ?_⟩
  · rw [h.2.1 q (by omega) (Or.inl (by omega)), sw_o T (by omega) (by omega)]
  · rw [hT2m]
    rcases Nat.lt_or_ge i q with z | z
    · have := hle q z h2; omega
    · exact hd.le' (by omega) z (by omega)
  · rw [hval q (by omega) (by omega), hval (q + 1) (by omega) h2]
    have a1 : m + n - q = (m + n - (q + 1)) + 1 := by omega
    rw [a1]
    have hx0 : m < m + n - (q + 1) := by omega
    have hx1 : m + n - (q + 1) + 1 < n := by omega
    generalize m + n - (q + 1) = x at hx0 hx1 ⊢
    by_cases e1 : x = i
    · rw [e1, sw_i, sw_o T (by omega) (by omega)]; exact hle (i + 1) (by omega) (by omega)
    · by_cases e2 : x + 1 = i
      · rw [e2, sw_i, sw_o T e1 (by omega)]
        have := hd.le' (p := x) (q := i) (by omega) (by omega) hi2
        omega
      · rw [sw_o T e1 (by omega), sw_o T e2 (by omega)]
        exact hd x (by omega) hx1
  · rw [h.2.2 v b hb, cv_sw hi2 (by omega) (by omega) hb]
set_option maxRecDepth 100000 in
set_option maxHeartbeats 4000000 in
theorem kM_swap {G : VG} {d : Nat} {μ : VS} {Q : Option Value → VS → Prop} {n_ : Nat} {T_ : Nat → Nat} {i_ k_ : Nat} (hT : isSr μ T_ n_) (hn : n_ ≤ 61) (hi : i_ < n_) (hk : k_ < n_) (hQ : ∀ μ', serK μ μ' → isSr μ' (sw T_ i_ k_) n_ → Q none μ') : Call G d yX9_swap cX9_swap 4 none [.ref 69, .int (nI i_), .int (nI k_)] μ Q := by
  intro X hX hR
  show V G 4 X 0 [(0, .ref 69), (1, .int (nI i_)), (2, .int (nI k_))] [] μ
  refine V_aload_n hX dX9_swap_0 0 rfl ?_
  refine V_getr (j := 76) hX fX9_38 rfl rfl dX9_swap_1 ?_
  refine V_iload_n hX dX9_swap_4 1 rfl ?_
  refine V_ialdN (x := nI (T_ i_)) hX rfl (by omega) (by decide) (hT _ (by omega)) dX9_swap_5 ?_
  refine V_istore_n (ls' := [(0, .ref 69), (1, .int (nI i_)), (2, .int (nI k_)), (3, .int (nI (T_ i_)))]) hX dX9_swap_6 (by decide) rfl ?_
  refine V_aload_n hX dX9_swap_7 0 rfl ?_
  refine V_getr (j := 76) hX fX9_38 rfl rfl dX9_swap_8 ?_
  refine V_iload_n hX dX9_swap_11 1 rfl ?_
  refine V_aload_n hX dX9_swap_12 0 rfl ?_
  refine V_getr (j := 76) hX fX9_38 rfl rfl dX9_swap_13 ?_
  refine V_iload_n hX dX9_swap_16 2 rfl ?_
  refine V_ialdN (x := nI (T_ k_)) hX rfl (by omega) (by decide) (hT _ (by omega)) dX9_swap_17 ?_
  refine V_iastN hX rfl (by omega) (by decide) dX9_swap_18 ?_
  show V G 4 X 19 [(0, .ref 69), (1, .int (nI i_)), (2, .int (nI k_)), (3, .int (nI (T_ i_)))] [] (vup μ.1 76 i_ (nI (T_ k_)), μ.2)
  refine V_aload_n hX dX9_swap_19 0 rfl ?_
  refine V_getr (j := 76) hX fX9_38 rfl rfl dX9_swap_20 ?_
  refine V_iload_n hX dX9_swap_23 2 rfl ?_
  refine V_iload_n hX dX9_swap_24 3 rfl ?_
  refine V_iastN hX rfl (by omega) (by decide) dX9_swap_25 ?_
  show V G 4 X 26 [(0, .ref 69), (1, .int (nI i_)), (2, .int (nI k_)), (3, .int (nI (T_ i_)))] [] (vup (vup μ.1 76 i_ (nI (T_ k_))) 76 k_ (nI (T_ i_)), μ.2)
  refine V_vret hX rfl dX9_swap_26 ?_
  exact hR _ _ (hQ _ ⟨fun a ha => by dsimp only; rw [vup_row _ _ _ ha, vup_row _ _ _ ha], rfl⟩ (sw_put hT))
set_option maxRecDepth 100000 in
set_option maxHeartbeats 4000000 in
theorem lpM_sort1 {G : VG} {d : Nat} {μ : VS} {X : VX} {n_ : Nat} {T_ : Nat → Nat} {k_ : Nat} (hX : Cx G (d + 1) yX9_sort cX9_sort 3 none X) (hlen : μ.1 69 15 = nI n_) (hn : n_ ≤ 61) (hb : ∀ q, q < n_ → T_ q < 1000) (hk : k_ < n_) (hF : ∀ T1 μ1, serK μ μ1 → isSr μ1 T1 n_ → soI T_ n_ (k_ + 1) T1 → V G 3 X 49 [(0, .ref 69), (1, .int (nI k_)), (2, .int (nI n_))] [] μ1) : ∀ (j i_ : Nat) (T1 : Nat → Nat) (μ1 : VS), k_ < i_ ∧ i_ ≤ n_ → n_ + 1 ≤ i_ + j → serK μ μ1 → isSr μ1 T1 n_ → soJ T_ n_ k_ i_ T1 → V G 3 X 14 [(0, .ref 69), (1, .int (nI k_)), (2, .int (nI i_))] [] μ1 := by
  intro j
  induction j with
  | zero =>
    intro i_ T1 μ1 h1 h2
    exact absurd h2 (by omega)
  | succ j ih =>
    intro i_ T1 μ1 h1 h2 hK hs1 hJ
    have hb1 := cv_bd hJ.1.1 hb
    refine V_iload_n hX dX9_sort_14 2 rfl ?_
    refine V_aload_n hX dX9_sort_15 0 rfl ?_
    refine V_getN (x := nI n_) hX fX9_113 rfl (by rw [hK.1 69 (by decide)]; exact hlen) dX9_sort_16 ?_
    refine V_icmp_geN (tgt := 49) hX dX9_sort_19 (by decide) (by first | omega | (have := hb1 i_ (by omega); have := hb1 k_ (by omega); omega)) (by first | omega | (have := hb1 i_ (by omega); have := hb1 k_ (by omega); omega)) (fun c19 => ?_) (fun c19 => ?_)
    · obtain rfl : i_ = n_ := by omega
      exact hF T1 μ1 hK hs1 hJ.done
    · refine V_aload_n hX dX9_sort_22 0 rfl ?_
      refine V_getr (j := 76) hX fX9_38 rfl rfl dX9_sort_23 ?_
      refine V_iload_n hX dX9_sort_26 2 rfl ?_
      refine V_ialdN (x := nI (T1 i_)) hX rfl (by first | omega | (have := hb1 i_ (by omega); have := hb1 k_ (by omega); omega)) (by decide) (hs1 _ (by omega)) dX9_sort_27 ?_
      refine V_aload_n hX dX9_sort_28 0 rfl ?_
      refine V_getr (j := 76) hX fX9_38 rfl rfl dX9_sort_29 ?_
      refine V_iload_n hX dX9_sort_32 1 rfl ?_
      refine V_ialdN (x := nI (T1 k_)) hX rfl (by first | omega | (have := hb1 i_ (by omega); have := hb1 k_ (by omega); omega)) (by decide) (hs1 _ (by omega)) dX9_sort_33 ?_
      refine V_icmp_geN (tgt := 43) hX dX9_sort_34 (by decide) (by first | omega | (have := hb1 i_ (by omega); have := hb1 k_ (by omega); omega)) (by first | omega | (have := hb1 i_ (by omega); have := hb1 k_ (by omega); omega)) (fun c34 => ?_) (fun c34 => ?_)
      · refine V_iincN (n := 1) (ls' := [(0, .ref 69), (1, .int (nI k_)), (2, .int (nI (i_ + 1)))]) hX dX9_sort_43 2 rfl (by decide) rfl ?_
        refine V_goto (tgt := 14) hX dX9_sort_46 (by decide) ?_
        exact ih (i_ + 1) T1 μ1 (by omega) (by omega) hK hs1 (hJ.no c34)
      · refine V_aload_n hX dX9_sort_37 0 rfl ?_
        refine V_iload_n hX dX9_sort_38 2 rfl ?_
        refine V_iload_n hX dX9_sort_39 1 rfl ?_
        refine V_callV (As := [.int (nI i_), .int (nI k_)]) (st := []) hX mX9_172 rfl (kM_swap (n_ := n_) (T_ := T1) hs1 hn (by omega) (by omega) (fun μ2 hK2 hs2 => ?_)) rfl (Nat.le_of_ble_eq_true rfl) (Nat.le_of_ble_eq_true rfl) dX9_sort_40
        show V G 3 X 43 [(0, .ref 69), (1, .int (nI k_)), (2, .int (nI i_))] [] μ2
        refine V_iincN (n := 1) (ls' := [(0, .ref 69), (1, .int (nI k_)), (2, .int (nI (i_ + 1)))]) hX dX9_sort_43 2 rfl (by decide) rfl ?_
        refine V_goto (tgt := 14) hX dX9_sort_46 (by decide) ?_
        exact ih (i_ + 1) (sw T1 i_ k_) μ2 (by omega) (by omega) (hK.tr hK2) hs2 (hJ.swp (by omega) (by omega) (by omega))
set_option maxRecDepth 100000 in
set_option maxHeartbeats 4000000 in
theorem lpM_sort2 {G : VG} {d : Nat} {μ : VS} {X : VX} {n_ : Nat} {T_ : Nat → Nat} (hX : Cx G (d + 1) yX9_sort cX9_sort 3 none X) (hlen : μ.1 69 15 = nI n_) (hn : n_ ≤ 61) (hb : ∀ q, q < n_ → T_ q < 1000) (hF : ∀ T1 μ1, serK μ μ1 → isSr μ1 T1 n_ → soI T_ n_ n_ T1 → Ret G X none μ1) : ∀ (j k_ : Nat) (T1 : Nat → Nat) (μ1 : VS), k_ ≤ n_ → n_ + 1 ≤ k_ + j → serK μ μ1 → isSr μ1 T1 n_ → soI T_ n_ k_ T1 → V G 3 X 2 [(0, .ref 69), (1, .int (nI k_))] [] μ1 := by
  intro j
  induction j with
  | zero =>
    intro k_ T1 μ1 h1 h2
    exact absurd h2 (by omega)
  | succ j ih =>
    intro k_ T1 μ1 h1 h2 hK hs1 hI
    refine V_iload_n hX dX9_sort_2 1 rfl ?_
    refine V_aload_n hX dX9_sort_3 0 rfl ?_
    refine V_getN (x := nI n_) hX fX9_113 rfl (by rw [hK.1 69 (by decide)]; exact hlen) dX9_sort_4 ?_
    refine V_icmp_geN (tgt := 55) hX dX9_sort_7 (by decide) (by omega) (by omega) (fun c7 => ?_) (fun c7 => ?_)
    · refine V_vret hX rfl dX9_sort_55 ?_
      obtain rfl : k_ = n_ := by omega
      exact hF T1 μ1 hK hs1 hI
    · refine V_iload_n hX dX9_sort_10 1 rfl ?_
      refine V_iconst (v := nI 1) hX dX9_sort_11 (by decide) ?_
      refine V_iaddN hX dX9_sort_12 ?_
      refine V_istore_n (ls' := [(0, .ref 69), (1, .int (nI k_)), (2, .int (nI (k_ + 1)))]) hX dX9_sort_13 (by decide) rfl ?_
      refine lpM_sort1 (μ := μ) hX hlen hn hb (by omega) (fun T2 μ2 hK2 hs2 hI2 => ?_) (n_ + 1) (k_ + 1) T1 μ1 (by omega) (by omega) hK hs1 ⟨hI, fun q z1 z2 => absurd z2 (by omega)⟩
      refine V_iincN (n := 1) (ls' := [(0, .ref 69), (1, .int (nI (k_ + 1))), (2, .int (nI n_))]) hX dX9_sort_49 1 rfl (by decide) rfl ?_
      refine V_goto (tgt := 2) hX dX9_sort_52 (by decide) ?_
      exact V_sub [0, 1] rfl (ih (k_ + 1) T2 μ2 (by omega) (by omega) hK2 hs2 hI2)
set_option maxRecDepth 100000 in
set_option maxHeartbeats 4000000 in
theorem kM_sort {G : VG} {d : Nat} {μ : VS} {Q : Option Value → VS → Prop} {n_ : Nat} {T_ : Nat → Nat} (hlen : μ.1 69 15 = nI n_) (hT : isSr μ T_ n_) (hn : n_ ≤ 61) (hb : ∀ q, q < n_ → T_ q < 1000) (hQ : ∀ μ' T', serK μ μ' → isSr μ' T' n_ → asc T' 0 n_ → (∀ v, cv T' v 0 n_ = cv T_ v 0 n_) → Q none μ') : Call G (d + 1) yX9_sort cX9_sort 3 none [.ref 69] μ Q := by
  intro X hX hR
  show V G 3 X 0 [(0, .ref 69)] [] μ
  refine V_iconst (v := nI 0) hX dX9_sort_0 (by decide) ?_
  refine V_istore_n (ls' := [(0, .ref 69), (1, .int (nI 0))]) hX dX9_sort_1 (by decide) rfl ?_
  exact lpM_sort2 (μ := μ) hX hlen hn hb (fun T1 μ1 hK hs1 hI => hR _ _ (hQ μ1 T1 hK hs1 hI.asc hI.1)) (n_ + 1) 0 T_ μ (by omega) (by omega) (serK.rf μ) hT ⟨fun _ => rfl, fun q z => absurd z (by omega)⟩
set_option maxRecDepth 100000 in
set_option maxHeartbeats 4000000 in
theorem lpM_goF {G : VG} {d : Nat} {μ : VS} {Q : Option Value → VS → Prop} {X : VX} {n_ : Nat} {T_ : Nat → Nat} (hX : Cx G d yX9_goOn cX9_goOn 5 (some .boolean) X) (hR : ∀ r μ', Q r μ' → Ret G X r μ') (hlen : μ.1 69 15 = nI n_) (hT : isSr μ T_ n_) (hn : n_ ≤ 61) (hb : ∀ q, q < n_ → T_ q < 1000) (hd : dsc T_ 0 n_) (hQ : Q (some (.int (nI 0))) μ) : ∀ (p_ : Nat), p_ + 1 ≤ n_ → V G 5 X 7 [(0, .ref 69), (1, .int (zI ((p_ : Int) - 1)))] [] μ := by
  intro p_
  induction p_ with
  | zero =>
    intro h1
    refine V_iload_n hX dX9_goOn_7 1 rfl ?_
    refine V_if_lt (tgt := 34) hX dX9_goOn_8 (by decide) (fun c8 => ?_) (fun c8 => ?_)
    · refine V_iload_n hX dX9_goOn_34 1 rfl ?_
      refine V_if_ge (tgt := 40) hX dX9_goOn_35 (by decide) (fun c35 => ?_) (fun c35 => ?_)
      · exact absurd c35 (by decide)
      · refine V_iconst (v := nI 0) hX dX9_goOn_38 (by decide) ?_
        refine V_zret hX rfl rfl dX9_goOn_39 ?_
        exact hR _ _ hQ
    · exact absurd (by decide) c8
  | succ q_ ih =>
    intro h1
    have e7 : zI (((q_ + 1 : Nat) : Int) - 1) = nI q_ := by rw [zI_nat]; congr 1; omega
    rw [e7]
    refine V_iload_n hX dX9_goOn_7 1 rfl ?_
    refine V_if_ltN (tgt := 34) hX dX9_goOn_8 (by decide) (by first | omega | (have := hb q_ (by omega); have := hb (q_ + 1) (by omega); omega)) ?_
    refine V_aload_n hX dX9_goOn_11 0 rfl ?_
    refine V_getr (j := 76) hX fX9_38 rfl rfl dX9_goOn_12 ?_
    refine V_iload_n hX dX9_goOn_15 1 rfl ?_
    refine V_ialdN (x := nI (T_ q_)) hX rfl (by first | omega | (have := hb q_ (by omega); have := hb (q_ + 1) (by omega); omega)) (by decide) (hT _ (by omega)) dX9_goOn_16 ?_
    refine V_aload_n hX dX9_goOn_17 0 rfl ?_
    refine V_getr (j := 76) hX fX9_38 rfl rfl dX9_goOn_18 ?_
    refine V_iload_n hX dX9_goOn_21 1 rfl ?_
    refine V_iconst (v := nI 1) hX dX9_goOn_22 (by decide) ?_
    refine V_iaddN hX dX9_goOn_23 ?_
    refine V_ialdN (x := nI (T_ (q_ + 1))) hX rfl (by first | omega | (have := hb q_ (by omega); have := hb (q_ + 1) (by omega); omega)) (by decide) (hT _ (by omega)) dX9_goOn_24 ?_
    refine V_icmp_ltN (tgt := 34) hX dX9_goOn_25 (by decide) (by first | omega | (have := hb q_ (by omega); have := hb (q_ + 1) (by omega); omega)) (by first | omega | (have := hb q_ (by omega); have := hb (q_ + 1) (by omega); omega)) (fun c25 => ?_) (fun c25 => ?_)
    · exact absurd (hd q_ (Nat.zero_le _) (by omega)) (by omega)
    · refine V_iinc (v := -1) (ls' := [(0, .ref 69), (1, .int ((nI q_) + (-1)))]) hX dX9_goOn_28 1 rfl (by decide) (by decide) rfl ?_
      refine V_goto (tgt := 7) hX dX9_goOn_31 (by decide) ?_
      have h9 := ih (by omega)
      rw [show zI ((q_ : Int) - 1) = nI q_ + (-1) from by rw [zI_nat, show (-1 : Int32) = zI (-1) from rfl, zI_add]; rfl] at h9
      exact h9
set_option maxRecDepth 100000 in
set_option maxHeartbeats 4000000 in
theorem kM_goOnF {G : VG} {d : Nat} {μ : VS} {Q : Option Value → VS → Prop} {n_ : Nat} {T_ : Nat → Nat} (hlen : μ.1 69 15 = nI n_) (hT : isSr μ T_ n_) (hn : n_ ≤ 61) (hb : ∀ q, q < n_ → T_ q < 1000) (hd : dsc T_ 0 n_) (hQ : Q (some (.int (nI 0))) μ) : Call G d yX9_goOn cX9_goOn 5 (some .boolean) [.ref 69] μ Q := by
  intro X hX hR
  show V G 5 X 0 [(0, .ref 69)] [] μ
  refine V_aload_n hX dX9_goOn_0 0 rfl ?_
  refine V_getN (x := nI n_) hX fX9_113 rfl hlen dX9_goOn_1 ?_
  refine V_iconst (v := nI 2) hX dX9_goOn_4 (by decide) ?_
  refine V_isub hX dX9_goOn_5 ?_
  refine V_istore_n (ls' := [(0, .ref 69), (1, .int ((nI n_) - (nI 2)))]) hX dX9_goOn_6 (by decide) rfl ?_
  by_cases e0 : n_ = 0
  · subst e0
    refine V_iload_n hX dX9_goOn_7 1 rfl ?_
    refine V_if_lt (tgt := 34) hX dX9_goOn_8 (by decide) (fun c8 => ?_) (fun c8 => ?_)
    · refine V_iload_n hX dX9_goOn_34 1 rfl ?_
      refine V_if_ge (tgt := 40) hX dX9_goOn_35 (by decide) (fun c35 => ?_) (fun c35 => ?_)
      · exact absurd c35 (by decide)
      · refine V_iconst (v := nI 0) hX dX9_goOn_38 (by decide) ?_
        refine V_zret hX rfl rfl dX9_goOn_39 ?_
        exact hR _ _ hQ
    · exact absurd (by decide) c8
  · have h9 := lpM_goF hX hR hlen hT hn hb hd hQ (n_ - 1) (by omega)
    rw [show zI (((n_ - 1 : Nat) : Int) - 1) = nI n_ - nI 2 from by rw [zI_nat, zI_nat, zI_sub]; congr 1; omega] at h9
    exact h9
set_option maxRecDepth 100000 in
set_option maxHeartbeats 4000000 in
theorem lpM_goA {G : VG} {d : Nat} {μ : VS} {X : VX} {n_ : Nat} {T_ : Nat → Nat} {m_ : Nat} (hX : Cx G d yX9_goOn cX9_goOn 5 (some .boolean) X) (hlen : μ.1 69 15 = nI n_) (hT : isSr μ T_ n_) (hn : n_ ≤ 61) (hb : ∀ q, q < n_ → T_ q < 1000) (hm : m_ + 1 < n_) (hup : T_ m_ < T_ (m_ + 1)) (hd : dsc T_ (m_ + 1) n_) (hF : V G 5 X 34 [(0, .ref 69), (1, .int (nI m_))] [] μ) : ∀ (p_ : Nat), m_ < p_ ∧ p_ + 1 ≤ n_ → V G 5 X 7 [(0, .ref 69), (1, .int (zI ((p_ : Int) - 1)))] [] μ := by
  intro p_
  induction p_ with
  | zero =>
    intro h1
    exact absurd h1 (by omega)
  | succ q_ ih =>
    intro h1
    have e7 : zI (((q_ + 1 : Nat) : Int) - 1) = nI q_ := by rw [zI_nat]; congr 1; omega
    rw [e7]
    refine V_iload_n hX dX9_goOn_7 1 rfl ?_
    refine V_if_ltN (tgt := 34) hX dX9_goOn_8 (by decide) (by first | omega | (have := hb q_ (by omega); have := hb (q_ + 1) (by omega); omega)) ?_
    refine V_aload_n hX dX9_goOn_11 0 rfl ?_
    refine V_getr (j := 76) hX fX9_38 rfl rfl dX9_goOn_12 ?_
    refine V_iload_n hX dX9_goOn_15 1 rfl ?_
    refine V_ialdN (x := nI (T_ q_)) hX rfl (by first | omega | (have := hb q_ (by omega); have := hb (q_ + 1) (by omega); omega)) (by decide) (hT _ (by omega)) dX9_goOn_16 ?_
    refine V_aload_n hX dX9_goOn_17 0 rfl ?_
    refine V_getr (j := 76) hX fX9_38 rfl rfl dX9_goOn_18 ?_
    refine V_iload_n hX dX9_goOn_21 1 rfl ?_
    refine V_iconst (v := nI 1) hX dX9_goOn_22 (by decide) ?_
    refine V_iaddN hX dX9_goOn_23 ?_
    refine V_ialdN (x := nI (T_ (q_ + 1))) hX rfl (by first | omega | (have := hb q_ (by omega); have := hb (q_ + 1) (by omega); omega)) (by decide) (hT _ (by omega)) dX9_goOn_24 ?_
    refine V_icmp_ltN (tgt := 34) hX dX9_goOn_25 (by decide) (by first | omega | (have := hb q_ (by omega); have := hb (q_ + 1) (by omega); omega)) (by first | omega | (have := hb q_ (by omega); have := hb (q_ + 1) (by omega); omega)) (fun c25 => ?_) (fun c25 => ?_)
    · obtain rfl : q_ = m_ := by
        rcases Nat.eq_or_lt_of_le (show m_ ≤ q_ by omega) with z | z
        · exact z.symm
        · exact absurd (hd q_ z (by omega)) (by omega)
      exact hF
    · refine V_iinc (v := -1) (ls' := [(0, .ref 69), (1, .int ((nI q_) + (-1)))]) hX dX9_goOn_28 1 rfl (by decide) (by decide) rfl ?_
      refine V_goto (tgt := 7) hX dX9_goOn_31 (by decide) ?_
      have hq : ¬ q_ = m_ := fun z => by subst z; omega
      have h9 := ih (by omega)
      rw [show zI ((q_ : Int) - 1) = nI q_ + (-1) from by rw [zI_nat, show (-1 : Int32) = zI (-1) from rfl, zI_add]; rfl] at h9
      exact h9
set_option maxRecDepth 100000 in
set_option maxHeartbeats 4000000 in
theorem lpM_goB {G : VG} {d : Nat} {μ : VS} {X : VX} {n_ : Nat} {T_ : Nat → Nat} {m_ : Nat} (hX : Cx G d yX9_goOn cX9_goOn 5 (some .boolean) X) (hlen : μ.1 69 15 = nI n_) (hT : isSr μ T_ n_) (hn : n_ ≤ 61) (hb : ∀ q, q < n_ → T_ q < 1000) (hm : m_ + 1 < n_) (hup : T_ m_ < T_ (m_ + 1)) (hd : dsc T_ (m_ + 1) n_) (hF : ∀ i_, m_ < i_ → i_ < n_ → T_ m_ < T_ i_ → (∀ q, i_ < q → q < n_ → T_ q ≤ T_ m_) → V G 5 X 68 [(0, .ref 69), (1, .int (nI m_)), (2, .int (nI i_))] [] μ) : ∀ (p_ : Nat), m_ < p_ ∧ p_ < n_ → (∀ q, p_ < q → q < n_ → T_ q ≤ T_ m_) → V G 5 X 47 [(0, .ref 69), (1, .int (nI m_)), (2, .int (nI p_))] [] μ := by
  intro p_
  induction p_ with
  | zero =>
    intro h1
    exact absurd h1 (by omega)
  | succ q_ ih =>
    intro h1 hle
    refine V_aload_n hX dX9_goOn_47 0 rfl ?_
    refine V_getr (j := 76) hX fX9_38 rfl rfl dX9_goOn_48 ?_
    refine V_iload_n hX dX9_goOn_51 2 rfl ?_
    refine V_ialdN (x := nI (T_ (q_ + 1))) hX rfl (by first | omega | (have := hb (q_ + 1) (by omega); have := hb m_ (by omega); omega)) (by decide) (hT _ (by omega)) dX9_goOn_52 ?_
    refine V_aload_n hX dX9_goOn_53 0 rfl ?_
    refine V_getr (j := 76) hX fX9_38 rfl rfl dX9_goOn_54 ?_
    refine V_iload_n hX dX9_goOn_57 1 rfl ?_
    refine V_ialdN (x := nI (T_ m_)) hX rfl (by first | omega | (have := hb (q_ + 1) (by omega); have := hb m_ (by omega); omega)) (by decide) (hT _ (by omega)) dX9_goOn_58 ?_
    refine V_icmp_gtN (tgt := 68) hX dX9_goOn_59 (by decide) (by first | omega | (have := hb (q_ + 1) (by omega); have := hb m_ (by omega); omega)) (by first | omega | (have := hb (q_ + 1) (by omega); have := hb m_ (by omega); omega)) (fun c59 => ?_) (fun c59 => ?_)
    · exact hF (q_ + 1) (by omega) (by omega) c59 hle
    · refine V_iinc (v := -1) (ls' := [(0, .ref 69), (1, .int (nI m_)), (2, .int ((nI (q_ + 1)) + (-1)))]) hX dX9_goOn_62 2 rfl (by decide) (by decide) rfl ?_
      refine V_goto (tgt := 47) hX dX9_goOn_65 (by decide) ?_
      rw [nI_dec]
      refine ih ⟨?_, by omega⟩ (fun q z1 z2 => ?_)
      · rcases Nat.eq_or_lt_of_le (show m_ ≤ q_ by omega) with z | z
        · subst z; omega
        · exact z
      · by_cases e : q = q_ + 1
        · rw [e]; exact c59
        · exact hle q (by omega) z2
set_option maxRecDepth 100000 in
set_option maxHeartbeats 4000000 in
theorem lpM_goC {G : VG} {d : Nat} {μ : VS} {Q : Option Value → VS → Prop} {X : VX} {n_ : Nat} {T_ : Nat → Nat} {m_ i_ : Nat} (hX : Cx G (d + 1) yX9_goOn cX9_goOn 5 (some .boolean) X) (hR : ∀ r μ', Q r μ' → Ret G X r μ') (hn : n_ ≤ 61) (hF : ∀ T2 μ1 lo_ hi_, serK μ μ1 → isSr μ1 T2 n_ → rvI T_ T2 m_ n_ lo_ hi_ → lo_ + hi_ = m_ + n_ → m_ < lo_ → hi_ < n_ → hi_ ≤ lo_ → Q (some (.int (nI 1))) μ1) : ∀ (j lo_ hi_ : Nat) (T2 : Nat → Nat) (μ1 : VS), lo_ + hi_ = m_ + n_ → m_ < lo_ ∧ hi_ < n_ ∧ lo_ ≤ hi_ + 1 → hi_ + 2 ≤ lo_ + j → serK μ μ1 → isSr μ1 T2 n_ → rvI T_ T2 m_ n_ lo_ hi_ → V G 5 X 86 [(0, .ref 69), (1, .int (nI m_)), (2, .int (nI i_)), (3, .int (nI lo_)), (4, .int (nI hi_))] [] μ1 := by
  intro j
  induction j with
  | zero =>
    intro lo_ hi_ T2 μ1 h0 h1 h2
    exact absurd h2 (by omega)
  | succ j ih =>
    intro lo_ hi_ T2 μ1 h0 h1 h2 hK hs2 hV
    refine V_iload_n hX dX9_goOn_86 3 rfl ?_
    refine V_iload hX dX9_goOn_87 4 rfl ?_
    refine V_icmp_geN (tgt := 108) hX dX9_goOn_89 (by decide) (by omega) (by omega) (fun c89 => ?_) (fun c89 => ?_)
    · refine V_iconst (v := nI 1) hX dX9_goOn_108 (by decide) ?_
      refine V_zret hX rfl rfl dX9_goOn_109 ?_
      exact hR _ _ (hF T2 μ1 lo_ hi_ hK hs2 hV h0 h1.1 h1.2.1 (by omega))
    · refine V_aload_n hX dX9_goOn_92 0 rfl ?_
      refine V_iload_n hX dX9_goOn_93 3 rfl ?_
      refine V_iload hX dX9_goOn_94 4 rfl ?_
      refine V_callV (As := [.int (nI lo_), .int (nI hi_)]) (st := []) hX mX9_172 rfl (kM_swap (n_ := n_) (T_ := T2) hs2 hn (by omega) (by omega) (fun μ2 hK2 hs3 => ?_)) rfl (Nat.le_of_ble_eq_true rfl) (Nat.le_of_ble_eq_true rfl) dX9_goOn_96
      show V G 5 X 99 [(0, .ref 69), (1, .int (nI m_)), (2, .int (nI i_)), (3, .int (nI lo_)), (4, .int (nI hi_))] [] μ2
      refine V_iincN (n := 1) (ls' := [(0, .ref 69), (1, .int (nI m_)), (2, .int (nI i_)), (3, .int (nI (lo_ + 1))), (4, .int (nI hi_))]) hX dX9_goOn_99 3 rfl (by decide) rfl ?_
      refine V_iinc (v := -1) (ls' := [(0, .ref 69), (1, .int (nI m_)), (2, .int (nI i_)), (3, .int (nI (lo_ + 1))), (4, .int ((nI hi_) + (-1)))]) hX dX9_goOn_102 4 rfl (by decide) (by decide) rfl ?_
      refine V_goto (tgt := 86) hX dX9_goOn_105 (by decide) ?_
      obtain ⟨h_, rfl⟩ : ∃ h_, hi_ = h_ + 1 := ⟨hi_ - 1, by omega⟩
      rw [nI_dec]
      exact ih (lo_ + 1) h_ (sw T2 lo_ (h_ + 1)) μ2 (by omega) (by omega) (by omega) (hK.tr hK2) hs3 (hV.stp h0 (by omega) (by omega) (by omega))
set_option maxRecDepth 100000 in
set_option maxHeartbeats 4000000 in
theorem kM_goOnT {G : VG} {d : Nat} {μ : VS} {Q : Option Value → VS → Prop} {n_ : Nat} {T_ : Nat → Nat} {m_ : Nat} (hlen : μ.1 69 15 = nI n_) (hT : isSr μ T_ n_) (hn : n_ ≤ 61) (hb : ∀ q, q < n_ → T_ q < 1000) (hm : m_ + 1 < n_) (hup : T_ m_ < T_ (m_ + 1)) (hd : dsc T_ (m_ + 1) n_) (hQ : ∀ μ' T2, serK μ μ' → isSr μ' T2 n_ → nx n_ m_ T_ T2 → Q (some (.int (nI 1))) μ') : Call G (d + 1) yX9_goOn cX9_goOn 5 (some .boolean) [.ref 69] μ Q := by
  intro X hX hR
  show V G 5 X 0 [(0, .ref 69)] [] μ
  refine V_aload_n hX dX9_goOn_0 0 rfl ?_
  refine V_getN (x := nI n_) hX fX9_113 rfl hlen dX9_goOn_1 ?_
  refine V_iconst (v := nI 2) hX dX9_goOn_4 (by decide) ?_
  refine V_isub hX dX9_goOn_5 ?_
  refine V_istore_n (ls' := [(0, .ref 69), (1, .int ((nI n_) - (nI 2)))]) hX dX9_goOn_6 (by decide) rfl ?_
  rw [show nI n_ - nI 2 = zI (((n_ - 1 : Nat) : Int) - 1) from by rw [zI_nat, zI_nat, zI_sub]; congr 1; omega]
  refine lpM_goA hX hlen hT hn hb hm hup hd ?_ (n_ - 1) (by omega)
  refine V_iload_n hX dX9_goOn_34 1 rfl ?_
  refine V_if_geN (tgt := 40) hX dX9_goOn_35 (by decide) (by omega) ?_
  refine V_aload_n hX dX9_goOn_40 0 rfl ?_
  refine V_getN (x := nI n_) hX fX9_113 rfl hlen dX9_goOn_41 ?_
  refine V_iconst (v := nI 1) hX dX9_goOn_44 (by decide) ?_
  refine V_isubN hX dX9_goOn_45 (by omega) ?_
  refine V_istore_n (ls' := [(0, .ref 69), (1, .int (nI m_)), (2, .int (nI (n_ - 1)))]) hX dX9_goOn_46 (by decide) rfl ?_
  refine lpM_goB hX hlen hT hn hb hm hup hd (fun i_ hmi hin hui hle => ?_) (n_ - 1) (by omega) (fun q z1 z2 => absurd z2 (by omega))
  refine V_aload_n hX dX9_goOn_68 0 rfl ?_
  refine V_iload_n hX dX9_goOn_69 2 rfl ?_
  refine V_iload_n hX dX9_goOn_70 1 rfl ?_
  refine V_callV (As := [.int (nI i_), .int (nI m_)]) (st := []) hX mX9_172 rfl (kM_swap (n_ := n_) (T_ := T_) hT hn (by omega) (by omega) (fun μ2 hK2 hs2 => ?_)) rfl (Nat.le_of_ble_eq_true rfl) (Nat.le_of_ble_eq_true rfl) dX9_goOn_71
  show V G 5 X 74 [(0, .ref 69), (1, .int (nI m_)), (2, .int (nI i_))] [] μ2
  refine V_iload_n hX dX9_goOn_74 1 rfl ?_
  refine V_iconst (v := nI 1) hX dX9_goOn_75 (by decide) ?_
  refine V_iaddN hX dX9_goOn_76 ?_
  refine V_istore_n (ls' := [(0, .ref 69), (1, .int (nI m_)), (2, .int (nI i_)), (3, .int (nI (m_ + 1)))]) hX dX9_goOn_77 (by decide) rfl ?_
  refine V_aload_n hX dX9_goOn_78 0 rfl ?_
  refine V_getN (x := nI n_) hX fX9_113 rfl (by rw [hK2.1 69 (by decide)]; exact hlen) dX9_goOn_79 ?_
  refine V_iconst (v := nI 1) hX dX9_goOn_82 (by decide) ?_
  refine V_isubN hX dX9_goOn_83 (by omega) ?_
  refine V_istore (ls' := [(0, .ref 69), (1, .int (nI m_)), (2, .int (nI i_)), (3, .int (nI (m_ + 1))), (4, .int (nI (n_ - 1)))]) hX dX9_goOn_84 (by decide) rfl ?_
  exact lpM_goC (μ := μ2) (T_ := sw T_ i_ m_) (m_ := m_) (i_ := i_) hX hR hn (fun T2 μ3 lo_ hi_ hK3 hs3 hV e1 e2 e3 e4 => hQ μ3 T2 (hK2.tr hK3) hs3 (hV.nx e1 e2 e3 e4 hmi hin hd hui hle)) n_ (m_ + 1) (n_ - 1) (sw T_ i_ m_) μ2 (by omega) (by omega) (by omega) (serK.rf μ2) hs2 ⟨fun q z1 z2 => by omega, fun _ _ _ => rfl, fun _ _ _ => rfl⟩
