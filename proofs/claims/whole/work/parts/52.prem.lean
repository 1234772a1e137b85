/-! all orders that fit what was seen -/
def fitD (P : PC) (T : Nat → Nat) (m : Nat) : Nat := cnt (dipF P (T m) (lAt P T m)) 8
def fitB (P : PC) (T : Nat → Nat) (n : Nat) : Nat → Bool
  | 0 => true
  | k + 1 => fitB P T n k && decide (P 5 k < n ∧ fitD P T (P 5 k) = P 6 k)
abbrev FA : Type := Nat × (Nat → Bool) × (Nat → Nat)
def faF (a : FA) (T : Nat → Nat) : Nat → Nat := if a.1 = 0 then T else a.2.2
def faS (a : FA) (T : Nat → Nat) (i : Nat) : Bool := (decide (a.1 = 0) || a.2.1 i) && decide (T i = faF a T i)
def fitA (a : FA) (T : Nat → Nat) : FA := (a.1 + 1, faS a T, faF a T)
def fitG (P : PC) (n : Nat) (a : FA) (T : Nat → Nat) : FA := if fitB P T n (P 0 6) = true then fitA a T else a
def fitO (P : PC) (L : Nat) (S : Nat → Nat) : FA := dfs noM (fitG P L) L 0 S (fun k => cv S (kc k) 0 L) (0, fun _ => false, S)
def preS (P : PC) (L : Nat) (S : Nat → Nat) (q : Int32) : Int32 := if fltU S L = -6 then (if 6 < L then -4 else if q = -1 then nI (fitO P L S).1 else if 0 < (fitO P L S).1 ∧ inM q L then nI ((fitO P L S).2.2 q.toNatClampNeg) else -6) else -5
def surS (P : PC) (L : Nat) (S : Nat → Nat) : Int32 := if fltU S L = -6 then (if 6 < L then -4 else nI (if (fitO P L S).1 = 0 then 0 else sm (fun i => i) (fitO P L S).2.1 L)) else -5
theorem lAt_congr {P : PC} {T S : Nat → Nat} {m n : Nat} (h : ∀ i, i < n → T i = S i) (hm : m < n) : lAt P T m = lAt P S m := by
  unfold lAt
  rw [uAt_congr (P := P) (n := m) (fun i hi => h i (by omega)), h m hm]
theorem fitD_congr {P : PC} {T S : Nat → Nat} {m n : Nat} (h : ∀ i, i < n → T i = S i) (hm : m < n) : fitD P T m = fitD P S m := by
  unfold fitD
  rw [lAt_congr h hm, h m hm]
theorem fitB_congr {P : PC} {T S : Nat → Nat} {n : Nat} (h : ∀ i, i < n → T i = S i) : ∀ k, fitB P T n k = fitB P S n k
  | 0 => rfl
  | k + 1 => by
    unfold fitB
    rw [fitB_congr h k]
    congr 1
    rw [Bool.eq_iff_iff, decide_eq_true_eq, decide_eq_true_eq]
    constructor
    · rintro ⟨a, b⟩; exact ⟨a, by rw [← fitD_congr h a]; exact b⟩
    · rintro ⟨a, b⟩; exact ⟨a, by rw [fitD_congr h a]; exact b⟩
theorem sm_tb {f : Nat → Bool} {n q : Nat} : (sm (fun i => i) f n).testBit q = (decide (q < n) && f q) := by
  rw [Bool.eq_iff_iff, sm_iff, Bool.and_eq_true, decide_eq_true_eq]
  constructor
  · rintro ⟨h, h1, h2, h3⟩
    subst h3; exact ⟨h1, h2⟩
  · rintro ⟨h1, h2⟩; exact ⟨q, h1, h2, rfl⟩
theorem sm_put {f g : Nat → Bool} {n k : Nat} (hk : k < n) (hg : g k = true) (he : ∀ i, ¬ i = k → g i = f i) : sm (fun i => i) f n ||| 1 <<< k = sm (fun i => i) g n := by
  apply Nat.eq_of_testBit_eq
  intro i
  rw [bit_or1, sm_tb, sm_tb]
  by_cases e : i = k
  · subst e; simp [hk, hg]
  · rw [he i e]; simp [Ne.symm e]
theorem sm_clr {f g : Nat → Bool} {n k : Nat} (hn : n ≤ 32) (hg : g k = false) (he : ∀ i, ¬ i = k → g i = f i) : sm (fun i => i) f n &&& ((1 <<< k) ^^^ 4294967295) = sm (fun i => i) g n := by
  apply Nat.eq_of_testBit_eq
  intro i
  rw [Nat.testBit_and, sm_tb, sm_tb]
  by_cases hi : i < n
  · rw [bit_not _ _ (by omega), Nat.one_shiftLeft, Nat.testBit_two_pow]
    by_cases e : i = k
    · subst e; simp [hg]
    · rw [he i e]; simp [hi, Ne.symm e]
  · simp [hi]
theorem sm_all {f : Nat → Bool} {n : Nat} (hn : n ≤ 32) : sm (fun i => i) f n &&& 4294967295 = sm (fun i => i) f n := by
  apply Nat.eq_of_testBit_eq
  intro i
  rw [Nat.testBit_and, sm_tb]
  by_cases hi : i < n
  · have h := bit_not 0 i (by omega)
    rw [Nat.zero_xor] at h
    rw [h]; simp
  · simp [hi]
theorem sm_id_congr {f g : Nat → Bool} {n : Nat} (h : ∀ i, i < n → f i = g i) : sm (fun i => i) f n = sm (fun i => i) g n := sm_congr h
theorem dip_or {P : PC} {T : Nat → Nat} {m : Nat} : popN (sm (fun h => h) (nodF P (lAt P T m)) 8 ||| sm (fun h => h) (agrF P (T m) (lAt P T m)) 8) 8 = fitD P T m := by
  rw [sm_or, cntI]; rfl
set_option maxRecDepth 100000 in
set_option maxHeartbeats 4000000 in
theorem lpM_cnt {G : VG} {d : Nat} {Q : Option Value → VS → Prop} {X : VX} {P : PC} {L : Nat} {S κ : Nat → Nat} {I : Nat → PC} {μ μ1 μ2 : VS} {T U_ : Nat → Nat} (hX : Cx G (d + 5) yX9_isCounted cX9_isCounted 4 (some .boolean) X) (hR : ∀ r μ', Q r μ' → Ret G X r μ') (hok : okP P) (hL7 : L ≤ 7) (hO2 : oInv P L S κ I μ μ2 T) (hp : prR P U_ noC μ1 μ2 L) (hQ : Q (some (.int (bI (fitB P U_ L (P 0 6) = true)))) μ2) : ∀ (j k_ : Nat), k_ ≤ P 0 6 → P 0 6 + 1 ≤ k_ + j → V G 4 X 12 [(0, .ref 69), (1, .int (bI (fitB P U_ L k_ = true))), (2, .int (nI k_))] [] μ2 := by
  have hP6 := hok.2.2.2.2.2.2.1
  intro j
  induction j with
  | zero =>
    intro k_ h1 h2
    exact absurd h2 (by omega)
  | succ j ih =>
    intro k_ h1 h2
    refine V_iload_n hX dX9_isCounted_12 2 rfl ?_
    refine V_aload_n hX dX9_isCounted_13 0 rfl ?_
    refine V_getN (x := nI (P 0 6)) hX fX9_86 rfl (hO2.1.1.1 6 (by decide)) dX9_isCounted_14 ?_
    refine V_icmp_geN (tgt := 82) hX dX9_isCounted_17 (by decide) (by first | omega | (have := (hok.2.2.2.2.2.2.2.2.1 k_ (by omega)); omega) | (have := (hok.2.2.2.2.2.2.2.2.1 k_ (by omega)); have : fitD P U_ (P 5 k_) ≤ 8 := cnt_le _ 8; omega)) (by first | omega | (have := (hok.2.2.2.2.2.2.2.2.1 k_ (by omega)); omega) | (have := (hok.2.2.2.2.2.2.2.2.1 k_ (by omega)); have : fitD P U_ (P 5 k_) ≤ 8 := cnt_le _ 8; omega)) (fun c17 => ?_) (fun c17 => ?_)
    · refine V_iload_n hX dX9_isCounted_82 1 rfl ?_
      refine V_zret hX rfl bI_nar dX9_isCounted_83 ?_
      obtain rfl : k_ = P 0 6 := by omega
      exact hR _ _ hQ
    · refine V_aload_n hX dX9_isCounted_20 0 rfl ?_
      refine V_getr (j := 74) hX fX9_32 rfl rfl dX9_isCounted_21 ?_
      refine V_iconst (v := nI 2) hX dX9_isCounted_24 (by decide) ?_
      refine V_iload_n hX dX9_isCounted_25 2 rfl ?_
      refine V_imulN hX dX9_isCounted_26 ?_
      refine V_ialdN (x := nI (P 5 k_)) hX rfl (by first | omega | (have := (hok.2.2.2.2.2.2.2.2.1 k_ (by omega)); omega) | (have := (hok.2.2.2.2.2.2.2.2.1 k_ (by omega)); have : fitD P U_ (P 5 k_) ≤ 8 := cnt_le _ 8; omega)) (by decide) (hO2.1.1.2.2 k_ (by omega)).1 dX9_isCounted_27 ?_
      refine V_istore_n (ls' := [(0, .ref 69), (1, .int (bI (fitB P U_ L k_ = true))), (2, .int (nI k_)), (3, .int (nI (P 5 k_)))]) hX dX9_isCounted_28 (by decide) rfl ?_
      refine V_iload_n hX dX9_isCounted_29 1 rfl ?_
      refine V_if_eqB (tgt := 74) hX dX9_isCounted_30 (by decide) (fun c30 => ?_) (fun c30 => ?_)
      · refine V_iconst (v := nI 0) hX dX9_isCounted_74 (by decide) ?_
        refine V_istore_n (ls' := [(0, .ref 69), (1, .int (nI 0)), (2, .int (nI k_)), (3, .int (nI (P 5 k_)))]) hX dX9_isCounted_75 (by decide) rfl ?_
        refine V_iincN (n := 1) (ls' := [(0, .ref 69), (1, .int (nI 0)), (2, .int (nI (k_ + 1))), (3, .int (nI (P 5 k_)))]) hX dX9_isCounted_76 2 rfl (by decide) rfl ?_
        refine V_goto (tgt := 12) hX dX9_isCounted_79 (by decide) ?_
        have h9 := ih (k_ + 1) (by omega) (by omega)
        rw [show bI (fitB P U_ L (k_ + 1) = true) = nI 0 from bI_f (fun z => c30 (Bool.and_eq_true_iff.mp z).1)] at h9
        exact V_sub [0, 1, 2] rfl h9
      · refine V_iload_n hX dX9_isCounted_33 3 rfl ?_
        refine V_aload_n hX dX9_isCounted_34 0 rfl ?_
        refine V_getN (x := nI L) hX fX9_113 rfl hO2.2.2.2.1 dX9_isCounted_35 ?_
        refine V_icmp_geN (tgt := 74) hX dX9_isCounted_38 (by decide) (by first | omega | (have := (hok.2.2.2.2.2.2.2.2.1 k_ (by omega)); omega) | (have := (hok.2.2.2.2.2.2.2.2.1 k_ (by omega)); have : fitD P U_ (P 5 k_) ≤ 8 := cnt_le _ 8; omega)) (by first | omega | (have := (hok.2.2.2.2.2.2.2.2.1 k_ (by omega)); omega) | (have := (hok.2.2.2.2.2.2.2.2.1 k_ (by omega)); have : fitD P U_ (P 5 k_) ≤ 8 := cnt_le _ 8; omega)) (fun c38 => ?_) (fun c38 => ?_)
        · refine V_iconst (v := nI 0) hX dX9_isCounted_74 (by decide) ?_
          refine V_istore_n (ls' := [(0, .ref 69), (1, .int (nI 0)), (2, .int (nI k_)), (3, .int (nI (P 5 k_)))]) hX dX9_isCounted_75 (by decide) rfl ?_
          refine V_iincN (n := 1) (ls' := [(0, .ref 69), (1, .int (nI 0)), (2, .int (nI (k_ + 1))), (3, .int (nI (P 5 k_)))]) hX dX9_isCounted_76 2 rfl (by decide) rfl ?_
          refine V_goto (tgt := 12) hX dX9_isCounted_79 (by decide) ?_
          have h9 := ih (k_ + 1) (by omega) (by omega)
          rw [show bI (fitB P U_ L (k_ + 1) = true) = nI 0 from bI_f (fun z => by have := (of_decide_eq_true (Bool.and_eq_true_iff.mp z).2).1; omega)] at h9
          exact V_sub [0, 1, 2] rfl h9
        · refine V_aload_n hX dX9_isCounted_41 0 rfl ?_
          refine V_getr (j := 79) hX fX9_47 rfl rfl dX9_isCounted_42 ?_
          refine V_iload_n hX dX9_isCounted_45 3 rfl ?_
          refine V_ialdN (x := nI (sm (fun h => h) (nodF P (lAt P U_ (P 5 k_))) 8)) hX rfl (by first | omega | (have := (hok.2.2.2.2.2.2.2.2.1 k_ (by omega)); omega) | (have := (hok.2.2.2.2.2.2.2.2.1 k_ (by omega)); have : fitD P U_ (P 5 k_) ≤ 8 := cnt_le _ 8; omega)) (by decide) (hp.2.2.2.2.1 (P 5 k_) (by omega)).1 dX9_isCounted_46 ?_
          refine V_aload_n hX dX9_isCounted_47 0 rfl ?_
          refine V_getr (j := 80) hX fX9_50 rfl rfl dX9_isCounted_48 ?_
          refine V_iload_n hX dX9_isCounted_51 3 rfl ?_
          refine V_ialdN (x := nI (sm (fun h => h) (agrF P (U_ (P 5 k_)) (lAt P U_ (P 5 k_))) 8)) hX rfl (by first | omega | (have := (hok.2.2.2.2.2.2.2.2.1 k_ (by omega)); omega) | (have := (hok.2.2.2.2.2.2.2.2.1 k_ (by omega)); have : fitD P U_ (P 5 k_) ≤ 8 := cnt_le _ 8; omega)) (by decide) (hp.2.2.2.2.1 (P 5 k_) (by omega)).2.1 dX9_isCounted_52 ?_
          refine V_iorN hX dX9_isCounted_53 ?_
          refine V_callS (As := [.int (nI ((sm (fun h => h) (nodF P (lAt P U_ (P 5 k_))) 8) ||| (sm (fun h => h) (agrF P (U_ (P 5 k_)) (lAt P U_ (P 5 k_))) 8)))]) (st := []) hX mX9_96 (k_bitsM (or8 (sm_lt8 _ (by decide)) (sm_lt8 _ (by decide))) dip_or ?_) rfl (Nat.le_of_ble_eq_true rfl) (Nat.le_of_ble_eq_true rfl) dX9_isCounted_54
          show V G 4 X 57 [(0, .ref 69), (1, .int (bI (fitB P U_ L k_ = true))), (2, .int (nI k_)), (3, .int (nI (P 5 k_)))] [.int (nI (fitD P U_ (P 5 k_)))] μ2
          refine V_aload_n hX dX9_isCounted_57 0 rfl ?_
          refine V_getr (j := 74) hX fX9_32 rfl rfl dX9_isCounted_58 ?_
          refine V_iconst (v := nI 2) hX dX9_isCounted_61 (by decide) ?_
          refine V_iload_n hX dX9_isCounted_62 2 rfl ?_
          refine V_imulN hX dX9_isCounted_63 ?_
          refine V_iconst (v := nI 1) hX dX9_isCounted_64 (by decide) ?_
          refine V_iaddN hX dX9_isCounted_65 ?_
          refine V_ialdN (x := nI (P 6 k_)) hX rfl (by first | omega | (have := (hok.2.2.2.2.2.2.2.2.1 k_ (by omega)); omega) | (have := (hok.2.2.2.2.2.2.2.2.1 k_ (by omega)); have : fitD P U_ (P 5 k_) ≤ 8 := cnt_le _ 8; omega)) (by decide) (hO2.1.1.2.2 k_ (by omega)).2 dX9_isCounted_66 ?_
          refine V_icmp_neN (tgt := 74) hX dX9_isCounted_67 (by decide) (by first | omega | (have := (hok.2.2.2.2.2.2.2.2.1 k_ (by omega)); omega) | (have := (hok.2.2.2.2.2.2.2.2.1 k_ (by omega)); have : fitD P U_ (P 5 k_) ≤ 8 := cnt_le _ 8; omega)) (by first | omega | (have := (hok.2.2.2.2.2.2.2.2.1 k_ (by omega)); omega) | (have := (hok.2.2.2.2.2.2.2.2.1 k_ (by omega)); have : fitD P U_ (P 5 k_) ≤ 8 := cnt_le _ 8; omega)) (fun c67 => ?_) (fun c67 => ?_)
          · refine V_iconst (v := nI 0) hX dX9_isCounted_74 (by decide) ?_
            refine V_istore_n (ls' := [(0, .ref 69), (1, .int (nI 0)), (2, .int (nI k_)), (3, .int (nI (P 5 k_)))]) hX dX9_isCounted_75 (by decide) rfl ?_
            refine V_iincN (n := 1) (ls' := [(0, .ref 69), (1, .int (nI 0)), (2, .int (nI (k_ + 1))), (3, .int (nI (P 5 k_)))]) hX dX9_isCounted_76 2 rfl (by decide) rfl ?_
            refine V_goto (tgt := 12) hX dX9_isCounted_79 (by decide) ?_
            have h9 := ih (k_ + 1) (by omega) (by omega)
            rw [show bI (fitB P U_ L (k_ + 1) = true) = nI 0 from bI_f (fun z => c67 (of_decide_eq_true (Bool.and_eq_true_iff.mp z).2).2)] at h9
            exact V_sub [0, 1, 2] rfl h9
          · refine V_iconst (v := nI 1) hX dX9_isCounted_70 (by decide) ?_
            refine V_goto (tgt := 75) hX dX9_isCounted_71 (by decide) ?_
            refine V_istore_n (ls' := [(0, .ref 69), (1, .int (nI 1)), (2, .int (nI k_)), (3, .int (nI (P 5 k_)))]) hX dX9_isCounted_75 (by decide) rfl ?_
            refine V_iincN (n := 1) (ls' := [(0, .ref 69), (1, .int (nI 1)), (2, .int (nI (k_ + 1))), (3, .int (nI (P 5 k_)))]) hX dX9_isCounted_76 2 rfl (by decide) rfl ?_
            refine V_goto (tgt := 12) hX dX9_isCounted_79 (by decide) ?_
            have h9 := ih (k_ + 1) (by omega) (by omega)
            rw [show bI (fitB P U_ L (k_ + 1) = true) = nI 1 from bI_t (Bool.and_eq_true_iff.mpr ⟨c30, decide_eq_true ⟨c38, c67⟩⟩)] at h9
            exact V_sub [0, 1, 2] rfl h9
set_option maxRecDepth 100000 in
set_option maxHeartbeats 4000000 in
theorem kM_isCounted {G : VG} {d : Nat} {μ : VS} {Q : Option Value → VS → Prop} {P : PC} {L : Nat} {S κ : Nat → Nat} {I : Nat → PC} {μ0 : VS} {T U_ : Nat → Nat} (hO : oInv P L S κ I μ0 μ T) (hok : okP P) (hL7 : L ≤ 7) (hTU : ∀ i, i < L → T i = U_ i) (hg : sgs T L) (hQ : ∀ μ', oInv P L S κ I μ0 μ' T → mSame μ μ' → Q (some (.int (bI (fitB P U_ L (P 0 6) = true)))) μ') : Call G (d + 5) yX9_isCounted cX9_isCounted 4 (some .boolean) [.ref 69] μ Q := by
  intro X hX hR
  show V G 4 X 0 [(0, .ref 69)] [] μ
  refine V_aload_n hX dX9_isCounted_0 0 rfl ?_
  refine V_aload_n hX dX9_isCounted_1 0 rfl ?_
  refine V_getN (x := nI L) hX fX9_113 rfl hO.2.2.2.1 dX9_isCounted_2 ?_
  refine V_callV (As := [.int (nI L)]) (st := []) hX mX9_163 rfl (kM_preach (M_ := L) (E := P) (sg_ := U_) (cb_ := noC) (cm_ := 0) hO.2.2.1 hok hO.2.2.2.2.2 (by omega) (fun i hi => by rw [← hTU i hi]; exact hO.2.2.2.2.1 i hi) (fun i hi => by rw [← hTU i hi]; exact sg_lt (hg i hi)) (fun i _ => Or.inr ⟨rfl, rfl⟩) (fun μ2 hp => ?_)) rfl (Nat.le_of_ble_eq_true rfl) (Nat.le_of_ble_eq_true rfl) dX9_isCounted_5
  show V G 4 X 8 [(0, .ref 69)] [] μ2
  have hO2 := hO.same hp.1
  refine V_iconst (v := nI 1) hX dX9_isCounted_8 (by decide) ?_
  refine V_istore_n (ls' := [(0, .ref 69), (1, .int (nI 1))]) hX dX9_isCounted_9 (by decide) rfl ?_
  refine V_iconst (v := nI 0) hX dX9_isCounted_10 (by decide) ?_
  refine V_istore_n (ls' := [(0, .ref 69), (1, .int (nI 1)), (2, .int (nI 0))]) hX dX9_isCounted_11 (by decide) rfl ?_
  have h9 := lpM_cnt (U_ := U_) hX hR hok hL7 hO2 hp (hQ μ2 hO2 hp.1) (P 0 6 + 1) 0 (by omega) (by omega)
  rw [show bI (fitB P U_ L 0 = true) = nI 1 from bI_t rfl] at h9
  exact h9
def pI (P : PC) (L : Nat) (S κ : Nat → Nat) (I : Nat → PC) (μ μ1 : VS) (T : Nat → Nat) (a : FA) : Prop := oInv P L S κ I μ μ1 T ∧ μ1.1 69 33 = nI (sm (fun i => i) a.2.1 L) ∧ (0 < a.1 → ∀ i, i < L → μ1.1 83 i = nI (a.2.2 i))
/-- within the writing down of an order that fits -/
def pK (μ μ1 : VS) : Prop := (∀ a, a ≠ 83 → a ≠ 69 → μ1.1 a = μ.1 a) ∧ (∀ k, k ≠ 33 → μ1.1 69 k = μ.1 69 k) ∧ μ1.2 = μ.2
theorem pK.keep {a b : VS} (h : pK a b) : mKeep a b := ⟨fun x k hx => by
  by_cases e : x = 69
  · subst e; exact h.2.1 k (fun z => hx (by unfold mAll; omega))
  · rw [h.1 x (fun z => hx (by unfold mAll; omega)) e], h.2.2⟩
theorem oInv.pk {P : PC} {L : Nat} {S κ : Nat → Nat} {I : Nat → PC} {μ μ1 μ2 : VS} {T : Nat → Nat} (h : oInv P L S κ I μ μ1 T) (e : pK μ1 μ2) : oInv P L S κ I μ μ2 T := by
  refine ⟨h.1.keep e.keep, h.2.1.tr e.keep.C, ?_, by rw [e.2.1 15 (by decide)]; exact h.2.2.2.1, fun q hq => by rw [e.1 76 (by decide) (by decide)]; exact h.2.2.2.2.1 q hq, by rw [e.2.1 19 (by decide)]; exact h.2.2.2.2.2⟩
  have hE := h.2.2.1
  unfold isE at hE ⊢
  rw [e.2.1 1 (by decide), e.2.1 17 (by decide), e.2.1 18 (by decide), e.2.1 9 (by decide), e.2.1 7 (by decide), e.1 77 (by decide) (by decide), e.1 71 (by decide) (by decide), e.1 72 (by decide) (by decide), e.1 73 (by decide) (by decide)]
  exact hE
def pkF (a : FA) (T : Nat → Nat) (k i : Nat) : Bool := if i < k then faS a T i else a.2.1 i
def pkJ (a : FA) (T : Nat → Nat) (L k : Nat) (μ μ1 : VS) : Prop := pK μ μ1 ∧ μ1.1 69 33 = nI (sm (fun i => i) (pkF a T k) L) ∧ (∀ i, i < k → μ1.1 83 i = nI (faF a T i)) ∧ ∀ i, k ≤ i → μ1.1 83 i = μ.1 83 i
theorem pkJ.stp {a : FA} {T : Nat → Nat} {L k x y : Nat} {μ μ1 : VS} (h : pkJ a T L k μ μ1) (hx : x = sm (fun i => i) (pkF a T (k + 1)) L) (v : Int32) (hv : v = nI (faF a T k)) : pkJ a T L (k + 1) μ (vup (vup (vup μ1.1 69 33 (nI y)) 83 k v) 69 33 (nI x), μ1.2) := by
  subst hx; subst hv
  refine ⟨⟨fun b h1 h2 => ?_, fun q hq => ?_, h.1.2.2⟩, ?_, fun i hi => ?_, fun i hi => ?_⟩
  · dsimp only; rw [vup_row _ _ _ h2, vup_row _ _ _ h1, vup_row _ _ _ h2]; exact h.1.1 b h1 h2
  · dsimp only; rw [vup_ne hq, vup_row _ _ _ (by decide), vup_ne hq]; exact h.1.2.1 q hq
  · dsimp only; exact vup_same _ _ _ _
  · dsimp only; rw [vup_row _ _ _ (by decide)]
    by_cases e : i = k
    · rw [e]; exact vup_same _ _ _ _
    · rw [vup_ne e, vup_row _ _ _ (by decide)]; exact h.2.2.1 i (by omega)
  · dsimp only; rw [vup_row _ _ _ (by decide), vup_ne (by omega), vup_row _ _ _ (by decide)]; exact h.2.2.2 i (by omega)
theorem pk_new {a : FA} {T : Nat → Nat} {L k : Nat} (hk : k < L) (hL : L ≤ 7) (h0 : a.1 = 0) : (sm (fun i => i) (pkF a T k) L ||| 1 <<< k) &&& 4294967295 = sm (fun i => i) (pkF a T (k + 1)) L := by
  rw [sm_put (g := pkF a T (k + 1)) hk ?_ ?_, sm_all (by omega)]
  · unfold pkF faS faF; rw [if_pos (by omega), if_pos h0, decide_eq_true h0]; simp
  · intro i hi
    unfold pkF
    by_cases e : i < k
    · rw [if_pos e, if_pos (by omega)]
    · rw [if_neg e, if_neg (by omega)]
theorem pk_yes {a : FA} {T : Nat → Nat} {L k : Nat} (hk : k < L) (hL : L ≤ 7) (h0 : ¬ a.1 = 0) (he : T k = a.2.2 k) : (sm (fun i => i) (pkF a T k) L ||| 0) &&& 4294967295 = sm (fun i => i) (pkF a T (k + 1)) L := by
  rw [Nat.or_zero, sm_all (by omega)]
  refine sm_id_congr (fun i _ => ?_)
  unfold pkF
  by_cases e : i < k
  · rw [if_pos e, if_pos (by omega)]
  · rw [if_neg e]
    by_cases e2 : i = k
    · subst e2
      rw [if_pos (by omega)]
      unfold faS faF
      rw [decide_eq_false h0, if_neg h0, decide_eq_true he]; simp
    · rw [if_neg (by omega)]
theorem pk_no {a : FA} {T : Nat → Nat} {L k : Nat} (hL : L ≤ 7) (h0 : ¬ a.1 = 0) (he : ¬ T k = a.2.2 k) : (sm (fun i => i) (pkF a T k) L ||| 0) &&& ((1 <<< k) ^^^ 4294967295) = sm (fun i => i) (pkF a T (k + 1)) L := by
  rw [Nat.or_zero, sm_clr (g := pkF a T (k + 1)) (by omega) ?_ ?_]
  · unfold pkF faS faF; rw [if_pos (by omega), if_neg h0, decide_eq_false he]; simp
  · intro i hi
    unfold pkF
    by_cases e : i < k
    · rw [if_pos e, if_pos (by omega)]
    · rw [if_neg e, if_neg (by omega)]
theorem pkF_0 {a : FA} {T : Nat → Nat} {L : Nat} : sm (fun i => i) (pkF a T 0) L = sm (fun i => i) a.2.1 L := sm_id_congr (fun i _ => if_neg (by omega))
theorem pkF_n {a : FA} {T : Nat → Nat} {L : Nat} : sm (fun i => i) (pkF a T L) L = sm (fun i => i) (faS a T) L := sm_id_congr (fun i hi => if_pos hi)
set_option maxRecDepth 100000 in
set_option maxHeartbeats 4000000 in
theorem lpM_fit0 {G : VG} {d : Nat} {X : VX} {P : PC} {L : Nat} {S κ : Nat → Nat} {I : Nat → PC} {μ0 μ : VS} {T : Nat → Nat} {a : FA} (hX : Cx G d yX9_layPreached cX9_layPreached 4 (some .int) X) (hL7 : L ≤ 7) (hO : oInv P L S κ I μ0 μ T) (hgb : ∀ i, i < L → T i < 1000) (ha31 : a.1 < 2 ^ 31) (h0 : a.1 = 0) (hb : 0 < a.1 → ∀ i, i < L → μ.1 83 i = nI (a.2.2 i)) (hF : ∀ μ1, pkJ a T L L μ μ1 → V G 4 X 122 [(0, .ref 69), (1, .int (nI 0))] [] μ1) : ∀ (j k_ : Nat) (μ1 : VS), k_ ≤ L → L + 1 ≤ k_ + j → pkJ a T L k_ μ μ1 → V G 4 X 30 [(0, .ref 69), (1, .int (nI 0)), (3, .int (nI k_))] [] μ1 := by
  intro j
  induction j with
  | zero =>
    intro k_ μ1 h1 h2
    exact absurd h2 (by omega)
  | succ j ih =>
    intro k_ μ1 h1 h2 hJ
    refine V_iload_n hX dX9_layPreached_30 2 rfl ?_
    refine V_aload_n hX dX9_layPreached_31 0 rfl ?_
    refine V_getN (x := nI L) hX fX9_113 rfl (by first | rw [hJ.1.2.1 15 (by decide)]; exact hO.2.2.2.1) dX9_layPreached_32 ?_
    refine V_icmp_geN (tgt := 122) hX dX9_layPreached_35 (by decide) (by first | omega | (have := hgb k_ (by omega); omega) | (have := hgb k_ (by omega); have := hab k_ (by omega); omega) | (rw [Nat.one_mul]; exact Nat.pow_lt_pow_right (n := 32) (by decide) (by omega))) (by first | omega | (have := hgb k_ (by omega); omega) | (have := hgb k_ (by omega); have := hab k_ (by omega); omega) | (rw [Nat.one_mul]; exact Nat.pow_lt_pow_right (n := 32) (by decide) (by omega))) (fun c35 => ?_) (fun c35 => ?_)
    · obtain rfl : k_ = L := by omega
      exact V_sub [0, 1] rfl (hF μ1 hJ)
    · refine V_aload_n hX dX9_layPreached_38 0 rfl ?_
      refine V_dup hX dX9_layPreached_39 rfl ?_
      refine V_getN (x := nI (sm (fun i => i) (pkF a T k_) L)) hX fX9_185 rfl hJ.2.1 dX9_layPreached_40 ?_
      refine V_iload_n hX dX9_layPreached_43 1 rfl ?_
      refine V_if_neN (tgt := 53) hX dX9_layPreached_44 (by decide) (by first | omega | (have := hgb k_ (by omega); omega) | (have := hgb k_ (by omega); have := hab k_ (by omega); omega) | (rw [Nat.one_mul]; exact Nat.pow_lt_pow_right (n := 32) (by decide) (by omega))) (fun c44 => ?_) (fun c44 => ?_)
      · exact absurd c44 (by decide)
      · refine V_iconst (v := nI 1) hX dX9_layPreached_47 (by decide) ?_
        refine V_iload_n hX dX9_layPreached_48 2 rfl ?_
        refine V_ishlN hX dX9_layPreached_49 (by first | omega | (have := hgb k_ (by omega); omega) | (have := hgb k_ (by omega); have := hab k_ (by omega); omega) | (rw [Nat.one_mul]; exact Nat.pow_lt_pow_right (n := 32) (by decide) (by omega))) (by first | omega | (have := hgb k_ (by omega); omega) | (have := hgb k_ (by omega); have := hab k_ (by omega); omega) | (rw [Nat.one_mul]; exact Nat.pow_lt_pow_right (n := 32) (by decide) (by omega))) ?_
        refine V_goto (tgt := 54) hX dX9_layPreached_50 (by decide) ?_
        refine V_iorN hX dX9_layPreached_54 ?_
        refine V_puti hX fX9_185 fw_8_33 rfl dX9_layPreached_55 ?_
        show V G 4 X 58 [(0, .ref 69), (1, .int (nI 0)), (3, .int (nI k_))] [] (vup μ1.1 69 33 (nI ((sm (fun i => i) (pkF a T k_) L) ||| (1 <<< k_))), μ1.2)
        refine V_aload_n hX dX9_layPreached_58 0 rfl ?_
        refine V_getr (j := 83) hX fX9_59 rfl rfl dX9_layPreached_59 ?_
        refine V_iload_n hX dX9_layPreached_62 2 rfl ?_
        refine V_iload_n hX dX9_layPreached_63 1 rfl ?_
        refine V_if_neN (tgt := 76) hX dX9_layPreached_64 (by decide) (by first | omega | (have := hgb k_ (by omega); omega) | (have := hgb k_ (by omega); have := hab k_ (by omega); omega) | (rw [Nat.one_mul]; exact Nat.pow_lt_pow_right (n := 32) (by decide) (by omega))) (fun c64 => ?_) (fun c64 => ?_)
        · exact absurd c64 (by decide)
        · refine V_aload_n hX dX9_layPreached_67 0 rfl ?_
          refine V_getr (j := 76) hX fX9_38 rfl rfl dX9_layPreached_68 ?_
          refine V_iload_n hX dX9_layPreached_71 2 rfl ?_
          refine V_ialdN (x := nI (T k_)) hX rfl (by first | omega | (have := hgb k_ (by omega); omega) | (have := hgb k_ (by omega); have := hab k_ (by omega); omega) | (rw [Nat.one_mul]; exact Nat.pow_lt_pow_right (n := 32) (by decide) (by omega))) (by decide) (by show μ1.1 76 k_ = _; rw [hJ.1.1 76 (by decide) (by decide)]; exact hO.2.2.2.2.1 k_ (by omega)) dX9_layPreached_72 ?_
          refine V_goto (tgt := 82) hX dX9_layPreached_73 (by decide) ?_
          refine V_iastN hX rfl (by first | omega | (have := hgb k_ (by omega); omega) | (have := hgb k_ (by omega); have := hab k_ (by omega); omega) | (rw [Nat.one_mul]; exact Nat.pow_lt_pow_right (n := 32) (by decide) (by omega))) (by decide) dX9_layPreached_82 ?_
          show V G 4 X 83 [(0, .ref 69), (1, .int (nI 0)), (3, .int (nI k_))] [] (vup (vup μ1.1 69 33 (nI ((sm (fun i => i) (pkF a T k_) L) ||| (1 <<< k_)))) 83 k_ (nI (T k_)), μ1.2)
          refine V_aload_n hX dX9_layPreached_83 0 rfl ?_
          refine V_dup hX dX9_layPreached_84 rfl ?_
          refine V_getN (x := nI ((sm (fun i => i) (pkF a T k_) L) ||| (1 <<< k_))) hX fX9_185 rfl rfl dX9_layPreached_85 ?_
          refine V_aload_n hX dX9_layPreached_88 0 rfl ?_
          refine V_getr (j := 83) hX fX9_59 rfl rfl dX9_layPreached_89 ?_
          refine V_iload_n hX dX9_layPreached_92 2 rfl ?_
          refine V_ialdN (x := nI (T k_)) hX rfl (by first | omega | (have := hgb k_ (by omega); omega) | (have := hgb k_ (by omega); have := hab k_ (by omega); omega) | (rw [Nat.one_mul]; exact Nat.pow_lt_pow_right (n := 32) (by decide) (by omega))) (by decide) (by dsimp only; exact vup_same _ _ _ _) dX9_layPreached_93 ?_
          refine V_aload_n hX dX9_layPreached_94 0 rfl ?_
          refine V_getr (j := 76) hX fX9_38 rfl rfl dX9_layPreached_95 ?_
          refine V_iload_n hX dX9_layPreached_98 2 rfl ?_
          refine V_ialdN (x := nI (T k_)) hX rfl (by first | omega | (have := hgb k_ (by omega); omega) | (have := hgb k_ (by omega); have := hab k_ (by omega); omega) | (rw [Nat.one_mul]; exact Nat.pow_lt_pow_right (n := 32) (by decide) (by omega))) (by decide) (by show μ1.1 76 k_ = _; rw [hJ.1.1 76 (by decide) (by decide)]; exact hO.2.2.2.2.1 k_ (by omega)) dX9_layPreached_99 ?_
          refine V_icmp_neN (tgt := 107) hX dX9_layPreached_100 (by decide) (by first | omega | (have := hgb k_ (by omega); omega) | (have := hgb k_ (by omega); have := hab k_ (by omega); omega) | (rw [Nat.one_mul]; exact Nat.pow_lt_pow_right (n := 32) (by decide) (by omega))) (by first | omega | (have := hgb k_ (by omega); omega) | (have := hgb k_ (by omega); have := hab k_ (by omega); omega) | (rw [Nat.one_mul]; exact Nat.pow_lt_pow_right (n := 32) (by decide) (by omega))) (fun c100 => ?_) (fun c100 => ?_)
          · exact absurd rfl c100
          · refine V_iconst (v := nI 4294967295) hX dX9_layPreached_103 (by decide) ?_
            refine V_goto (tgt := 112) hX dX9_layPreached_104 (by decide) ?_
            refine V_iandN hX dX9_layPreached_112 ?_
            refine V_puti hX fX9_185 fw_8_33 rfl dX9_layPreached_113 ?_
            show V G 4 X 116 [(0, .ref 69), (1, .int (nI 0)), (3, .int (nI k_))] [] (vup (vup (vup μ1.1 69 33 (nI ((sm (fun i => i) (pkF a T k_) L) ||| (1 <<< k_)))) 83 k_ (nI (T k_))) 69 33 (nI (((sm (fun i => i) (pkF a T k_) L) ||| (1 <<< k_)) &&& 4294967295)), μ1.2)
            refine V_iincN (n := 1) (ls' := [(0, .ref 69), (1, .int (nI 0)), (3, .int (nI (k_ + 1)))]) hX dX9_layPreached_116 2 rfl (by decide) rfl ?_
            refine V_goto (tgt := 30) hX dX9_layPreached_119 (by decide) ?_
            exact ih (k_ + 1) _ (by omega) (by omega) (hJ.stp (x := ((sm (fun i => i) (pkF a T k_) L) ||| (1 <<< k_)) &&& 4294967295) (y := (sm (fun i => i) (pkF a T k_) L) ||| (1 <<< k_)) (pk_new (by omega) hL7 h0) (nI (T k_)) (by show _ = nI (faF a T k_); unfold faF; rw [if_pos h0]))
set_option maxRecDepth 100000 in
set_option maxHeartbeats 4000000 in
theorem lpM_fit1 {G : VG} {d : Nat} {X : VX} {P : PC} {L : Nat} {S κ : Nat → Nat} {I : Nat → PC} {μ0 μ : VS} {T : Nat → Nat} {a : FA} (hX : Cx G d yX9_layPreached cX9_layPreached 4 (some .int) X) (hL7 : L ≤ 7) (hO : oInv P L S κ I μ0 μ T) (hgb : ∀ i, i < L → T i < 1000) (ha31 : a.1 < 2 ^ 31) (h0 : ¬ a.1 = 0) (hab : ∀ i, i < L → a.2.2 i < 1000) (hb : 0 < a.1 → ∀ i, i < L → μ.1 83 i = nI (a.2.2 i)) (hF : ∀ μ1, pkJ a T L L μ μ1 → V G 4 X 122 [(0, .ref 69), (1, .int (nI a.1))] [] μ1) : ∀ (j k_ : Nat) (μ1 : VS), k_ ≤ L → L + 1 ≤ k_ + j → pkJ a T L k_ μ μ1 → V G 4 X 30 [(0, .ref 69), (1, .int (nI a.1)), (3, .int (nI k_))] [] μ1 := by
  intro j
  induction j with
  | zero =>
    intro k_ μ1 h1 h2
    exact absurd h2 (by omega)
  | succ j ih =>
    intro k_ μ1 h1 h2 hJ
    refine V_iload_n hX dX9_layPreached_30 2 rfl ?_
    refine V_aload_n hX dX9_layPreached_31 0 rfl ?_
    refine V_getN (x := nI L) hX fX9_113 rfl (by first | rw [hJ.1.2.1 15 (by decide)]; exact hO.2.2.2.1) dX9_layPreached_32 ?_
    refine V_icmp_geN (tgt := 122) hX dX9_layPreached_35 (by decide) (by first | omega | (have := hgb k_ (by omega); omega) | (have := hgb k_ (by omega); have := hab k_ (by omega); omega) | (rw [Nat.one_mul]; exact Nat.pow_lt_pow_right (n := 32) (by decide) (by omega))) (by first | omega | (have := hgb k_ (by omega); omega) | (have := hgb k_ (by omega); have := hab k_ (by omega); omega) | (rw [Nat.one_mul]; exact Nat.pow_lt_pow_right (n := 32) (by decide) (by omega))) (fun c35 => ?_) (fun c35 => ?_)
    · obtain rfl : k_ = L := by omega
      exact V_sub [0, 1] rfl (hF μ1 hJ)
    · refine V_aload_n hX dX9_layPreached_38 0 rfl ?_
      refine V_dup hX dX9_layPreached_39 rfl ?_
      refine V_getN (x := nI (sm (fun i => i) (pkF a T k_) L)) hX fX9_185 rfl hJ.2.1 dX9_layPreached_40 ?_
      refine V_iload_n hX dX9_layPreached_43 1 rfl ?_
      refine V_if_neN (tgt := 53) hX dX9_layPreached_44 (by decide) (by first | omega | (have := hgb k_ (by omega); omega) | (have := hgb k_ (by omega); have := hab k_ (by omega); omega) | (rw [Nat.one_mul]; exact Nat.pow_lt_pow_right (n := 32) (by decide) (by omega))) (fun c44 => ?_) (fun c44 => ?_)
      · refine V_iconst (v := nI 0) hX dX9_layPreached_53 (by decide) ?_
        refine V_iorN hX dX9_layPreached_54 ?_
        refine V_puti hX fX9_185 fw_8_33 rfl dX9_layPreached_55 ?_
        show V G 4 X 58 [(0, .ref 69), (1, .int (nI a.1)), (3, .int (nI k_))] [] (vup μ1.1 69 33 (nI ((sm (fun i => i) (pkF a T k_) L) ||| 0)), μ1.2)
        refine V_aload_n hX dX9_layPreached_58 0 rfl ?_
        refine V_getr (j := 83) hX fX9_59 rfl rfl dX9_layPreached_59 ?_
        refine V_iload_n hX dX9_layPreached_62 2 rfl ?_
        refine V_iload_n hX dX9_layPreached_63 1 rfl ?_
        refine V_if_neN (tgt := 76) hX dX9_layPreached_64 (by decide) (by first | omega | (have := hgb k_ (by omega); omega) | (have := hgb k_ (by omega); have := hab k_ (by omega); omega) | (rw [Nat.one_mul]; exact Nat.pow_lt_pow_right (n := 32) (by decide) (by omega))) (fun c64 => ?_) (fun c64 => ?_)
        · refine V_aload_n hX dX9_layPreached_76 0 rfl ?_
          refine V_getr (j := 83) hX fX9_59 rfl rfl dX9_layPreached_77 ?_
          refine V_iload_n hX dX9_layPreached_80 2 rfl ?_
          refine V_ialdN (x := nI (a.2.2 k_)) hX rfl (by first | omega | (have := hgb k_ (by omega); omega) | (have := hgb k_ (by omega); have := hab k_ (by omega); omega) | (rw [Nat.one_mul]; exact Nat.pow_lt_pow_right (n := 32) (by decide) (by omega))) (by decide) (by show μ1.1 83 k_ = _; rw [hJ.2.2.2 k_ (Nat.le_refl _)]; exact hb (by omega) k_ (by omega)) dX9_layPreached_81 ?_
          refine V_iastN hX rfl (by first | omega | (have := hgb k_ (by omega); omega) | (have := hgb k_ (by omega); have := hab k_ (by omega); omega) | (rw [Nat.one_mul]; exact Nat.pow_lt_pow_right (n := 32) (by decide) (by omega))) (by decide) dX9_layPreached_82 ?_
          show V G 4 X 83 [(0, .ref 69), (1, .int (nI a.1)), (3, .int (nI k_))] [] (vup (vup μ1.1 69 33 (nI ((sm (fun i => i) (pkF a T k_) L) ||| 0))) 83 k_ (nI (a.2.2 k_)), μ1.2)
          refine V_aload_n hX dX9_layPreached_83 0 rfl ?_
          refine V_dup hX dX9_layPreached_84 rfl ?_
          refine V_getN (x := nI ((sm (fun i => i) (pkF a T k_) L) ||| 0)) hX fX9_185 rfl rfl dX9_layPreached_85 ?_
          refine V_aload_n hX dX9_layPreached_88 0 rfl ?_
          refine V_getr (j := 83) hX fX9_59 rfl rfl dX9_layPreached_89 ?_
          refine V_iload_n hX dX9_layPreached_92 2 rfl ?_
          refine V_ialdN (x := nI (a.2.2 k_)) hX rfl (by first | omega | (have := hgb k_ (by omega); omega) | (have := hgb k_ (by omega); have := hab k_ (by omega); omega) | (rw [Nat.one_mul]; exact Nat.pow_lt_pow_right (n := 32) (by decide) (by omega))) (by decide) (by dsimp only; exact vup_same _ _ _ _) dX9_layPreached_93 ?_
          refine V_aload_n hX dX9_layPreached_94 0 rfl ?_
          refine V_getr (j := 76) hX fX9_38 rfl rfl dX9_layPreached_95 ?_
          refine V_iload_n hX dX9_layPreached_98 2 rfl ?_
          refine V_ialdN (x := nI (T k_)) hX rfl (by first | omega | (have := hgb k_ (by omega); omega) | (have := hgb k_ (by omega); have := hab k_ (by omega); omega) | (rw [Nat.one_mul]; exact Nat.pow_lt_pow_right (n := 32) (by decide) (by omega))) (by decide) (by show μ1.1 76 k_ = _; rw [hJ.1.1 76 (by decide) (by decide)]; exact hO.2.2.2.2.1 k_ (by omega)) dX9_layPreached_99 ?_
          refine V_icmp_neN (tgt := 107) hX dX9_layPreached_100 (by decide) (by first | omega | (have := hgb k_ (by omega); omega) | (have := hgb k_ (by omega); have := hab k_ (by omega); omega) | (rw [Nat.one_mul]; exact Nat.pow_lt_pow_right (n := 32) (by decide) (by omega))) (by first | omega | (have := hgb k_ (by omega); omega) | (have := hgb k_ (by omega); have := hab k_ (by omega); omega) | (rw [Nat.one_mul]; exact Nat.pow_lt_pow_right (n := 32) (by decide) (by omega))) (fun c100 => ?_) (fun c100 => ?_)
          · refine V_iconst (v := nI 1) hX dX9_layPreached_107 (by decide) ?_
            refine V_iload_n hX dX9_layPreached_108 2 rfl ?_
            refine V_ishlN hX dX9_layPreached_109 (by first | omega | (have := hgb k_ (by omega); omega) | (have := hgb k_ (by omega); have := hab k_ (by omega); omega) | (rw [Nat.one_mul]; exact Nat.pow_lt_pow_right (n := 32) (by decide) (by omega))) (by first | omega | (have := hgb k_ (by omega); omega) | (have := hgb k_ (by omega); have := hab k_ (by omega); omega) | (rw [Nat.one_mul]; exact Nat.pow_lt_pow_right (n := 32) (by decide) (by omega))) ?_
            refine V_iconst (v := nI 4294967295) hX dX9_layPreached_110 (by decide) ?_
            refine V_ixorN hX dX9_layPreached_111 ?_
            refine V_iandN hX dX9_layPreached_112 ?_
            refine V_puti hX fX9_185 fw_8_33 rfl dX9_layPreached_113 ?_
            show V G 4 X 116 [(0, .ref 69), (1, .int (nI a.1)), (3, .int (nI k_))] [] (vup (vup (vup μ1.1 69 33 (nI ((sm (fun i => i) (pkF a T k_) L) ||| 0))) 83 k_ (nI (a.2.2 k_))) 69 33 (nI (((sm (fun i => i) (pkF a T k_) L) ||| 0) &&& ((1 <<< k_) ^^^ 4294967295))), μ1.2)
            refine V_iincN (n := 1) (ls' := [(0, .ref 69), (1, .int (nI a.1)), (3, .int (nI (k_ + 1)))]) hX dX9_layPreached_116 2 rfl (by decide) rfl ?_
            refine V_goto (tgt := 30) hX dX9_layPreached_119 (by decide) ?_
            exact ih (k_ + 1) _ (by omega) (by omega) (hJ.stp (x := ((sm (fun i => i) (pkF a T k_) L) ||| 0) &&& ((1 <<< k_) ^^^ 4294967295)) (y := (sm (fun i => i) (pkF a T k_) L) ||| 0) (pk_no hL7 h0 (fun z => c100 z.symm)) (nI (a.2.2 k_)) (by show _ = nI (faF a T k_); unfold faF; rw [if_neg h0]))
          · refine V_iconst (v := nI 4294967295) hX dX9_layPreached_103 (by decide) ?_
            refine V_goto (tgt := 112) hX dX9_layPreached_104 (by decide) ?_
            refine V_iandN hX dX9_layPreached_112 ?_
            refine V_puti hX fX9_185 fw_8_33 rfl dX9_layPreached_113 ?_
            show V G 4 X 116 [(0, .ref 69), (1, .int (nI a.1)), (3, .int (nI k_))] [] (vup (vup (vup μ1.1 69 33 (nI ((sm (fun i => i) (pkF a T k_) L) ||| 0))) 83 k_ (nI (a.2.2 k_))) 69 33 (nI (((sm (fun i => i) (pkF a T k_) L) ||| 0) &&& 4294967295)), μ1.2)
            refine V_iincN (n := 1) (ls' := [(0, .ref 69), (1, .int (nI a.1)), (3, .int (nI (k_ + 1)))]) hX dX9_layPreached_116 2 rfl (by decide) rfl ?_
            refine V_goto (tgt := 30) hX dX9_layPreached_119 (by decide) ?_
            exact ih (k_ + 1) _ (by omega) (by omega) (hJ.stp (x := ((sm (fun i => i) (pkF a T k_) L) ||| 0) &&& 4294967295) (y := (sm (fun i => i) (pkF a T k_) L) ||| 0) (pk_yes (by omega) hL7 h0 c100.symm) (nI (a.2.2 k_)) (by show _ = nI (faF a T k_); unfold faF; rw [if_neg h0]))
        · exact absurd c64 h0
      · exact absurd c44 h0
