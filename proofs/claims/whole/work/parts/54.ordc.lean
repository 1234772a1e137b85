/-! the class' orders, by depth -/
abbrev CA : Type := Nat × (Nat → Nat)
def cMay (P : PC) (w : Nat) (a : CA) (T : Nat → Nat) (m : Nat) : Bool := decide (lossN P w T (m + 1) < a.1)
def cArr (P : PC) (w L : Nat) (_a : CA) (T : Nat → Nat) : CA := (lossN P w T L, T)
theorem loss_congr {P : PC} {w n : Nat} {T S : Nat → Nat} (h : ∀ i, i < n → T i = S i) : lossN P w T n = lossN P w S n := by
  unfold lossN
  rw [uAt_congr h]
theorem loss_step {P : PC} {w m : Nat} {T : Nat → Nat} : lossN P w T m ≤ lossN P w T (m + 1) := by
  have h9 : (uAt P T m).2.2.2 9 ≤ (uAt P T (m + 1)).2.2.2 9 := Nat.le_add_right _ _
  have h11 : (uAt P T m).2.2.2 11 ≤ (uAt P T (m + 1)).2.2.2 11 := Nat.le_add_right _ _
  unfold lossN
  split <;> omega
theorem loss_mono {P : PC} {w m : Nat} {T : Nat → Nat} : ∀ r, lossN P w T m ≤ lossN P w T (m + r)
  | 0 => Nat.le_refl _
  | r + 1 => Nat.le_trans (loss_mono r) (loss_step (m := m + r))
theorem cDfs {P : PC} {w L : Nat} {S c : Nat → Nat} {a : CA} (h : 0 < a.1) : dfs (cMay P w) (cArr P w L) L 0 S c a = dfs noM (ordG P w L) L 0 S c a := by
  refine dfs_prune (may := cMay P w) (arr := cArr P w L) (arrG := ordG P w L) (n := L) (fun a S m => lossN P w S m < a.1) (fun a S h => (if_pos h).symm) (fun a0 a S m k _ _ h => of_decide_eq_true h) (fun a S m hm h T hT => if_neg (fun z => h (decide_eq_true ?_))) L 0 S c a (Nat.zero_add _) ?_
  · have e := loss_congr (P := P) (w := w) hT
    have q := loss_mono (P := P) (w := w) (m := m + 1) (T := T) (L - (m + 1))
    rw [show m + 1 + (L - (m + 1)) = L by omega] at q
    omega
  · have : lossN P w S 0 = 0 := by unfold lossN; split <;> rfl
    omega
def dStep {σ : Type} (may : σ → (Nat → Nat) → Nat → Bool) (arr : σ → (Nat → Nat) → σ) (j m : Nat) (S c : Nat → Nat) (k : Nat) (b : σ) : σ := if 0 < c k ∧ may b (apS S m (kc k)) m = true then dfs may arr j (m + 1) (apS S m (kc k)) (apS c k (c k - 1)) b else b
theorem dfs_succ {σ : Type} {may : σ → (Nat → Nat) → Nat → Bool} {arr : σ → (Nat → Nat) → σ} {j m : Nat} {S c : Nat → Nat} {a : σ} : dfs may arr (j + 1) m S c a = kfold (dStep may arr j m S c) 7 a := rfl
theorem dStep_no {σ : Type} {may : σ → (Nat → Nat) → Nat → Bool} {arr : σ → (Nat → Nat) → σ} {j m : Nat} {S c : Nat → Nat} {k : Nat} {b : σ} (h : ¬ (0 < c k ∧ may b (apS S m (kc k)) m = true)) : dStep may arr j m S c k b = b := if_neg h
theorem dStep_yes {σ : Type} {may : σ → (Nat → Nat) → Nat → Bool} {arr : σ → (Nat → Nat) → σ} {j m : Nat} {S c : Nat → Nat} {k : Nat} {b : σ} (h1 : 0 < c k) (h2 : may b (apS S m (kc k)) m = true) : dStep may arr j m S c k b = dfs may arr j (m + 1) (apS S m (kc k)) (apS c k (c k - 1)) b := if_pos ⟨h1, h2⟩
theorem uAt_ap {P : PC} {T : Nat → Nat} {m x : Nat} : uAt P (apS T m x) (m + 1) = mwStep P x false (uAt P T m) := by
  rw [uAt_succ, apS_at, uAt_congr (T := apS T m x) (S := T) (fun i hi => apS_ne (by omega))]
def cRel (P : PC) (L w : Nat) (μ : VS) (a : CA) : Prop := μ.1 56 5 = nI a.1 ∧ μ.1 56 6 = nI w ∧ a.1 ≤ 1000000 ∧ (a.1 < 1000000 → μ.1 56 4 = ordV P L w a.2 ∧ ∀ i, i < L → μ.1 58 i = nI (a.2 i))
theorem cRel.fr {P : PC} {L w : Nat} {μ μ' : VS} {a : CA} (h : cRel P L w μ a) (e0 : μ'.1 56 = μ.1 56) (e1 : μ'.1 58 = μ.1 58) : cRel P L w μ' a := by
  unfold cRel
  rw [e0, e1]
  exact h
/-- of the orders that fit -/
def fMay (P : PC) (_a : FA) (T : Nat → Nat) (m : Nat) : Bool := decide (∀ i, i < P 0 6 → P 5 i = m → P 6 i = fitD P T m)
theorem fitB_all {P : PC} {T : Nat → Nat} {n : Nat} : ∀ k, fitB P T n k = true ↔ ∀ i, i < k → P 5 i < n ∧ fitD P T (P 5 i) = P 6 i
  | 0 => ⟨fun _ i hi => absurd hi (by omega), fun _ => rfl⟩
  | k + 1 => by
    unfold fitB
    rw [Bool.and_eq_true, fitB_all k, decide_eq_true_eq]
    constructor
    · rintro ⟨h1, h2⟩ i hi
      rcases Nat.lt_or_ge i k with q | q
      · exact h1 i q
      · obtain rfl : i = k := by omega
        exact h2
    · intro h
      exact ⟨fun i hi => h i (by omega), h k (by omega)⟩
theorem fDfs {P : PC} {L : Nat} {S c : Nat → Nat} {a : FA} (hm : ∀ i, i < P 0 6 → P 5 i < L) : dfs (fMay P) fitA L 0 S c a = dfs noM (fitG P L) L 0 S c a := by
  refine dfs_prune (may := fMay P) (arr := fitA) (arrG := fitG P L) (n := L) (fun _ S m => ∀ i, i < P 0 6 → P 5 i < m → P 6 i = fitD P S (P 5 i)) (fun a S h => (if_pos ((fitB_all _).mpr (fun i hi => ⟨hm i hi, (h i hi (hm i hi)).symm⟩))).symm) (fun a0 a S m k hmL h0 h i hi hlt => ?_) (fun a S m hmL h T hT => if_neg (fun z => h (decide_eq_true (fun i hi e => ?_)))) L 0 S c a (Nat.zero_add _) (fun i hi z => absurd z (by omega))
  · rcases Nat.lt_or_ge (P 5 i) m with q | q
    · rw [h0 i hi q]
      exact (fitD_congr (T := apS S m (kc k)) (S := S) (n := m) (fun i hi => apS_ne (by omega)) q).symm
    · obtain e : P 5 i = m := by omega
      rw [e]
      exact of_decide_eq_true h i hi e
  · have q := ((fitB_all _).mp z) i hi
    rw [← q.2, e]
    exact fitD_congr (n := m + 1) hT (by omega)
theorem fDfs0 {P : PC} {L : Nat} {S c : Nat → Nat} {a : FA} (hm : ¬ ∀ i, i < P 0 6 → P 5 i < L) : dfs noM (fitG P L) L 0 S c a = a :=
  dfs_id L 0 S c a (fun T _ => if_neg (fun z => hm (fun i hi => (((fitB_all _).mp z) i hi).1)))
def fRel (L : Nat) (μ : VS) (a : FA) : Prop := μ.1 60 4 = nI a.1 ∧ μ.1 60 5 = nI (if a.1 = 0 then 0 else sm (fun i => i) a.2.1 L) ∧ (0 < a.1 → ∀ i, i < L → μ.1 62 i = nI (a.2.2 i) ∧ a.2.2 i < 1000)
theorem fRel.fr {L : Nat} {μ μ' : VS} {a : FA} (h : fRel L μ a) (e0 : μ'.1 60 = μ.1 60) (e1 : μ'.1 62 = μ.1 62) : fRel L μ' a := by
  unfold fRel
  rw [e0, e1]
  exact h
theorem fitA_bd (a : FA) (T : Nat → Nat) : (fitA a T).1 ≤ a.1 + 1 := Nat.le_refl _
set_option maxRecDepth 100000 in
set_option maxHeartbeats 4000000 in
theorem k_keep0 {G : VG} {d : Nat} {μ : VS} {Q : Option Value → VS → Prop} {L : Nat} (hL7 : L ≤ 7) (hl : μ.1 56 3 = nI L) (hQ : ∀ μ', (∀ a, a ≠ 58 → μ'.1 a = μ.1 a) → (∀ q, q < L → μ'.1 58 q = μ.1 57 q) → μ'.2 = μ.2 → Q none μ') : Call G (d + 1) yX2_keepAsFirst cX2_keepAsFirst 1 none [.ref 56] μ Q := by
  intro X hX hR
  show V G 1 X 0 [(0, .ref 56)] [] μ
  refine V_aload_n hX dX2_keepAsFirst_0 0 rfl ?_
  refine V_getr (j := 57) hX fX2_9_0 rfl rfl dX2_keepAsFirst_1 ?_
  refine V_iconst (v := nI 0) hX dX2_keepAsFirst_4 (by decide) ?_
  refine V_aload_n hX dX2_keepAsFirst_5 0 rfl ?_
  refine V_getr (j := 58) hX fX2_15_0 rfl rfl dX2_keepAsFirst_6 ?_
  refine V_iconst (v := nI 0) hX dX2_keepAsFirst_9 (by decide) ?_
  refine V_aload_n hX dX2_keepAsFirst_10 0 rfl ?_
  refine V_getN (x := nI L) hX fX2_21_0 rfl hl dX2_keepAsFirst_11 ?_
  refine V_copyR hX mX2_70 rfl rfl (by omega) (by omega) (by omega) (Nat.le_of_ble_eq_true rfl) dX2_keepAsFirst_14 (fun μ1 ra rb rc rd => ?_)
  refine V_vret hX rfl dX2_keepAsFirst_17 ?_
  exact hR _ _ (hQ μ1 ra rb rd)
set_option maxRecDepth 100000 in
set_option maxHeartbeats 4000000 in
theorem k_keep1 {G : VG} {d : Nat} {μ : VS} {Q : Option Value → VS → Prop} {L : Nat} (hL7 : L ≤ 7) (hl : μ.1 60 3 = nI L) (hQ : ∀ μ', (∀ a, a ≠ 62 → μ'.1 a = μ.1 a) → (∀ q, q < L → μ'.1 62 q = μ.1 61 q) → μ'.2 = μ.2 → Q none μ') : Call G (d + 1) yX2_keepAsFirst cX2_keepAsFirst 1 none [.ref 60] μ Q := by
  intro X hX hR
  show V G 1 X 0 [(0, .ref 60)] [] μ
  refine V_aload_n hX dX2_keepAsFirst_0 0 rfl ?_
  refine V_getr (j := 61) hX fX2_9_1 rfl rfl dX2_keepAsFirst_1 ?_
  refine V_iconst (v := nI 0) hX dX2_keepAsFirst_4 (by decide) ?_
  refine V_aload_n hX dX2_keepAsFirst_5 0 rfl ?_
  refine V_getr (j := 62) hX fX2_15_1 rfl rfl dX2_keepAsFirst_6 ?_
  refine V_iconst (v := nI 0) hX dX2_keepAsFirst_9 (by decide) ?_
  refine V_aload_n hX dX2_keepAsFirst_10 0 rfl ?_
  refine V_getN (x := nI L) hX fX2_21_1 rfl hl dX2_keepAsFirst_11 ?_
  refine V_copyR hX mX2_70 rfl rfl (by omega) (by omega) (by omega) (Nat.le_of_ble_eq_true rfl) dX2_keepAsFirst_14 (fun μ1 ra rb rc rd => ?_)
  refine V_vret hX rfl dX2_keepAsFirst_17 ?_
  exact hR _ _ (hQ μ1 ra rb rd)
set_option maxRecDepth 100000 in
set_option maxHeartbeats 4000000 in
theorem k_loss {G : VG} {d : Nat} {μ : VS} {Q : Option Value → VS → Prop} {P : PC} {v_ w_ n_ : Nat} {T_ : Nat → Nat} (hkv : vk v_ = (5, 0)) (hU : isW μ v_ (uAt P T_ n_)) (h6 : μ.1 56 6 = nI w_) (hw : w_ ≤ 1) (hQ : Q (some (.int (nI (lossN P w_ T_ n_)))) μ) : Call G d yX0_loss cX0_loss 2 (some .int) [.ref 56, .ref v_] μ Q := by
  intro X hX hR
  show V G 2 X 0 [(0, .ref 56), (1, .ref v_)] [] μ
  refine V_aload_n hX dX0_loss_0 0 rfl ?_
  refine V_getN (x := nI w_) hX fX0_18 rfl h6 dX0_loss_1 ?_
  refine V_if_eqN (tgt := 19) hX dX0_loss_4 (by decide) (by omega) (fun c4 => ?_) (fun c4 => ?_)
  · refine V_aload_n hX dX0_loss_19 1 rfl ?_
    refine V_getN (x := nI ((uAt P T_ n_).2.2.2 9)) hX fX0_23 hkv (hU.2.2.2 9 (by decide) (by decide)) dX0_loss_20 ?_
    refine V_iret hX rfl dX0_loss_23 ?_
    exact hR _ _ (by rw [show ((uAt P T_ n_).2.2.2 9) = lossN P w_ T_ n_ from (if_neg (by omega)).symm]; exact hQ)
  · refine V_aload_n hX dX0_loss_7 1 rfl ?_
    refine V_getN (x := nI ((uAt P T_ n_).2.2.2 9)) hX fX0_23 hkv (hU.2.2.2 9 (by decide) (by decide)) dX0_loss_8 ?_
    refine V_aload_n hX dX0_loss_11 1 rfl ?_
    refine V_getN (x := nI ((uAt P T_ n_).2.2.2 11)) hX fX0_28 hkv (hU.2.2.2 11 (by decide) (by decide)) dX0_loss_12 ?_
    refine V_iaddN hX dX0_loss_15 ?_
    refine V_goto (tgt := 23) hX dX0_loss_16 (by decide) ?_
    refine V_iret hX rfl dX0_loss_23 ?_
    exact hR _ _ (by rw [show (((uAt P T_ n_).2.2.2 9) + ((uAt P T_ n_).2.2.2 11)) = lossN P w_ T_ n_ from (if_pos (by omega)).symm]; exact hQ)
set_option maxRecDepth 100000 in
set_option maxHeartbeats 4000000 in
theorem k_may0 {G : VG} {d : Nat} {μ : VS} {Q : Option Value → VS → Prop} {P : PC} {L v_ w_ m_ : Nat} {T_ : Nat → Nat} {a_ : CA} (hok : okP P) (hm : m_ + 1 ≤ 7) (hkv : vk v_ = (5, 0)) (hU : isW μ v_ (uAt P T_ (m_ + 1))) (hr : cRel P L w_ μ a_) (hw : w_ ≤ 1) (hQ : Q (some (.int (bI (cMay P w_ a_ T_ m_ = true)))) μ) : Call G (d + 1) yX0_mayGoOn cX0_mayGoOn 4 (some .boolean) [.ref 56, .ref 1, .ref v_, .int (nI m_)] μ Q := by
  intro X hX hR
  show V G 4 X 0 [(0, .ref 56), (1, .ref 1), (2, .ref v_), (3, .int (nI m_))] [] μ
  refine V_aload_n hX dX0_mayGoOn_0 0 rfl ?_
  refine V_aload_n hX dX0_mayGoOn_1 2 rfl ?_
  refine V_callV (As := [.ref v_]) (st := []) hX mX0_31 rfl (k_loss (P := P) (w_ := w_) (T_ := T_) (n_ := m_ + 1) hkv hU hr.2.1 hw ?_) rfl (Nat.le_of_ble_eq_true rfl) (Nat.le_of_ble_eq_true rfl) dX0_mayGoOn_2
  show V G 4 X 5 [(0, .ref 56), (1, .ref 1), (2, .ref v_), (3, .int (nI m_))] [.int (nI (lossN P w_ T_ (m_ + 1)))] μ
  refine V_aload_n hX dX0_mayGoOn_5 0 rfl ?_
  refine V_getN (x := nI a_.1) hX fX0_15 rfl hr.1 dX0_mayGoOn_6 ?_
  refine V_icmp_geN (tgt := 16) hX dX0_mayGoOn_9 (by decide) (by first | omega | (have := loss_bd hok (w := w_) (T := T_) hm; omega) | (have := hr.2.2.1; omega)) (by first | omega | (have := loss_bd hok (w := w_) (T := T_) hm; omega) | (have := hr.2.2.1; omega)) (fun c9 => ?_) (fun c9 => ?_)
  · refine V_iconst (v := nI 0) hX dX0_mayGoOn_16 (by decide) ?_
    refine V_zret hX rfl rfl dX0_mayGoOn_17 ?_
    have hb : cMay P w_ a_ T_ m_ = false := decide_eq_false (by omega)
    exact hR _ _ (by rw [show nI 0 = bI (cMay P w_ a_ T_ m_ = true) from (bI_f (by rw [hb]; decide)).symm]; exact hQ)
  · refine V_iconst (v := nI 1) hX dX0_mayGoOn_12 (by decide) ?_
    refine V_goto (tgt := 17) hX dX0_mayGoOn_13 (by decide) ?_
    refine V_zret hX rfl rfl dX0_mayGoOn_17 ?_
    have hb : cMay P w_ a_ T_ m_ = true := decide_eq_true c9
    exact hR _ _ (by rw [show nI 1 = bI (cMay P w_ a_ T_ m_ = true) from (bI_t hb).symm]; exact hQ)
set_option maxRecDepth 100000 in
set_option maxHeartbeats 4000000 in
theorem k_arr0 {G : VG} {d : Nat} {μ : VS} {Q : Option Value → VS → Prop} {P : PC} {L w_ : Nat} {T_ : Nat → Nat} {a_ : CA} (hok : okP P) (hL7 : L ≤ 7) (hw : w_ ≤ 1) (hU : isW μ (34 + 2 * L) (uAt P T_ L)) (hl : μ.1 56 3 = nI L) (h6 : μ.1 56 6 = nI w_) (hc : ∀ i, i < L → μ.1 57 i = nI (T_ i)) (hQ : ∀ μ', (∀ a, a ≠ 56 → a ≠ 58 → μ'.1 a = μ.1 a) → μ'.1 56 3 = μ.1 56 3 → cRel P L w_ μ' (cArr P w_ L a_ T_) → μ'.2 = μ.2 → Q none μ') : Call G (d + 2) yX0_arrive cX0_arrive 2 none [.ref 56, .ref (34 + 2 * L)] μ Q := by
  intro X hX hR
  show V G 2 X 0 [(0, .ref 56), (1, .ref (34 + 2 * L))] [] μ
  refine V_aload_n hX dX0_arrive_0 0 rfl ?_
  refine V_aload_n hX dX0_arrive_1 0 rfl ?_
  refine V_aload_n hX dX0_arrive_2 1 rfl ?_
  refine V_callV (As := [.ref (34 + 2 * L)]) (st := [.ref 56]) hX mX0_31 rfl (k_loss (P := P) (w_ := w_) (T_ := T_) (n_ := L) (wk_step (by omega)) hU h6 hw ?_) rfl (Nat.le_of_ble_eq_true rfl) (Nat.le_of_ble_eq_true rfl) dX0_arrive_3
  show V G 2 X 6 [(0, .ref 56), (1, .ref (34 + 2 * L))] [.int (nI (lossN P w_ T_ L)), .ref 56] μ
  refine V_puti hX fX0_15 fw_0_5 rfl dX0_arrive_6 ?_
  show V G 2 X 9 [(0, .ref 56), (1, .ref (34 + 2 * L))] [] (vup μ.1 56 5 (nI (lossN P w_ T_ L)), μ.2)
  generalize hE1 : ((vup μ.1 56 5 (nI (lossN P w_ T_ L)), μ.2) : VS) = μ1
  have e1 : ∀ a, a ≠ 56 → μ1.1 a = μ.1 a := fun a ha => by rw [← hE1]; dsimp only; exact vup_row _ _ _ ha
  have f1 : ∀ q, q ≠ 5 → μ1.1 56 q = μ.1 56 q := fun q hq => by rw [← hE1]; dsimp only; exact vup_ne hq
  have g1 : μ1.1 56 5 = nI (lossN P w_ T_ L) := by rw [← hE1]; dsimp only; exact vup_same _ _ _ _
  have z1 : μ1.2 = μ.2 := by rw [← hE1]
  have hU1 : isW μ1 (34 + 2 * L) (uAt P T_ L) := hU.fr (e1 _ (by omega)) (e1 _ (by omega))
  refine V_aload_n hX dX0_arrive_9 0 rfl ?_
  refine V_aload_n hX dX0_arrive_10 0 rfl ?_
  refine V_getN (x := nI w_) hX fX0_18 rfl ((f1 6 (by decide)).trans h6) dX0_arrive_11 ?_
  refine V_if_eqN (tgt := 24) hX dX0_arrive_14 (by decide) (by omega) (fun c14 => ?_) (fun c14 => ?_)
  · refine V_aload_n hX dX0_arrive_24 1 rfl ?_
    refine V_getN (x := nI ((uAt P T_ L).2.2.2 9)) hX fX0_23 (wk_step (by omega)) (hU1.2.2.2 9 (by decide) (by decide)) dX0_arrive_25 ?_
    refine V_puti hX fX0_9 fw_0_4 rfl dX0_arrive_28 ?_
    show V G 2 X 31 [(0, .ref 56), (1, .ref (34 + 2 * L))] [] (vup μ1.1 56 4 (nI ((uAt P T_ L).2.2.2 9)), μ1.2)
    generalize hE2 : ((vup μ1.1 56 4 (nI ((uAt P T_ L).2.2.2 9)), μ1.2) : VS) = μ2
    have e2 : ∀ a, a ≠ 56 → μ2.1 a = μ1.1 a := fun a ha => by rw [← hE2]; dsimp only; exact vup_row _ _ _ ha
    have f2 : ∀ q, q ≠ 4 → μ2.1 56 q = μ1.1 56 q := fun q hq => by rw [← hE2]; dsimp only; exact vup_ne hq
    have g2 : μ2.1 56 4 = nI ((uAt P T_ L).2.2.2 9) := by rw [← hE2]; dsimp only; exact vup_same _ _ _ _
    have z2 : μ2.2 = μ1.2 := by rw [← hE2]
    have hl2 : μ2.1 56 3 = nI L := by rw [f2 3 (by decide), f1 3 (by decide)]; exact hl
    refine V_aload_n hX dX0_arrive_31 0 rfl ?_
    refine V_callU (As := []) (st := []) hX mX0_39_0 rfl (k_keep0 hL7 hl2 (fun μ3 a3 b3 d3 => ?_)) rfl (Nat.le_of_ble_eq_true rfl) (Nat.le_of_ble_eq_true rfl) dX0_arrive_32
    show V G 2 X 35 [(0, .ref 56), (1, .ref (34 + 2 * L))] [] μ3
    refine V_vret hX rfl dX0_arrive_35 ?_
    have e3 : ∀ a, a ≠ 56 → a ≠ 58 → μ3.1 a = μ.1 a := fun a h1 h2 => by rw [a3 a h2, e2 a h1, e1 a h1]
    refine hR _ _ (hQ μ3 e3 (by rw [a3 56 (by decide), hl2, hl]) ⟨?_, ?_, ?_, fun _ => ⟨?_, fun i hi => ?_⟩⟩ (by rw [d3, z2, z1]))
    · rw [a3 56 (by decide), f2 5 (by decide), g1]; rfl
    · rw [a3 56 (by decide), f2 6 (by decide), f1 6 (by decide)]; exact h6
    · show lossN P w_ T_ L ≤ 1000000
      have := loss_bd hok (w := w_) (T := T_) hL7
      omega
    · rw [a3 56 (by decide), g2]; exact (if_pos (by omega)).symm
    · rw [b3 i hi, e2 57 (by decide), e1 57 (by decide)]; exact hc i hi
  · refine V_aload_n hX dX0_arrive_17 1 rfl ?_
    refine V_callV (As := []) (st := [.ref 56]) hX mX0_35 (wk_step (by omega)) (k_gained (wk_step (by omega)) hU1 ?_) rfl (Nat.le_of_ble_eq_true rfl) (Nat.le_of_ble_eq_true rfl) dX0_arrive_18
    show V G 2 X 21 [(0, .ref 56), (1, .ref (34 + 2 * L))] [.int (gainI (uAt P T_ L)), .ref 56] μ1
    refine V_goto (tgt := 28) hX dX0_arrive_21 (by decide) ?_
    refine V_puti hX fX0_9 fw_0_4 rfl dX0_arrive_28 ?_
    show V G 2 X 31 [(0, .ref 56), (1, .ref (34 + 2 * L))] [] (vup μ1.1 56 4 (gainI (uAt P T_ L)), μ1.2)
    generalize hE2 : ((vup μ1.1 56 4 (gainI (uAt P T_ L)), μ1.2) : VS) = μ2
    have e2 : ∀ a, a ≠ 56 → μ2.1 a = μ1.1 a := fun a ha => by rw [← hE2]; dsimp only; exact vup_row _ _ _ ha
    have f2 : ∀ q, q ≠ 4 → μ2.1 56 q = μ1.1 56 q := fun q hq => by rw [← hE2]; dsimp only; exact vup_ne hq
    have g2 : μ2.1 56 4 = gainI (uAt P T_ L) := by rw [← hE2]; dsimp only; exact vup_same _ _ _ _
    have z2 : μ2.2 = μ1.2 := by rw [← hE2]
    have hl2 : μ2.1 56 3 = nI L := by rw [f2 3 (by decide), f1 3 (by decide)]; exact hl
    refine V_aload_n hX dX0_arrive_31 0 rfl ?_
    refine V_callU (As := []) (st := []) hX mX0_39_0 rfl (k_keep0 hL7 hl2 (fun μ3 a3 b3 d3 => ?_)) rfl (Nat.le_of_ble_eq_true rfl) (Nat.le_of_ble_eq_true rfl) dX0_arrive_32
    show V G 2 X 35 [(0, .ref 56), (1, .ref (34 + 2 * L))] [] μ3
    refine V_vret hX rfl dX0_arrive_35 ?_
    have e3 : ∀ a, a ≠ 56 → a ≠ 58 → μ3.1 a = μ.1 a := fun a h1 h2 => by rw [a3 a h2, e2 a h1, e1 a h1]
    refine hR _ _ (hQ μ3 e3 (by rw [a3 56 (by decide), hl2, hl]) ⟨?_, ?_, ?_, fun _ => ⟨?_, fun i hi => ?_⟩⟩ (by rw [d3, z2, z1]))
    · rw [a3 56 (by decide), f2 5 (by decide), g1]; rfl
    · rw [a3 56 (by decide), f2 6 (by decide), f1 6 (by decide)]; exact h6
    · show lossN P w_ T_ L ≤ 1000000
      have := loss_bd hok (w := w_) (T := T_) hL7
      omega
    · rw [a3 56 (by decide), g2]; exact (if_neg (by omega)).symm
    · rw [b3 i hi, e2 57 (by decide), e1 57 (by decide)]; exact hc i hi
theorem dip_orC {P : PC} (hok : okP P) {T : Nat → Nat} {m : Nat} : popN (sm (P 1) (nodF P (lAt P T m)) 8 ||| sm (P 1) (agrF P (T m) (lAt P T m)) 8) 12 = fitD P T m := by
  rw [sm_or]
  exact cntM hok (f := dipF P (T m) (lAt P T m)) dip_pres
theorem dip_ltC {P : PC} (hok : okP P) {T : Nat → Nat} {m : Nat} : sm (P 1) (nodF P (lAt P T m)) 8 ||| sm (P 1) (agrF P (T m) (lAt P T m)) 8 < 4096 := by
  rw [sm_or]
  exact sm_lt12 (fun h hh => (hok.2.2.2.2.2.2.2.1 h hh).1) _ (by decide)
theorem fitD_8 (P : PC) (T : Nat → Nat) (m : Nat) : fitD P T m ≤ 8 := cnt_le _ 8
set_option maxRecDepth 100000 in
set_option maxHeartbeats 4000000 in
theorem lp_may1 {G : VG} {d : Nat} {μ : VS} {Q : Option Value → VS → Prop} {X : VX} {P : PC} {v_ m_ : Nat} {T_ : Nat → Nat} {a_ : FA} (hX : Cx G (d + 1) yX1_mayGoOn cX1_mayGoOn 5 (some .boolean) X) (hR : ∀ r μ', Q r μ' → Ret G X r μ') (hok : okP P) (hP : isP μ 1 P) (hm : m_ < 7) (hkv : vk v_ = (5, 0)) (hK : isK μ v_ P (T_ m_) (lAt P T_ m_)) (hQ : Q (some (.int (bI (fMay P a_ T_ m_ = true)))) μ) : ∀ (j k_ : Nat), k_ ≤ P 0 6 → P 0 6 + 1 ≤ k_ + j → (∀ i, i < k_ → P 5 i = m_ → P 6 i = fitD P T_ m_) → V G 5 X 3 [(0, .ref 60), (1, .ref 1), (2, .ref v_), (3, .int (nI m_)), (4, .int (nI k_))] [] μ := by
  have h6 := hok.2.2.2.2.2.2.1
  have hsg := hok.2.2.2.2.2.2.2.2.1
  intro j
  induction j with
  | zero =>
    intro k_ h1 h2
    exact absurd h2 (by omega)
  | succ j ih =>
    intro k_ h1 h2 hno
    refine V_iload hX dX1_mayGoOn_3 4 rfl ?_
    refine V_aload_n hX dX1_mayGoOn_5 1 rfl ?_
    refine V_getN (x := nI (P 0 6)) hX fX1_26 rfl (hP.1 6 (by decide)) dX1_mayGoOn_6 ?_
    refine V_icmp_geN (tgt := 48) hX dX1_mayGoOn_9 (by decide) (by first | omega | (have := hsg k_ (by omega); have := fitD_8 P T_ m_; omega)) (by first | omega | (have := hsg k_ (by omega); have := fitD_8 P T_ m_; omega)) (fun c9 => ?_) (fun c9 => ?_)
    · refine V_iconst (v := nI 1) hX dX1_mayGoOn_48 (by decide) ?_
      refine V_zret hX rfl rfl dX1_mayGoOn_49 ?_
      exact hR _ _ (by rw [show fMay P a_ T_ m_ = true from decide_eq_true (fun i hi e => hno i (by omega) e), show bI (true = true) = nI 1 from rfl] at hQ; exact hQ)
    · refine V_aload_n hX dX1_mayGoOn_12 1 rfl ?_
      refine V_getr (j := 6) hX fX1_31 rfl rfl dX1_mayGoOn_13 ?_
      refine V_iload hX dX1_mayGoOn_16 4 rfl ?_
      refine V_ialdN (x := nI (P 5 k_)) hX rfl (by first | omega | (have := hsg k_ (by omega); have := fitD_8 P T_ m_; omega)) (by decide) (hP.2 4 (by decide) _ (by omega)) dX1_mayGoOn_18 ?_
      refine V_iload_n hX dX1_mayGoOn_19 3 rfl ?_
      refine V_icmp_neN (tgt := 42) hX dX1_mayGoOn_20 (by decide) (by first | omega | (have := hsg k_ (by omega); have := fitD_8 P T_ m_; omega)) (by first | omega | (have := hsg k_ (by omega); have := fitD_8 P T_ m_; omega)) (fun c20 => ?_) (fun c20 => ?_)
      · refine V_iincN (n := 1) (ls' := [(0, .ref 60), (1, .ref 1), (2, .ref v_), (3, .int (nI m_)), (4, .int (nI (k_ + 1)))]) hX dX1_mayGoOn_42 4 rfl (by decide) rfl ?_
        refine V_goto (tgt := 3) hX dX1_mayGoOn_45 (by decide) ?_
        exact ih (k_ + 1) (by omega) (by omega) (fun i hi e => by rcases Nat.lt_or_ge i k_ with q | q; exact hno i q e; exact absurd (by rw [show k_ = i by omega]; exact e) c20)
      · refine V_aload_n hX dX1_mayGoOn_23 1 rfl ?_
        refine V_getr (j := 7) hX fX1_40 rfl rfl dX1_mayGoOn_24 ?_
        refine V_iload hX dX1_mayGoOn_27 4 rfl ?_
        refine V_ialdN (x := nI (P 6 k_)) hX rfl (by first | omega | (have := hsg k_ (by omega); have := fitD_8 P T_ m_; omega)) (by decide) (hP.2 5 (by decide) _ (by omega)) dX1_mayGoOn_29 ?_
        refine V_aload_n hX dX1_mayGoOn_30 2 rfl ?_
        refine V_callV (As := []) (st := [.int (nI (P 6 k_))]) hX mX1_43 hkv (k_dipping hkv hK.2.1 hK.2.2.1 ?_) rfl (Nat.le_of_ble_eq_true rfl) (Nat.le_of_ble_eq_true rfl) dX1_mayGoOn_31
        show V G 5 X 34 [(0, .ref 60), (1, .ref 1), (2, .ref v_), (3, .int (nI m_)), (4, .int (nI k_))] [.int (nI (sm (P 1) (nodF P (lAt P T_ m_)) 8 ||| sm (P 1) (agrF P (T_ m_) (lAt P T_ m_)) 8)), .int (nI (P 6 k_))] μ
        refine V_callS (As := [.int (nI (sm (P 1) (nodF P (lAt P T_ m_)) 8 ||| sm (P 1) (agrF P (T_ m_) (lAt P T_ m_)) 8))]) (st := [.int (nI (P 6 k_))]) hX mX1_49 (k_bitCountM (dip_ltC hok) (dip_orC hok) ?_) rfl (Nat.le_of_ble_eq_true rfl) (Nat.le_of_ble_eq_true rfl) dX1_mayGoOn_34
        show V G 5 X 37 [(0, .ref 60), (1, .ref 1), (2, .ref v_), (3, .int (nI m_)), (4, .int (nI k_))] [.int (nI (fitD P T_ m_)), .int (nI (P 6 k_))] μ
        refine V_icmp_eqN (tgt := 42) hX dX1_mayGoOn_37 (by decide) (by first | omega | (have := hsg k_ (by omega); have := fitD_8 P T_ m_; omega)) (by first | omega | (have := hsg k_ (by omega); have := fitD_8 P T_ m_; omega)) (fun c37 => ?_) (fun c37 => ?_)
        · refine V_iincN (n := 1) (ls' := [(0, .ref 60), (1, .ref 1), (2, .ref v_), (3, .int (nI m_)), (4, .int (nI (k_ + 1)))]) hX dX1_mayGoOn_42 4 rfl (by decide) rfl ?_
          refine V_goto (tgt := 3) hX dX1_mayGoOn_45 (by decide) ?_
          exact ih (k_ + 1) (by omega) (by omega) (fun i hi e => by rcases Nat.lt_or_ge i k_ with q | q; exact hno i q e; rw [show i = k_ by omega]; exact c37)
        · refine V_iconst (v := nI 0) hX dX1_mayGoOn_40 (by decide) ?_
          refine V_zret hX rfl rfl dX1_mayGoOn_41 ?_
          exact hR _ _ (by rw [show fMay P a_ T_ m_ = false from decide_eq_false (fun z => c37 (z k_ (by omega) c20)), show bI (false = true) = nI 0 from rfl] at hQ; exact hQ)
set_option maxRecDepth 100000 in
set_option maxHeartbeats 4000000 in
theorem k_may1 {G : VG} {d : Nat} {μ : VS} {Q : Option Value → VS → Prop} {P : PC} {v_ m_ : Nat} {T_ : Nat → Nat} {a_ : FA} (hok : okP P) (hP : isP μ 1 P) (hm : m_ < 7) (hkv : vk v_ = (5, 0)) (hK : isK μ v_ P (T_ m_) (lAt P T_ m_)) (hQ : Q (some (.int (bI (fMay P a_ T_ m_ = true)))) μ) : Call G (d + 1) yX1_mayGoOn cX1_mayGoOn 5 (some .boolean) [.ref 60, .ref 1, .ref v_, .int (nI m_)] μ Q := by
  intro X hX hR
  show V G 5 X 0 [(0, .ref 60), (1, .ref 1), (2, .ref v_), (3, .int (nI m_))] [] μ
  refine V_iconst (v := nI 0) hX dX1_mayGoOn_0 (by decide) ?_
  refine V_istore (ls' := [(0, .ref 60), (1, .ref 1), (2, .ref v_), (3, .int (nI m_)), (4, .int (nI 0))]) hX dX1_mayGoOn_1 (by decide) rfl ?_
  exact lp_may1 (a_ := a_) hX hR hok hP hm hkv hK hQ (P 0 6 + 1) 0 (by omega) (by omega) (fun i hi => absurd hi (by omega))
def aaF (a : FA) (T : Nat → Nat) (k i : Nat) : Bool := if i < k then faS a T i else (decide (a.1 = 0) || a.2.1 i)
theorem aa_new {a : FA} {T : Nat → Nat} {L : Nat} (h : a.1 = 0) : 1 <<< L - 1 = sm (fun i => i) (aaF a T 0) L := by
  apply Nat.eq_of_testBit_eq
  intro q
  rw [sm_tb, Nat.one_shiftLeft, Nat.testBit_two_pow_sub_one]
  have : aaF a T 0 q = true := by show (if q < 0 then _ else _) = true; rw [if_neg (by omega), h]; rfl
  rw [this, Bool.and_true]
theorem aa_old {a : FA} {T : Nat → Nat} {L : Nat} (h : ¬ a.1 = 0) : sm (fun i => i) a.2.1 L = sm (fun i => i) (aaF a T 0) L := sm_id_congr (fun i _ => by
  show _ = (if i < 0 then _ else _)
  rw [if_neg (by omega), decide_eq_false h, Bool.false_or])
theorem aa_end {a : FA} {T : Nat → Nat} {L : Nat} : sm (fun i => i) (aaF a T L) L = sm (fun i => i) (fitA a T).2.1 L := sm_id_congr (fun i hi => if_pos hi)
theorem aa_yes {a : FA} {T : Nat → Nat} {L k : Nat} (he : T k = faF a T k) : sm (fun i => i) (aaF a T k) L = sm (fun i => i) (aaF a T (k + 1)) L := sm_id_congr (fun i _ => by
  show (if i < k then _ else _) = (if i < k + 1 then _ else _)
  rcases Nat.lt_or_ge i k with q | q
  · rw [if_pos q, if_pos (by omega)]
  · rcases Nat.lt_or_ge i (k + 1) with q2 | q2
    · obtain rfl : i = k := by omega
      rw [if_neg (by omega), if_pos q2]
      show _ = ((decide (a.1 = 0) || a.2.1 i) && decide (T i = faF a T i))
      rw [decide_eq_true he, Bool.and_true]
    · rw [if_neg (by omega), if_neg (by omega)])
theorem aa_no {a : FA} {T : Nat → Nat} {L k : Nat} (hL : L ≤ 32) (he : ¬ T k = faF a T k) : sm (fun i => i) (aaF a T k) L &&& ((1 <<< k) ^^^ 4294967295) = sm (fun i => i) (aaF a T (k + 1)) L := by
  refine sm_clr hL ?_ (fun i hi => ?_)
  · show (if k < k + 1 then _ else _) = false
    rw [if_pos (by omega)]
    show ((decide (a.1 = 0) || a.2.1 k) && decide (T k = faF a T k)) = false
    rw [decide_eq_false he, Bool.and_false]
  · show (if i < k + 1 then _ else _) = (if i < k then _ else _)
    rcases Nat.lt_or_ge i k with q | q
    · rw [if_pos q, if_pos (by omega)]
    · rw [if_neg (by omega), if_neg (by omega)]
theorem sm_id_lt {f : Nat → Bool} {L : Nat} (h : L ≤ 7) : sm (fun i => i) f L < 128 := Nat.lt_of_lt_of_le (sm_lt (m := L) (fun h hh _ => hh)) (Nat.pow_le_pow_right (n := 2) (by decide) h)
/-- while those that fit are told apart -/
def aJ (a : FA) (T : Nat → Nat) (L k : Nat) (μ μ1 : VS) : Prop := (∀ q, q ≠ 60 → q ≠ 62 → μ1.1 q = μ.1 q) ∧ (∀ q, q ≠ 5 → μ1.1 60 q = μ.1 60 q) ∧ μ1.1 60 5 = nI (sm (fun i => i) (aaF a T k) L) ∧ (∀ i, i < L → μ1.1 62 i = nI (faF a T i)) ∧ μ1.2 = μ.2
set_option maxRecDepth 100000 in
set_option maxHeartbeats 4000000 in
theorem lp_arr1 {G : VG} {d : Nat} {μ : VS} {Q : Option Value → VS → Prop} {X : VX} {L v_ : Nat} {T_ : Nat → Nat} {a_ : FA} (hX : Cx G (d + 2) yX1_arrive cX1_arrive 3 none X) (hR : ∀ r μ', Q r μ' → Ret G X r μ') (hL7 : L ≤ 7) (hl : μ.1 60 3 = nI L) (h4 : μ.1 60 4 = nI a_.1) (hc : ∀ i, i < L → μ.1 61 i = nI (T_ i)) (hT : ∀ i, i < L → T_ i < 1000) (hFb : ∀ i, i < L → faF a_ T_ i < 1000) (hQ : ∀ μ', (∀ q, q ≠ 60 → q ≠ 62 → μ'.1 q = μ.1 q) → μ'.1 60 3 = μ.1 60 3 → fRel L μ' (fitA a_ T_) → μ'.2 = μ.2 → Q none μ') : ∀ (j k_ : Nat) (μ1 : VS), k_ ≤ L → L + 1 ≤ k_ + j → aJ a_ T_ L k_ μ μ1 → V G 3 X 25 [(0, .ref 60), (1, .ref v_), (2, .int (nI k_))] [] μ1 := by
  intro j
  induction j with
  | zero =>
    intro k_ μ1 h1 h2
    exact absurd h2 (by omega)
  | succ j ih =>
    intro k_ μ1 h1 h2 hj
    refine V_iload_n hX dX1_arrive_25 2 rfl ?_
    refine V_aload_n hX dX1_arrive_26 0 rfl ?_
    refine V_getN (x := nI L) hX fX1_58 rfl ((hj.2.1 3 (by decide)).trans hl) dX1_arrive_27 ?_
    refine V_icmp_geN (tgt := 68) hX dX1_arrive_30 (by decide) (by first | omega | (have := hT k_ (by omega); have := hFb k_ (by omega); omega) | (rw [Nat.one_mul]; exact Nat.lt_of_le_of_lt (Nat.pow_le_pow_right (n := 2) (by decide) (show k_ ≤ 6 by omega)) (by decide)) | (have := sm_id_lt (f := aaF a_ T_ k_) hL7; omega)) (by first | omega | (have := hT k_ (by omega); have := hFb k_ (by omega); omega) | (rw [Nat.one_mul]; exact Nat.lt_of_le_of_lt (Nat.pow_le_pow_right (n := 2) (by decide) (show k_ ≤ 6 by omega)) (by decide)) | (have := sm_id_lt (f := aaF a_ T_ k_) hL7; omega)) (fun c30 => ?_) (fun c30 => ?_)
    · refine V_aload_n hX dX1_arrive_68 0 rfl ?_
      refine V_dup hX dX1_arrive_69 rfl ?_
      refine V_getN (x := nI a_.1) hX fX1_9 rfl ((hj.2.1 4 (by decide)).trans h4) dX1_arrive_70 ?_
      refine V_iconst (v := nI 1) hX dX1_arrive_73 (by decide) ?_
      refine V_iaddN hX dX1_arrive_74 ?_
      refine V_puti hX fX1_9 fw_1_4 rfl dX1_arrive_75 ?_
      show V G 3 X 78 [(0, .ref 60), (1, .ref v_), (2, .int (nI k_))] [] (vup μ1.1 60 4 (nI (a_.1 + 1)), μ1.2)
      refine V_vret hX rfl dX1_arrive_78 ?_
      obtain rfl : k_ = L := by omega
      refine hR _ _ (hQ _ (fun q h8 h9 => by dsimp only; rw [vup_row _ _ _ h8]; exact hj.1 q h8 h9) (by dsimp only; rw [vup_ne (by decide)]; exact hj.2.1 3 (by decide)) ⟨?_, ?_, fun _ i hi => ⟨?_, ?_⟩⟩ hj.2.2.2.2)
      · dsimp only; rw [vup_same]; rfl
      · dsimp only; rw [vup_ne (by decide), hj.2.2.1, aa_end]; rfl
      · dsimp only; rw [vup_row _ _ _ (by decide)]; exact hj.2.2.2.1 i hi
      · exact hFb i hi
    · refine V_aload_n hX dX1_arrive_33 0 rfl ?_
      refine V_getr (j := 61) hX fX1_59 rfl rfl dX1_arrive_34 ?_
      refine V_iload_n hX dX1_arrive_37 2 rfl ?_
      refine V_ialdN (x := nI (T_ k_)) hX rfl (by first | omega | (have := hT k_ (by omega); have := hFb k_ (by omega); omega) | (rw [Nat.one_mul]; exact Nat.lt_of_le_of_lt (Nat.pow_le_pow_right (n := 2) (by decide) (show k_ ≤ 6 by omega)) (by decide)) | (have := sm_id_lt (f := aaF a_ T_ k_) hL7; omega)) (by decide) (by rw [hj.1 61 (by decide) (by decide)]; exact hc k_ (by omega)) dX1_arrive_38 ?_
      refine V_aload_n hX dX1_arrive_39 0 rfl ?_
      refine V_getr (j := 62) hX fX1_62 rfl rfl dX1_arrive_40 ?_
      refine V_iload_n hX dX1_arrive_43 2 rfl ?_
      refine V_ialdN (x := nI (faF a_ T_ k_)) hX rfl (by first | omega | (have := hT k_ (by omega); have := hFb k_ (by omega); omega) | (rw [Nat.one_mul]; exact Nat.lt_of_le_of_lt (Nat.pow_le_pow_right (n := 2) (by decide) (show k_ ≤ 6 by omega)) (by decide)) | (have := sm_id_lt (f := aaF a_ T_ k_) hL7; omega)) (by decide) (hj.2.2.2.1 k_ (by omega)) dX1_arrive_44 ?_
      refine V_icmp_eqN (tgt := 62) hX dX1_arrive_45 (by decide) (by first | omega | (have := hT k_ (by omega); have := hFb k_ (by omega); omega) | (rw [Nat.one_mul]; exact Nat.lt_of_le_of_lt (Nat.pow_le_pow_right (n := 2) (by decide) (show k_ ≤ 6 by omega)) (by decide)) | (have := sm_id_lt (f := aaF a_ T_ k_) hL7; omega)) (by first | omega | (have := hT k_ (by omega); have := hFb k_ (by omega); omega) | (rw [Nat.one_mul]; exact Nat.lt_of_le_of_lt (Nat.pow_le_pow_right (n := 2) (by decide) (show k_ ≤ 6 by omega)) (by decide)) | (have := sm_id_lt (f := aaF a_ T_ k_) hL7; omega)) (fun c45 => ?_) (fun c45 => ?_)
      · refine V_iincN (n := 1) (ls' := [(0, .ref 60), (1, .ref v_), (2, .int (nI (k_ + 1)))]) hX dX1_arrive_62 2 rfl (by decide) rfl ?_
        refine V_goto (tgt := 25) hX dX1_arrive_65 (by decide) ?_
        exact ih (k_ + 1) μ1 (by omega) (by omega) ⟨hj.1, hj.2.1, by rw [hj.2.2.1, aa_yes c45], hj.2.2.2⟩
      · refine V_aload_n hX dX1_arrive_48 0 rfl ?_
        refine V_dup hX dX1_arrive_49 rfl ?_
        refine V_getN (x := nI (sm (fun i => i) (aaF a_ T_ k_) L)) hX fX1_15 rfl hj.2.2.1 dX1_arrive_50 ?_
        refine V_iconst (v := nI 1) hX dX1_arrive_53 (by decide) ?_
        refine V_iload_n hX dX1_arrive_54 2 rfl ?_
        refine V_ishlN hX dX1_arrive_55 (by first | omega | (have := hT k_ (by omega); have := hFb k_ (by omega); omega) | (rw [Nat.one_mul]; exact Nat.lt_of_le_of_lt (Nat.pow_le_pow_right (n := 2) (by decide) (show k_ ≤ 6 by omega)) (by decide)) | (have := sm_id_lt (f := aaF a_ T_ k_) hL7; omega)) (by first | omega | (have := hT k_ (by omega); have := hFb k_ (by omega); omega) | (rw [Nat.one_mul]; exact Nat.lt_of_le_of_lt (Nat.pow_le_pow_right (n := 2) (by decide) (show k_ ≤ 6 by omega)) (by decide)) | (have := sm_id_lt (f := aaF a_ T_ k_) hL7; omega)) ?_
        refine V_iconst (v := nI 4294967295) hX dX1_arrive_56 (by decide) ?_
        refine V_ixorN hX dX1_arrive_57 ?_
        refine V_iandN hX dX1_arrive_58 ?_
        refine V_puti hX fX1_15 fw_1_5 rfl dX1_arrive_59 ?_
        show V G 3 X 62 [(0, .ref 60), (1, .ref v_), (2, .int (nI k_))] [] (vup μ1.1 60 5 (nI ((sm (fun i => i) (aaF a_ T_ k_) L) &&& ((1 <<< k_) ^^^ 4294967295))), μ1.2)
        refine V_iincN (n := 1) (ls' := [(0, .ref 60), (1, .ref v_), (2, .int (nI (k_ + 1)))]) hX dX1_arrive_62 2 rfl (by decide) rfl ?_
        refine V_goto (tgt := 25) hX dX1_arrive_65 (by decide) ?_
        exact ih (k_ + 1) _ (by omega) (by omega) ⟨fun q h8 h9 => by dsimp only; rw [vup_row _ _ _ h8]; exact hj.1 q h8 h9, fun q hq => by dsimp only; rw [vup_ne hq]; exact hj.2.1 q hq, by dsimp only; rw [vup_same, aa_no (by omega) c45], fun i hi => by dsimp only; rw [vup_row _ _ _ (by decide)]; exact hj.2.2.2.1 i hi, hj.2.2.2.2⟩
set_option maxRecDepth 100000 in
set_option maxHeartbeats 4000000 in
theorem k_arr1 {G : VG} {d : Nat} {μ : VS} {Q : Option Value → VS → Prop} {L v_ : Nat} {T_ : Nat → Nat} {a_ : FA} (hL7 : L ≤ 7) (ha : a_.1 < 2 ^ 31) (hl : μ.1 60 3 = nI L) (hr : fRel L μ a_) (hc : ∀ i, i < L → μ.1 61 i = nI (T_ i)) (hT : ∀ i, i < L → T_ i < 1000) (hQ : ∀ μ', (∀ q, q ≠ 60 → q ≠ 62 → μ'.1 q = μ.1 q) → μ'.1 60 3 = μ.1 60 3 → fRel L μ' (fitA a_ T_) → μ'.2 = μ.2 → Q none μ') : Call G (d + 2) yX1_arrive cX1_arrive 3 none [.ref 60, .ref v_] μ Q := by
  intro X hX hR
  show V G 3 X 0 [(0, .ref 60), (1, .ref v_)] [] μ
  refine V_aload_n hX dX1_arrive_0 0 rfl ?_
  refine V_getN (x := nI a_.1) hX fX1_9 rfl hr.1 dX1_arrive_1 ?_
  refine V_if_neN (tgt := 23) hX dX1_arrive_4 (by decide) (by first | omega | (rw [Nat.one_mul]; exact Nat.lt_of_le_of_lt (Nat.pow_le_pow_right (n := 2) (by decide) hL7) (by decide))) (fun c4 => ?_) (fun c4 => ?_)
  · refine V_iconst (v := nI 0) hX dX1_arrive_23 (by decide) ?_
    refine V_istore_n (ls' := [(0, .ref 60), (1, .ref v_), (2, .int (nI 0))]) hX dX1_arrive_24 (by decide) rfl ?_
    exact lp_arr1 (a_ := a_) hX hR hL7 hl hr.1 hc hT (fun i hi => by unfold faF; rw [if_neg c4]; exact (hr.2.2 (by omega) i hi).2) hQ (L + 1) 0 μ (by omega) (by omega) ⟨fun _ _ _ => rfl, fun _ _ => rfl, by rw [hr.2.1, if_neg c4, aa_old c4], fun i hi => by unfold faF; rw [if_neg c4]; exact (hr.2.2 (by omega) i hi).1, rfl⟩
  · refine V_aload_n hX dX1_arrive_7 0 rfl ?_
    refine V_callU (As := []) (st := []) hX mX1_55_1 rfl (k_keep1 hL7 hl (fun μ3 a3 b3 d3 => ?_)) rfl (Nat.le_of_ble_eq_true rfl) (Nat.le_of_ble_eq_true rfl) dX1_arrive_8
    show V G 3 X 11 [(0, .ref 60), (1, .ref v_)] [] μ3
    refine V_aload_n hX dX1_arrive_11 0 rfl ?_
    refine V_iconst (v := nI 1) hX dX1_arrive_12 (by decide) ?_
    refine V_aload_n hX dX1_arrive_13 0 rfl ?_
    refine V_getN (x := nI L) hX fX1_58 rfl ((congrFun (a3 60 (by decide)) 3).trans hl) dX1_arrive_14 ?_
    refine V_ishlN hX dX1_arrive_17 (by first | omega | (rw [Nat.one_mul]; exact Nat.lt_of_le_of_lt (Nat.pow_le_pow_right (n := 2) (by decide) hL7) (by decide))) (by first | omega | (rw [Nat.one_mul]; exact Nat.lt_of_le_of_lt (Nat.pow_le_pow_right (n := 2) (by decide) hL7) (by decide))) ?_
    refine V_iconst (v := nI 1) hX dX1_arrive_18 (by decide) ?_
    refine V_isubN hX dX1_arrive_19 (by rw [Nat.one_shiftLeft]; exact Nat.one_le_two_pow) ?_
    refine V_puti hX fX1_15 fw_1_5 rfl dX1_arrive_20 ?_
    show V G 3 X 23 [(0, .ref 60), (1, .ref v_)] [] (vup μ3.1 60 5 (nI ((1 <<< L) - 1)), μ3.2)
    refine V_iconst (v := nI 0) hX dX1_arrive_23 (by decide) ?_
    refine V_istore_n (ls' := [(0, .ref 60), (1, .ref v_), (2, .int (nI 0))]) hX dX1_arrive_24 (by decide) rfl ?_
    exact lp_arr1 (a_ := a_) hX hR hL7 hl hr.1 hc hT (fun i hi => by unfold faF; rw [if_pos c4]; exact hT i hi) hQ (L + 1) 0 _ (by omega) (by omega) ⟨fun q h8 h9 => by dsimp only; rw [vup_row _ _ _ h8]; exact a3 q h9, fun q hq => by dsimp only; rw [vup_ne hq, a3 60 (by decide)], by dsimp only; rw [vup_same, aa_new c4], fun i hi => by dsimp only; rw [vup_row _ _ _ (by decide), b3 i hi, hc i hi]; unfold faF; rw [if_pos c4], d3⟩
