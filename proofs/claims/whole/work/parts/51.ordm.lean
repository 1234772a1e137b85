/-! the cheapest order -/
def lossN (P : PC) (w : Nat) (T : Nat → Nat) (n : Nat) : Nat := if w = 1 then (uAt P T n).2.2.2 9 + (uAt P T n).2.2.2 11 else (uAt P T n).2.2.2 9
def ordG (P : PC) (w n : Nat) (a : Nat × (Nat → Nat)) (T : Nat → Nat) : Nat × (Nat → Nat) := if lossN P w T n < a.1 then (lossN P w T n, T) else a
def ordB (P : PC) (L : Nat) (S : Nat → Nat) (w : Nat) : Nat × (Nat → Nat) := dfs noM (ordG P w L) L 0 S (fun k => cv S (kc k) 0 L) (1000000, S)
def ordV (P : PC) (L w : Nat) (T : Nat → Nat) : Int32 := if w = 0 then nI ((uAt P T L).2.2.2 9) else gainI (uAt P T L)
def orderS (P : PC) (L : Nat) (S : Nat → Nat) (w q : Int32) : Int32 := if inZ w 0 1 then (if fltU S L = -6 then (if 7 < L then -4 else if q = -1 then ordV P L w.toNatClampNeg (ordB P L S w.toNatClampNeg).2 else if inM q L then nI ((ordB P L S w.toNatClampNeg).2 q.toNatClampNeg) else -6) else -5) else -2
theorem uAt_congr {P : PC} {T S : Nat → Nat} {n : Nat} (h : ∀ i, i < n → T i = S i) : uAt P T n = uAt P S n := mwR_congr n h (fun _ _ => rfl)
theorem uAt_succ (P : PC) (T : Nat → Nat) (n : Nat) : uAt P T (n + 1) = mwStep P (T n) false (uAt P T n) := rfl
theorem oth_nod {P : PC} {l : Nat → Nat} : cnt (othF P (nodF P l)) 8 + cnt (nodF P l) 8 = cnt (pPres P) 8 := by
  have gen : ∀ n, cnt (othF P (nodF P l)) n + cnt (nodF P l) n = cnt (pPres P) n := by
    intro n
    induction n with
    | zero => rfl
    | succ n ih =>
      show cnt (othF P (nodF P l)) n + (if othF P (nodF P l) n = true then 1 else 0) + (cnt (nodF P l) n + (if nodF P l n = true then 1 else 0)) = cnt (pPres P) n + (if pPres P n = true then 1 else 0)
      have e : (if othF P (nodF P l) n = true then 1 else 0) + (if nodF P l n = true then 1 else 0) = (if pPres P n = true then 1 else 0) := by
        by_cases h : nodF P l n = true
        · have hp := nod_pres h
          rw [if_pos h, if_pos hp, if_neg (by unfold othF; rw [h]; simp)]
        · rw [if_neg h]
          have hf : nodF P l n = false := by cases hq : nodF P l n with
            | false => rfl
            | true => exact absurd hq h
          have e2 : othF P (nodF P l) n = pPres P n := by unfold othF; rw [hf]; simp
          rw [e2]; rfl
      omega
  exact gen 8
theorem cv_last (T : Nat → Nat) (v n : Nat) : cv T v 0 (n + 1) = cv T v 0 n + (if T n = v then 1 else 0) := by
  show cnt _ n + (if decide (0 ≤ n ∧ T n = v) = true then 1 else 0) = _
  have e : (decide (0 ≤ n ∧ T n = v) = true) ↔ T n = v := by rw [decide_eq_true_eq]; exact ⟨fun z => z.2, fun z => ⟨Nat.zero_le _, z⟩⟩
  by_cases h : T n = v
  · rw [if_pos (e.mpr h), if_pos h]; rfl
  · rw [if_neg (fun z => h (e.mp z)), if_neg h]; rfl
def gfC (P : PC) (C : Nat → Nat) : Nat := (C 104 + 2 * C 111) * cnt (pPres P) 8
theorem gift_sum {P : PC} {T : Nat → Nat} : ∀ n, (uAt P T n).2.2.2 10 + (uAt P T n).2.2.2 11 = gfC P (fun v => cv T v 0 n)
  | 0 => by
    show 0 + 0 = (0 + 2 * 0) * _
    omega
  | n + 1 => by
    have ih := gift_sum (P := P) (T := T) n
    rw [uAt_succ]
    show (uAt P T n).2.2.2 10 + giftN (T n) * cnt (othF P _) 8 + ((uAt P T n).2.2.2 11 + giftN (T n) * cnt (nodF P _) 8) = gfC P (fun v => cv T v 0 (n + 1))
    have e1 : giftN (T n) * cnt (othF P (nodF P (mwL1 P (T n) false (uAt P T n)))) 8 + giftN (T n) * cnt (nodF P (mwL1 P (T n) false (uAt P T n))) 8 = giftN (T n) * cnt (pPres P) 8 := by rw [← Nat.mul_add, oth_nod]
    have e2 : gfC P (fun v => cv T v 0 (n + 1)) = gfC P (fun v => cv T v 0 n) + giftN (T n) * cnt (pPres P) 8 := by
      unfold gfC
      rw [← Nat.add_mul]
      congr 1
      show cv T 104 0 (n + 1) + 2 * cv T 111 0 (n + 1) = cv T 104 0 n + 2 * cv T 111 0 n + giftN (T n)
      rw [cv_last, cv_last]
      unfold giftN
      by_cases a1 : T n = 104
      · rw [if_pos a1, if_pos a1, if_neg (by omega)]; omega
      · by_cases a2 : T n = 111
        · rw [if_neg a1, if_neg a1, if_pos a2, if_pos a2]; omega
        · rw [if_neg a1, if_neg a1, if_neg a2, if_neg a2]; omega
    omega
def ownZ (P : PC) (w : Nat) (T : Nat → Nat) (n : Nat) : Int := if w = 1 then ((uAt P T n).2.2.2 9 : Int) - (uAt P T n).2.2.2 10 else (uAt P T n).2.2.2 9
def gfW (P : PC) (w : Nat) (C : Nat → Nat) : Nat := if w = 1 then gfC P C else 0
theorem own_loss {P : PC} {w n : Nat} {T C : Nat → Nat} (h : ∀ v, cv T v 0 n = C v) : ownZ P w T n = (lossN P w T n : Int) - gfW P w C := by
  have hg := gift_sum (P := P) (T := T) n
  rw [show (fun v => cv T v 0 n) = C from funext h] at hg
  unfold ownZ lossN gfW
  by_cases e : w = 1
  · rw [if_pos e, if_pos e, if_pos e]; omega
  · rw [if_neg e, if_neg e, if_neg e]; omega
theorem loss_bd {P : PC} (hok : okP P) {w n : Nat} {T : Nat → Nat} (hn : n ≤ 7) : lossN P w T n ≤ 1000 := by
  have h9 : (uAt P T n).2.2.2 9 ≤ 72 * n := (tot_bd (P := P) hok.2.2.1 (S := T) (co := noC) n).2.1
  have h11 : (uAt P T n).2.2.2 11 ≤ 16 * n := (tot_bd (P := P) hok.2.2.1 (S := T) (co := noC) n).2.2.2
  unfold lossN
  split <;> omega
theorem gf_bd {P : PC} (hok : okP P) {w n : Nat} {T : Nat → Nat} (hn : n ≤ 7) : gfW P w (fun v => cv T v 0 n) ≤ 1000 := by
  have h10 : (uAt P T n).2.2.2 10 ≤ 16 * n := (tot_bd (P := P) hok.2.2.1 (S := T) (co := noC) n).2.2.1
  have h11 : (uAt P T n).2.2.2 11 ≤ 16 * n := (tot_bd (P := P) hok.2.2.1 (S := T) (co := noC) n).2.2.2
  have hg := gift_sum (P := P) (T := T) n
  unfold gfW
  split
  · omega
  · omega
theorem zI_le {a b : Int} (ha : -2000000 ≤ a ∧ a ≤ 2000000) (hb : -2000000 ≤ b ∧ b ≤ 2000000) : zI a ≤ zI b ↔ a ≤ b := by
  have t : ∀ z : Int, -2000000 ≤ z ∧ z ≤ 2000000 → (zI z).toInt = z := fun z h => Int32.toInt_ofInt_of_le (by omega) (by omega)
  rw [Int32.le_iff_toInt_le, t a ha, t b hb]
def lvO (P : PC) (w n G : Nat) (a : Nat × (Nat → Nat)) (lv : Int32) : Prop := (a.1 = 1000000 ∧ lv = zI 1000000) ∨ (a.1 < 1000000 ∧ lv = zI ((a.1 : Int) - G) ∧ lv = zI (ownZ P w a.2 n))
theorem lvO.cmp {P : PC} {w n G : Nat} {a : Nat × (Nat → Nat)} {lv : Int32} (h : lvO P w n G a lv) {lo : Nat} (hG : G ≤ 1000) (hl : lo ≤ 1000) : lv ≤ zI ((lo : Int) - G) ↔ a.1 ≤ lo := by
  rcases h with ⟨h1, rfl⟩ | ⟨h1, h2, _⟩
  · rw [zI_le (by omega) (by omega)]; omega
  · rw [h2, zI_le (by omega) (by omega)]; omega
theorem zI_neg (a : Int) : -zI a = zI (-a) := (Int32.ofInt_neg a).symm
theorem rsum_cv {S : Nat → Nat} : ∀ n, sgs S n → rsum (fun k => cv S (kc k) 0 n) 7 = n
  | 0, _ => rfl
  | n + 1, h => by
    have ih := rsum_cv n (fun i hi => h i (by omega))
    have e : (fun k => cv S (kc k) 0 (n + 1)) = (fun k => cv S (kc k) 0 n + (if S n = kc k then 1 else 0)) := funext (fun k => cv_last S (kc k) n)
    rw [e, rsum_add, ih]
    have h2 : rsum (fun k => if S n = kc k then 1 else 0) 7 = 1 := by
      obtain ⟨k, hk, e2, -⟩ := kc_sg (h n (by omega))
      rw [e2]
      have key : ∀ k : Fin 7, rsum (fun q => if kc k.val = kc q then 1 else 0) 7 = 1 := by decide
      exact key ⟨k, hk⟩
    rw [h2]
theorem ordB_ne {P : PC} (hok : okP P) {L : Nat} {S : Nat → Nat} {w : Nat} (hL : L ≤ 7) (hg : sgs S L) : (ordB P L S w).1 < 1000000 := by
  unfold ordB
  refine dfs_est (E := fun (a : Nat × (Nat → Nat)) => a.1 < 1000000) (fun a T => ?_) L 0 S _ _ (rsum_cv L hg)
  have := loss_bd (w := w) hok (T := T) hL
  unfold ordG
  split
  · show lossN P w T L < 1000000; omega
  · show a.1 < 1000000; omega
theorem isE.keepS {μ μ' : VS} {E : PC} (h : isE μ E) (e : serK μ μ') : isE μ' E := by
  unfold isE
  rw [e.1 69 (by decide), e.1 77 (by decide), e.1 71 (by decide), e.1 72 (by decide), e.1 73 (by decide)]
  exact h
def bstK (μ μ' : VS) : Prop := (∀ a, a ≠ 83 → μ'.1 a = μ.1 a) ∧ μ'.2 = μ.2
theorem bstK.keep {a b : VS} (h : bstK a b) : mKeep a b := ⟨fun x k hx => by rw [h.1 x (fun z => hx (by unfold mAll; omega))], h.2⟩
theorem isE.keepB {μ μ' : VS} {E : PC} (h : isE μ E) (e : bstK μ μ') : isE μ' E := by
  unfold isE
  rw [e.1 69 (by decide), e.1 77 (by decide), e.1 71 (by decide), e.1 72 (by decide), e.1 73 (by decide)]
  exact h
/-- what the reference's search by orders keeps of the state -/
def oInv (P : PC) (L : Nat) (S κ : Nat → Nat) (I : Nat → PC) (μ μ1 : VS) (T : Nat → Nat) : Prop := RM μ1 P L S κ I ∧ keepC μ μ1 ∧ isE μ1 P ∧ μ1.1 69 15 = nI L ∧ isSr μ1 T L ∧ μ1.1 69 19 = nI 0
theorem oInv.ser {P : PC} {L : Nat} {S κ : Nat → Nat} {I : Nat → PC} {μ μ1 μ2 : VS} {T T2 : Nat → Nat} (h : oInv P L S κ I μ μ1 T) (e : serK μ1 μ2) (hs : isSr μ2 T2 L) : oInv P L S κ I μ μ2 T2 :=
  ⟨h.1.keep e.keep, h.2.1.tr e.keep.C, h.2.2.1.keepS e, by rw [e.1 69 (by decide)]; exact h.2.2.2.1, hs, by rw [e.1 69 (by decide)]; exact h.2.2.2.2.2⟩
theorem oInv.bst {P : PC} {L : Nat} {S κ : Nat → Nat} {I : Nat → PC} {μ μ1 μ2 : VS} {T : Nat → Nat} (h : oInv P L S κ I μ μ1 T) (e : bstK μ1 μ2) : oInv P L S κ I μ μ2 T :=
  ⟨h.1.keep e.keep, h.2.1.tr e.keep.C, h.2.2.1.keepB e, by rw [e.1 69 (by decide)]; exact h.2.2.2.1, fun q hq => by rw [e.1 76 (by decide)]; exact h.2.2.2.2.1 q hq, by rw [e.1 69 (by decide)]; exact h.2.2.2.2.2⟩
theorem oInv.same {P : PC} {L : Nat} {S κ : Nat → Nat} {I : Nat → PC} {μ μ1 μ2 : VS} {T : Nat → Nat} (h : oInv P L S κ I μ μ1 T) (e : mSame μ1 μ2) : oInv P L S κ I μ μ2 T :=
  ⟨h.1.keep e.keep, h.2.1.tr e.keep.C, h.2.2.1.same e, by rw [e.1 69 15 (by unfold mScr; omega)]; exact h.2.2.2.1, fun q hq => by rw [e.1 76 q (by unfold mScr; omega)]; exact h.2.2.2.2.1 q hq, by rw [e.1 69 19 (by unfold mScr; omega)]; exact h.2.2.2.2.2⟩
theorem sg_lt {n : Nat} (h : isSg n) : n < 1000 := by omega
set_option maxRecDepth 100000 in
set_option maxHeartbeats 4000000 in
theorem lpM_cpy {G : VG} {d : Nat} {μ : VS} {X : VX} {L b_ : Nat} {T_ : Nat → Nat} {q_ lv_ x_ z_ : Int32} (hX : Cx G d yX9_order cX9_order 8 (some .int) X) (hlen : μ.1 69 15 = nI L) (hs : isSr μ T_ L) (hL : L ≤ 60) (hF : ∀ μ1, bstK μ μ1 → (∀ i, i < L → μ1.1 83 i = nI (T_ i)) → V G 8 X 116 [(0, .ref 69), (1, .int (nI b_)), (2, .int q_), (3, .int lv_)] [] μ1) : ∀ (j k_ : Nat) (μ1 : VS), k_ ≤ L → L + 1 ≤ k_ + j → bstK μ μ1 → (∀ i, i < k_ → μ1.1 83 i = nI (T_ i)) → V G 8 X 87 [(0, .ref 69), (1, .int (nI b_)), (2, .int q_), (3, .int lv_), (5, .int x_), (6, .int z_), (7, .int (nI k_))] [] μ1 := by
  intro j
  induction j with
  | zero =>
    intro k_ μ1 h1 h2
    exact absurd h2 (by omega)
  | succ j ih =>
    intro k_ μ1 h1 h2 hB hI
    refine V_iload hX dX9_order_87 6 rfl ?_
    refine V_aload_n hX dX9_order_89 0 rfl ?_
    refine V_getN (x := nI L) hX fX9_113 rfl (by rw [hB.1 69 (by decide)]; exact hlen) dX9_order_90 ?_
    refine V_icmp_geN (tgt := 116) hX dX9_order_93 (by decide) (by omega) (by omega) (fun c93 => ?_) (fun c93 => ?_)
    · obtain rfl : k_ = L := by omega
      exact V_sub [0, 1, 2, 3] rfl (hF μ1 hB hI)
    · refine V_aload_n hX dX9_order_96 0 rfl ?_
      refine V_getr (j := 83) hX fX9_59 rfl rfl dX9_order_97 ?_
      refine V_iload hX dX9_order_100 6 rfl ?_
      refine V_aload_n hX dX9_order_102 0 rfl ?_
      refine V_getr (j := 76) hX fX9_38 rfl rfl dX9_order_103 ?_
      refine V_iload hX dX9_order_106 6 rfl ?_
      refine V_ialdN (x := nI (T_ k_)) hX rfl (by omega) (by decide) (by rw [hB.1 76 (by decide)]; exact hs _ (by omega)) dX9_order_108 ?_
      refine V_iastN hX rfl (by omega) (by decide) dX9_order_109 ?_
      show V G 8 X 110 [(0, .ref 69), (1, .int (nI b_)), (2, .int q_), (3, .int lv_), (5, .int x_), (6, .int z_), (7, .int (nI k_))] [] (vup μ1.1 83 k_ (nI (T_ k_)), μ1.2)
      refine V_iincN (n := 1) (ls' := [(0, .ref 69), (1, .int (nI b_)), (2, .int q_), (3, .int lv_), (5, .int x_), (6, .int z_), (7, .int (nI (k_ + 1)))]) hX dX9_order_110 6 rfl (by decide) rfl ?_
      refine V_goto (tgt := 87) hX dX9_order_113 (by decide) ?_
      refine ih (k_ + 1) _ (by omega) (by omega) ⟨fun a ha => ?_, hB.2⟩ (fun i hi => ?_)
      · dsimp only; rw [vup_row _ _ _ ha]; exact hB.1 a ha
      · dsimp only; rw [vup_get]
        by_cases e : i = k_
        · rw [if_pos ⟨rfl, e⟩, e]
        · rw [if_neg (fun z => e z.2)]; exact hI i (by omega)
set_option maxRecDepth 100000 in
set_option maxHeartbeats 4000000 in
theorem ordM_body0 {G : VG} {d : Nat} {μ : VS} {X : VX} {P : PC} {L : Nat} {S κ : Nat → Nat} {I : Nat → PC} {q_ : Int32} (hX : Cx G (d + 6) yX9_order cX9_order 8 (some .int) X) (hok : okP P) (hL7 : L ≤ 7) (T U_ : Nat → Nat) (a : Nat × (Nat → Nat)) (hTU : ∀ i, i < L → T i = U_ i) (hC : ∀ v, cv T v 0 L = cv S v 0 L) (hg : sgs T L) (hN : (fun T a => ∀ μ1 lv_, oInv P L S κ I μ μ1 T → lvO P 0 L (gfW P 0 (fun v => cv S v 0 L)) a lv_ → (a.1 < 1000000 → ∀ i, i < L → μ1.1 83 i = nI (a.2 i)) → V G 8 X 116 [(0, .ref 69), (1, .int (nI 0)), (2, .int q_), (3, .int lv_)] [] μ1) T (ordG P 0 L a U_)) : (fun T a => ∀ μ1 lv_, oInv P L S κ I μ μ1 T → lvO P 0 L (gfW P 0 (fun v => cv S v 0 L)) a lv_ → (a.1 < 1000000 → ∀ i, i < L → μ1.1 83 i = nI (a.2 i)) → V G 8 X 53 [(0, .ref 69), (1, .int (nI 0)), (2, .int q_), (3, .int lv_)] [] μ1) T a := by
  have hG := gf_bd (w := 0) hok (T := S) hL7
  have hlo := loss_bd (w := 0) hok (T := U_) hL7
  have hCU : ∀ v, cv U_ v 0 L = cv S v 0 L := fun v => by rw [← hC v]; exact (cv_congr hTU).symm
  have hown := own_loss (P := P) (w := 0) (C := fun v => cv S v 0 L) hCU
  intro μ1 lv_ hO hlv hbst
  show V G 8 X 53 [(0, .ref 69), (1, .int (nI 0)), (2, .int q_), (3, .int lv_)] [] μ1
  refine V_aload_n hX dX9_order_53 0 rfl ?_
  refine V_callV (As := []) (st := []) hX mX9_169 rfl (kM_gainOf (M_ := L) (cm_ := 0) (E := P) (sg_ := U_) (cb_ := noC) hO.2.2.2.1 hO.2.2.1 hok hO.2.2.2.2.2 (by omega) (fun i hi => by rw [← hTU i hi]; exact hO.2.2.2.2.1 i hi) (fun i hi => by rw [← hTU i hi]; exact sg_lt (hg i hi)) (fun i _ => Or.inr ⟨rfl, rfl⟩) (fun μ2 hp => ?_)) rfl (Nat.le_of_ble_eq_true rfl) (Nat.le_of_ble_eq_true rfl) dX9_order_54
  show V G 8 X 57 [(0, .ref 69), (1, .int (nI 0)), (2, .int q_), (3, .int lv_)] [.int (nI ((uAt P U_ L).2.2.2 10) - nI ((uAt P U_ L).2.2.2 9))] μ2
  have hO2 := hO.same hp.1
  refine V_istore (ls' := [(0, .ref 69), (1, .int (nI 0)), (2, .int q_), (3, .int lv_), (5, .int (nI ((uAt P U_ L).2.2.2 10) - nI ((uAt P U_ L).2.2.2 9)))]) hX dX9_order_57 (by decide) rfl ?_
  refine V_iload_n hX dX9_order_59 1 rfl ?_
  refine V_if_neN (tgt := 70) hX dX9_order_60 (by decide) (by omega) (fun c60 => ?_) (fun c60 => ?_)
  · exact absurd c60 (by decide)
  · refine V_aload_n hX dX9_order_63 0 rfl ?_
    refine V_getN (x := nI ((uAt P U_ L).2.2.2 9)) hX fX9_147 rfl hp.2.2.2.1.2.2.1 dX9_order_64 ?_
    refine V_goto (tgt := 73) hX dX9_order_67 (by decide) ?_
    refine V_istore (ls' := [(0, .ref 69), (1, .int (nI 0)), (2, .int q_), (3, .int lv_), (5, .int (nI ((uAt P U_ L).2.2.2 10) - nI ((uAt P U_ L).2.2.2 9))), (6, .int (nI ((uAt P U_ L).2.2.2 9)))]) hX dX9_order_73 (by decide) rfl ?_
    rw [show nI ((uAt P U_ L).2.2.2 9) = zI ((lossN P 0 U_ L : Int) - (gfW P 0 (fun v => cv S v 0 L))) from by rw [← hown]; unfold ownZ; rw [if_neg (by decide)]; exact zI_nat _]
    refine V_iload hX dX9_order_75 5 rfl ?_
    refine V_iload_n hX dX9_order_77 3 rfl ?_
    refine V_icmp_ge (tgt := 116) hX dX9_order_78 (by decide) (fun c78 => ?_) (fun c78 => ?_)
    · have ha : ordG P 0 L a U_ = a := if_neg (by have := (hlv.cmp hG hlo).mp c78; omega)
      rw [ha] at hN
      exact V_sub [0, 1, 2, 3] rfl (hN μ2 lv_ hO2 hlv (fun z i hi => by rw [hp.1.1 83 i (by unfold mScr; omega)]; exact hbst z i hi))
    · refine V_iload hX dX9_order_81 5 rfl ?_
      refine V_istore_n (ls' := [(0, .ref 69), (1, .int (nI 0)), (2, .int q_), (3, .int (zI ((lossN P 0 U_ L : Int) - (gfW P 0 (fun v => cv S v 0 L))))), (5, .int (nI ((uAt P U_ L).2.2.2 10) - nI ((uAt P U_ L).2.2.2 9))), (6, .int (zI ((lossN P 0 U_ L : Int) - (gfW P 0 (fun v => cv S v 0 L)))))]) hX dX9_order_83 (by decide) rfl ?_
      refine V_iconst (v := nI 0) hX dX9_order_84 (by decide) ?_
      refine V_istore (ls' := [(0, .ref 69), (1, .int (nI 0)), (2, .int q_), (3, .int (zI ((lossN P 0 U_ L : Int) - (gfW P 0 (fun v => cv S v 0 L))))), (5, .int (nI ((uAt P U_ L).2.2.2 10) - nI ((uAt P U_ L).2.2.2 9))), (6, .int (zI ((lossN P 0 U_ L : Int) - (gfW P 0 (fun v => cv S v 0 L))))), (7, .int (nI 0))]) hX dX9_order_85 (by decide) rfl ?_
      have hlt : lossN P 0 U_ L < a.1 := by
        have := mt (hlv.cmp hG hlo).mpr c78
        omega
      have ha : ordG P 0 L a U_ = (lossN P 0 U_ L, U_) := if_pos hlt
      rw [ha] at hN
      refine lpM_cpy (μ := μ2) (T_ := T) hX hO2.2.2.2.1 hO2.2.2.2.2.1 (by omega) (fun μ3 hB3 hI3 => ?_) (L + 1) 0 μ2 (by omega) (by omega) ⟨fun _ _ => rfl, rfl⟩ (fun i hi => absurd hi (by omega))
      exact hN μ3 _ (hO2.bst hB3) (Or.inr ⟨by show lossN P 0 U_ L < 1000000; omega, rfl, by rw [hown]⟩) (fun _ i hi => by rw [hI3 i hi, hTU i hi])
set_option maxRecDepth 100000 in
set_option maxHeartbeats 4000000 in
theorem ordM_next0 {G : VG} {d : Nat} {μ : VS} {X : VX} {P : PC} {L : Nat} {S κ : Nat → Nat} {I : Nat → PC} {q_ : Int32} (hX : Cx G (d + 6) yX9_order cX9_order 8 (some .int) X) (hL7 : L ≤ 7) (T : Nat → Nat) (a : Nat × (Nat → Nat)) (m : Nat) (hm : m + 1 < L) (hup : T m < T (m + 1)) (hd : dsc T (m + 1) L) (hg : sgs T L) (hN : ∀ T2, nx L m T T2 → (fun T a => ∀ μ1 lv_, oInv P L S κ I μ μ1 T → lvO P 0 L (gfW P 0 (fun v => cv S v 0 L)) a lv_ → (a.1 < 1000000 → ∀ i, i < L → μ1.1 83 i = nI (a.2 i)) → V G 8 X 53 [(0, .ref 69), (1, .int (nI 0)), (2, .int q_), (3, .int lv_)] [] μ1) T2 a) : (fun T a => ∀ μ1 lv_, oInv P L S κ I μ μ1 T → lvO P 0 L (gfW P 0 (fun v => cv S v 0 L)) a lv_ → (a.1 < 1000000 → ∀ i, i < L → μ1.1 83 i = nI (a.2 i)) → V G 8 X 116 [(0, .ref 69), (1, .int (nI 0)), (2, .int q_), (3, .int lv_)] [] μ1) T a := by
  intro μ1 lv_ hO hlv hbst
  show V G 8 X 116 [(0, .ref 69), (1, .int (nI 0)), (2, .int q_), (3, .int lv_)] [] μ1
  refine V_aload_n hX dX9_order_116 0 rfl ?_
  refine V_callV (As := []) (st := []) hX mX9_180 rfl (kM_goOnT (n_ := L) (T_ := T) (m_ := m) hO.2.2.2.1 hO.2.2.2.2.1 (by omega) (fun i hi => sg_lt (hg i hi)) hm hup hd (fun μ2 T2 hK2 hs2 hnx => ?_)) rfl (Nat.le_of_ble_eq_true rfl) (Nat.le_of_ble_eq_true rfl) dX9_order_117
  show V G 8 X 120 [(0, .ref 69), (1, .int (nI 0)), (2, .int q_), (3, .int lv_)] [.int (nI 1)] μ2
  refine V_istore (ls' := [(0, .ref 69), (1, .int (nI 0)), (2, .int q_), (3, .int lv_), (4, .int (nI 1))]) hX dX9_order_120 (by decide) rfl ?_
  refine V_goto (tgt := 48) hX dX9_order_122 (by decide) ?_
  refine V_iload hX dX9_order_48 4 rfl ?_
  refine V_if_eqN (tgt := 125) hX dX9_order_50 (by decide) (by omega) (fun c50 => ?_) (fun c50 => ?_)
  · exact absurd c50 (by decide)
  · exact V_sub [0, 1, 2, 3] rfl (hN T2 hnx μ2 lv_ (hO.ser hK2 hs2) hlv (fun z i hi => by rw [hK2.1 83 (by decide)]; exact hbst z i hi))
set_option maxRecDepth 100000 in
set_option maxHeartbeats 4000000 in
theorem ordM_end0 {G : VG} {d : Nat} {μ : VS} {Q : Option Value → VS → Prop} {X : VX} {P : PC} {L : Nat} {S κ : Nat → Nat} {I : Nat → PC} {q_ : Int32} (hX : Cx G (d + 6) yX9_order cX9_order 8 (some .int) X) (hR : ∀ r μ', Q r μ' → Ret G X r μ') (hL7 : L ≤ 7) (T : Nat → Nat) (a : Nat × (Nat → Nat)) (hne : a.1 < 1000000) (hd : dsc T 0 L) (hg : sgs T L) (hQ : ∀ μ', RM μ' P L S κ I → keepC μ μ' → Q (some (.int (if q_ = -1 then ordV P L 0 a.2 else if inM q_ L then nI (a.2 q_.toNatClampNeg) else -6))) μ') : (fun T a => ∀ μ1 lv_, oInv P L S κ I μ μ1 T → lvO P 0 L (gfW P 0 (fun v => cv S v 0 L)) a lv_ → (a.1 < 1000000 → ∀ i, i < L → μ1.1 83 i = nI (a.2 i)) → V G 8 X 116 [(0, .ref 69), (1, .int (nI 0)), (2, .int q_), (3, .int lv_)] [] μ1) T a := by
  intro μ1 lv_ hO hlv hbst
  have hlv2 : lv_ = zI (ownZ P 0 a.2 L) := by
    rcases hlv with z | z
    · omega
    · exact z.2.2
  show V G 8 X 116 [(0, .ref 69), (1, .int (nI 0)), (2, .int q_), (3, .int lv_)] [] μ1
  refine V_aload_n hX dX9_order_116 0 rfl ?_
  refine V_callV (As := []) (st := []) hX mX9_180 rfl (kM_goOnF (n_ := L) (T_ := T) hO.2.2.2.1 hO.2.2.2.2.1 (by omega) (fun i hi => sg_lt (hg i hi)) hd ?_) rfl (Nat.le_of_ble_eq_true rfl) (Nat.le_of_ble_eq_true rfl) dX9_order_117
  show V G 8 X 120 [(0, .ref 69), (1, .int (nI 0)), (2, .int q_), (3, .int lv_)] [.int (nI 0)] μ1
  refine V_istore (ls' := [(0, .ref 69), (1, .int (nI 0)), (2, .int q_), (3, .int lv_), (4, .int (nI 0))]) hX dX9_order_120 (by decide) rfl ?_
  refine V_goto (tgt := 48) hX dX9_order_122 (by decide) ?_
  refine V_iload hX dX9_order_48 4 rfl ?_
  refine V_if_eqN (tgt := 125) hX dX9_order_50 (by decide) (by omega) (fun c50 => ?_) (fun c50 => ?_)
  · refine V_iload_n hX dX9_order_125 2 rfl ?_
    refine V_iconst (v := (-1)) hX dX9_order_126 (by decide) ?_
    refine V_icmp_ne (tgt := 144) hX dX9_order_127 (by decide) (fun c127 => ?_) (fun c127 => ?_)
    · refine V_iload_n hX dX9_order_144 2 rfl ?_
      refine V_iconst (v := nI 0) hX dX9_order_145 (by decide) ?_
      refine V_aload_n hX dX9_order_146 0 rfl ?_
      refine V_getN (x := nI L) hX fX9_103 rfl hO.1.2.1.1 dX9_order_147 ?_
      refine V_iconst (v := nI 1) hX dX9_order_150 (by decide) ?_
      refine V_isub hX dX9_order_151 ?_
      refine V_callS (As := [.int q_, .int (nI 0), .int ((nI L) - (nI 1))]) (st := []) hX mX9_75 (k_in ?_) rfl (Nat.le_of_ble_eq_true rfl) (Nat.le_of_ble_eq_true rfl) dX9_order_152
      show V G 8 X 155 [(0, .ref 69), (1, .int (nI 0)), (2, .int q_), (3, .int lv_), (4, .int (nI 0))] [.int (bI (nI 0 ≤ q_ ∧ q_ ≤ (nI L) - (nI 1)))] μ1
      refine V_if_eqB (tgt := 167) hX dX9_order_155 (by decide) (fun c155 => ?_) (fun c155 => ?_)
      · refine V_bipush (v := (-6)) hX dX9_order_167 (by decide) ?_
        refine V_iret hX rfl dX9_order_169 ?_
        exact hR _ _ (by have h9 := hQ μ1 hO.1 hO.2.1; rw [if_neg c127, if_neg c155] at h9; exact h9)
      · obtain ⟨r_, hr, rfl⟩ := inM_nat (by omega) c155
        refine V_aload_n hX dX9_order_158 0 rfl ?_
        refine V_getr (j := 83) hX fX9_59 rfl rfl dX9_order_159 ?_
        refine V_iload_n hX dX9_order_162 2 rfl ?_
        refine V_ialdN (x := nI (a.2 r_)) hX rfl (by omega) (by decide) (hbst hne _ (by omega)) dX9_order_163 ?_
        refine V_goto (tgt := 169) hX dX9_order_164 (by decide) ?_
        refine V_iret hX rfl dX9_order_169 ?_
        exact hR _ _ (by have h9 := hQ μ1 hO.1 hO.2.1; rw [if_neg c127, if_pos c155, nI_clamp (by omega)] at h9; exact h9)
    · refine V_iload_n hX dX9_order_130 1 rfl ?_
      refine V_if_neN (tgt := 138) hX dX9_order_131 (by decide) (by omega) (fun c131 => ?_) (fun c131 => ?_)
      · exact absurd c131 (by decide)
      · refine V_iload_n hX dX9_order_134 3 rfl ?_
        refine V_goto (tgt := 143) hX dX9_order_135 (by decide) ?_
        refine V_iret hX rfl dX9_order_143 ?_
        exact hR _ _ (by have h9 := hQ μ1 hO.1 hO.2.1; rw [if_pos c127, show ordV P L 0 a.2 = lv_ from by show _ = lv_; rw [hlv2]; unfold ownZ; rw [if_neg (by decide)]; exact zI_nat _] at h9; exact h9)
  · exact absurd c50 (by decide)
set_option maxRecDepth 100000 in
set_option maxHeartbeats 4000000 in
theorem kM_order0 {G : VG} {d : Nat} {μ : VS} {Q : Option Value → VS → Prop} {P : PC} {L : Nat} {S κ : Nat → Nat} {I : Nat → PC} {q_ : Int32} (hRM : RM μ P L S κ I) (hok : okP P) (hpd : okPad L S) (hQ : ∀ μ', RM μ' P L S κ I → keepC μ μ' → Q (some (.int (orderS P L S (nI 0) q_))) μ') : Call G (d + 6) yX9_order cX9_order 8 (some .int) [.ref 69, .int (nI 0), .int q_] μ Q := by
  intro X hX hR
  have hM := hRM.1
  have hL := hRM.2.1
  have hS := hpd.2
  have hL60 := hpd.1
  have hP4 := hok.2.2.2.2.1
  have h4 := hP4
  show V G 8 X 0 [(0, .ref 69), (1, .int (nI 0)), (2, .int q_)] [] μ
  refine V_iload_n hX dX9_order_0 1 rfl ?_
  refine V_iconst (v := nI 0) hX dX9_order_1 (by decide) ?_
  refine V_iconst (v := nI 1) hX dX9_order_2 (by decide) ?_
  refine V_callS (As := [.int (nI 0), .int (nI 0), .int (nI 1)]) (st := []) hX mX9_75 (k_in ?_) rfl (Nat.le_of_ble_eq_true rfl) (Nat.le_of_ble_eq_true rfl) dX9_order_3
  show V G 8 X 6 [(0, .ref 69), (1, .int (nI 0)), (2, .int q_)] [.int (bI (nI 0 ≤ nI 0 ∧ nI 0 ≤ nI 1))] μ
  refine V_if_neB (tgt := 12) hX dX9_order_6 (by decide) (fun c6 => ?_) (fun c6 => ?_)
  · refine V_aload_n hX dX9_order_12 0 rfl ?_
    refine V_callV (As := []) (st := []) hX mX9_109 rfl (kM_faultOf hL hS hL60 ?_) rfl (Nat.le_of_ble_eq_true rfl) (Nat.le_of_ble_eq_true rfl) dX9_order_13
    show V G 8 X 16 [(0, .ref 69), (1, .int (nI 0)), (2, .int q_)] [.int (fltU S L)] μ
    refine V_if_lt (tgt := 22) hX dX9_order_16 (by decide) (fun c16 => ?_) (fun c16 => ?_)
    · refine V_aload_n hX dX9_order_22 0 rfl ?_
      refine V_getN (x := nI L) hX fX9_103 rfl hL.1 dX9_order_23 ?_
      refine V_bipush (v := nI 7) hX dX9_order_26 (by decide) ?_
      refine V_icmp_leN (tgt := 34) hX dX9_order_28 (by decide) (by omega) (by omega) (fun c28 => ?_) (fun c28 => ?_)
      · refine V_aload_n hX dX9_order_34 0 rfl ?_
        refine V_callV (As := []) (st := []) hX mX9_160 rfl (kM_lay hM hL hL60 (fun μ1 hLy hK1 => ?_)) rfl (Nat.le_of_ble_eq_true rfl) (Nat.le_of_ble_eq_true rfl) dX9_order_35
        show V G 8 X 38 [(0, .ref 69), (1, .int (nI 0)), (2, .int q_)] [] μ1
        have hR1 := hRM.keep hK1
        have hO1 : oInv P L S κ I μ μ1 S := ⟨hR1, hK1.C, hLy.1, hLy.2.1, hLy.2.2.1, hLy.2.2.2⟩
        have hgS : sgs S L := flt_all L (flt_neg L (by omega) c16) (by omega)
        refine V_aload_n hX dX9_order_38 0 rfl ?_
        refine V_callV (As := []) (st := []) hX mX9_176 rfl (kM_sort (n_ := L) (T_ := S) hLy.2.1 hLy.2.2.1 (by omega) (fun i hi => sg_lt (hgS i hi)) (fun μ2 T0 hK2 hs2 ha2 hc2 => ?_)) rfl (Nat.le_of_ble_eq_true rfl) (Nat.le_of_ble_eq_true rfl) dX9_order_39
        show V G 8 X 42 [(0, .ref 69), (1, .int (nI 0)), (2, .int q_)] [] μ2
        refine V_ldc hX kX9_179 dX9_order_42 ?_
        refine V_istore_n (ls' := [(0, .ref 69), (1, .int (nI 0)), (2, .int q_), (3, .int (1000000 : Int32))]) hX dX9_order_44 (by decide) rfl ?_
        refine V_iconst (v := nI 1) hX dX9_order_45 (by decide) ?_
        refine V_istore (ls' := [(0, .ref 69), (1, .int (nI 0)), (2, .int q_), (3, .int (1000000 : Int32)), (4, .int (nI 1))]) hX dX9_order_46 (by decide) rfl ?_
        refine V_iload hX dX9_order_48 4 rfl ?_
        refine V_if_eqN (tgt := 125) hX dX9_order_50 (by decide) (by omega) (fun c50 => ?_) (fun c50 => ?_)
        · exact absurd c50 (by decide)
        · refine V_sub [0, 1, 2, 3] rfl ?_
          have hF := perm_fold (σ := Nat × (Nat → Nat)) (arr := ordG P 0 L) (n := L) (C := fun v => cv S v 0 L) (Hd := fun T a => ∀ μ1 lv_, oInv P L S κ I μ μ1 T → lvO P 0 L (gfW P 0 (fun v => cv S v 0 L)) a lv_ → (a.1 < 1000000 → ∀ i, i < L → μ1.1 83 i = nI (a.2 i)) → V G 8 X 53 [(0, .ref 69), (1, .int (nI 0)), (2, .int q_), (3, .int lv_)] [] μ1) (Gn := fun T a => ∀ μ1 lv_, oInv P L S κ I μ μ1 T → lvO P 0 L (gfW P 0 (fun v => cv S v 0 L)) a lv_ → (a.1 < 1000000 → ∀ i, i < L → μ1.1 83 i = nI (a.2 i)) → V G 8 X 116 [(0, .ref 69), (1, .int (nI 0)), (2, .int q_), (3, .int lv_)] [] μ1) (fun _ => 0) (0 + 7 ^ L) (fun _ _ => Nat.zero_le _) (fun T U_ a _ z1 z2 z3 z4 => ordM_body0 hX hok (by omega) T U_ a z1 z2 z3 z4) (fun T a m z1 z2 z3 z4 z5 z6 => ordM_next0 hX (by omega) T a m z1 z2 z3 z5 z6) L 0 (by omega) T0 S (fun k => cv S (kc k) 0 L) (1000000, S) (fun i hi => absurd hi (by omega)) (fun k _ => hc2 (kc k)) hc2 (sgs_cv hgS hc2) ha2 (Nat.le_refl _) (fun T1 z1 z2 z3 z4 z5 => ordM_end0 hX hR (by omega) T1 _ (ordB_ne hok (by omega) hgS) z5 z4 (fun μ' y1 y2 => ?_))
          · exact hF μ2 _ (hO1.ser hK2 hs2) (Or.inl ⟨rfl, rfl⟩) (fun z => absurd z (Nat.lt_irrefl _))
          · have h9 := hQ μ' y1 y2
            rw [show orderS P L S (nI 0) q_ = _ from (if_pos c6).trans ((if_pos (flt_neg L (by omega) c16)).trans (if_neg (by omega))), show (nI 0).toNatClampNeg = 0 from nI_clamp (by decide)] at h9
            exact h9
      · refine V_bipush (v := (-4)) hX dX9_order_31 (by decide) ?_
        refine V_iret hX rfl dX9_order_33 ?_
        have h9 := hQ μ
        rw [show orderS P L S (nI 0) q_ = (-4) from (if_pos c6).trans ((if_pos (flt_neg L (by omega) c16)).trans (if_pos (by omega)))] at h9
        exact hR _ _ (h9 hRM (keepC.rf μ))
    · refine V_bipush (v := (-5)) hX dX9_order_19 (by decide) ?_
      refine V_iret hX rfl dX9_order_21 ?_
      have h9 := hQ μ
      rw [show orderS P L S (nI 0) q_ = (-5) from (if_pos c6).trans (if_neg (flt_ge hL60 c16))] at h9
      exact hR _ _ (h9 hRM (keepC.rf μ))
  · refine V_bipush (v := (-2)) hX dX9_order_9 (by decide) ?_
    refine V_iret hX rfl dX9_order_11 ?_
    exact absurd (by decide) c6
set_option maxRecDepth 100000 in
set_option maxHeartbeats 4000000 in
theorem ordM_body1 {G : VG} {d : Nat} {μ : VS} {X : VX} {P : PC} {L : Nat} {S κ : Nat → Nat} {I : Nat → PC} {q_ : Int32} (hX : Cx G (d + 6) yX9_order cX9_order 8 (some .int) X) (hok : okP P) (hL7 : L ≤ 7) (T U_ : Nat → Nat) (a : Nat × (Nat → Nat)) (hTU : ∀ i, i < L → T i = U_ i) (hC : ∀ v, cv T v 0 L = cv S v 0 L) (hg : sgs T L) (hN : (fun T a => ∀ μ1 lv_, oInv P L S κ I μ μ1 T → lvO P 1 L (gfW P 1 (fun v => cv S v 0 L)) a lv_ → (a.1 < 1000000 → ∀ i, i < L → μ1.1 83 i = nI (a.2 i)) → V G 8 X 116 [(0, .ref 69), (1, .int (nI 1)), (2, .int q_), (3, .int lv_)] [] μ1) T (ordG P 1 L a U_)) : (fun T a => ∀ μ1 lv_, oInv P L S κ I μ μ1 T → lvO P 1 L (gfW P 1 (fun v => cv S v 0 L)) a lv_ → (a.1 < 1000000 → ∀ i, i < L → μ1.1 83 i = nI (a.2 i)) → V G 8 X 53 [(0, .ref 69), (1, .int (nI 1)), (2, .int q_), (3, .int lv_)] [] μ1) T a := by
  have hG := gf_bd (w := 1) hok (T := S) hL7
  have hlo := loss_bd (w := 1) hok (T := U_) hL7
  have hCU : ∀ v, cv U_ v 0 L = cv S v 0 L := fun v => by rw [← hC v]; exact (cv_congr hTU).symm
  have hown := own_loss (P := P) (w := 1) (C := fun v => cv S v 0 L) hCU
  intro μ1 lv_ hO hlv hbst
  show V G 8 X 53 [(0, .ref 69), (1, .int (nI 1)), (2, .int q_), (3, .int lv_)] [] μ1
  refine V_aload_n hX dX9_order_53 0 rfl ?_
  refine V_callV (As := []) (st := []) hX mX9_169 rfl (kM_gainOf (M_ := L) (cm_ := 0) (E := P) (sg_ := U_) (cb_ := noC) hO.2.2.2.1 hO.2.2.1 hok hO.2.2.2.2.2 (by omega) (fun i hi => by rw [← hTU i hi]; exact hO.2.2.2.2.1 i hi) (fun i hi => by rw [← hTU i hi]; exact sg_lt (hg i hi)) (fun i _ => Or.inr ⟨rfl, rfl⟩) (fun μ2 hp => ?_)) rfl (Nat.le_of_ble_eq_true rfl) (Nat.le_of_ble_eq_true rfl) dX9_order_54
  show V G 8 X 57 [(0, .ref 69), (1, .int (nI 1)), (2, .int q_), (3, .int lv_)] [.int (nI ((uAt P U_ L).2.2.2 10) - nI ((uAt P U_ L).2.2.2 9))] μ2
  have hO2 := hO.same hp.1
  refine V_istore (ls' := [(0, .ref 69), (1, .int (nI 1)), (2, .int q_), (3, .int lv_), (5, .int (nI ((uAt P U_ L).2.2.2 10) - nI ((uAt P U_ L).2.2.2 9)))]) hX dX9_order_57 (by decide) rfl ?_
  refine V_iload_n hX dX9_order_59 1 rfl ?_
  refine V_if_neN (tgt := 70) hX dX9_order_60 (by decide) (by omega) (fun c60 => ?_) (fun c60 => ?_)
  · refine V_iload hX dX9_order_70 4 rfl ?_
    refine V_ineg hX dX9_order_72 ?_
    refine V_istore (ls' := [(0, .ref 69), (1, .int (nI 1)), (2, .int q_), (3, .int lv_), (5, .int (nI ((uAt P U_ L).2.2.2 10) - nI ((uAt P U_ L).2.2.2 9))), (6, .int (-(nI ((uAt P U_ L).2.2.2 10) - nI ((uAt P U_ L).2.2.2 9))))]) hX dX9_order_73 (by decide) rfl ?_
    rw [show -(nI ((uAt P U_ L).2.2.2 10) - nI ((uAt P U_ L).2.2.2 9)) = zI ((lossN P 1 U_ L : Int) - (gfW P 1 (fun v => cv S v 0 L))) from by rw [← hown]; unfold ownZ; rw [if_pos rfl, zI_nat, zI_nat, zI_sub, zI_neg]; congr 1; omega]
    refine V_iload hX dX9_order_75 5 rfl ?_
    refine V_iload_n hX dX9_order_77 3 rfl ?_
    refine V_icmp_ge (tgt := 116) hX dX9_order_78 (by decide) (fun c78 => ?_) (fun c78 => ?_)
    · have ha : ordG P 1 L a U_ = a := if_neg (by have := (hlv.cmp hG hlo).mp c78; omega)
      rw [ha] at hN
      exact V_sub [0, 1, 2, 3] rfl (hN μ2 lv_ hO2 hlv (fun z i hi => by rw [hp.1.1 83 i (by unfold mScr; omega)]; exact hbst z i hi))
    · refine V_iload hX dX9_order_81 5 rfl ?_
      refine V_istore_n (ls' := [(0, .ref 69), (1, .int (nI 1)), (2, .int q_), (3, .int (zI ((lossN P 1 U_ L : Int) - (gfW P 1 (fun v => cv S v 0 L))))), (5, .int (nI ((uAt P U_ L).2.2.2 10) - nI ((uAt P U_ L).2.2.2 9))), (6, .int (zI ((lossN P 1 U_ L : Int) - (gfW P 1 (fun v => cv S v 0 L)))))]) hX dX9_order_83 (by decide) rfl ?_
      refine V_iconst (v := nI 0) hX dX9_order_84 (by decide) ?_
      refine V_istore (ls' := [(0, .ref 69), (1, .int (nI 1)), (2, .int q_), (3, .int (zI ((lossN P 1 U_ L : Int) - (gfW P 1 (fun v => cv S v 0 L))))), (5, .int (nI ((uAt P U_ L).2.2.2 10) - nI ((uAt P U_ L).2.2.2 9))), (6, .int (zI ((lossN P 1 U_ L : Int) - (gfW P 1 (fun v => cv S v 0 L))))), (7, .int (nI 0))]) hX dX9_order_85 (by decide) rfl ?_
      have hlt : lossN P 1 U_ L < a.1 := by
        have := mt (hlv.cmp hG hlo).mpr c78
        omega
      have ha : ordG P 1 L a U_ = (lossN P 1 U_ L, U_) := if_pos hlt
      rw [ha] at hN
      refine lpM_cpy (μ := μ2) (T_ := T) hX hO2.2.2.2.1 hO2.2.2.2.2.1 (by omega) (fun μ3 hB3 hI3 => ?_) (L + 1) 0 μ2 (by omega) (by omega) ⟨fun _ _ => rfl, rfl⟩ (fun i hi => absurd hi (by omega))
      exact hN μ3 _ (hO2.bst hB3) (Or.inr ⟨by show lossN P 1 U_ L < 1000000; omega, rfl, by rw [hown]⟩) (fun _ i hi => by rw [hI3 i hi, hTU i hi])
  · exact absurd c60 (by decide)
set_option maxRecDepth 100000 in
set_option maxHeartbeats 4000000 in
theorem ordM_next1 {G : VG} {d : Nat} {μ : VS} {X : VX} {P : PC} {L : Nat} {S κ : Nat → Nat} {I : Nat → PC} {q_ : Int32} (hX : Cx G (d + 6) yX9_order cX9_order 8 (some .int) X) (hL7 : L ≤ 7) (T : Nat → Nat) (a : Nat × (Nat → Nat)) (m : Nat) (hm : m + 1 < L) (hup : T m < T (m + 1)) (hd : dsc T (m + 1) L) (hg : sgs T L) (hN : ∀ T2, nx L m T T2 → (fun T a => ∀ μ1 lv_, oInv P L S κ I μ μ1 T → lvO P 1 L (gfW P 1 (fun v => cv S v 0 L)) a lv_ → (a.1 < 1000000 → ∀ i, i < L → μ1.1 83 i = nI (a.2 i)) → V G 8 X 53 [(0, .ref 69), (1, .int (nI 1)), (2, .int q_), (3, .int lv_)] [] μ1) T2 a) : (fun T a => ∀ μ1 lv_, oInv P L S κ I μ μ1 T → lvO P 1 L (gfW P 1 (fun v => cv S v 0 L)) a lv_ → (a.1 < 1000000 → ∀ i, i < L → μ1.1 83 i = nI (a.2 i)) → V G 8 X 116 [(0, .ref 69), (1, .int (nI 1)), (2, .int q_), (3, .int lv_)] [] μ1) T a := by
  intro μ1 lv_ hO hlv hbst
  show V G 8 X 116 [(0, .ref 69), (1, .int (nI 1)), (2, .int q_), (3, .int lv_)] [] μ1
  refine V_aload_n hX dX9_order_116 0 rfl ?_
  refine V_callV (As := []) (st := []) hX mX9_180 rfl (kM_goOnT (n_ := L) (T_ := T) (m_ := m) hO.2.2.2.1 hO.2.2.2.2.1 (by omega) (fun i hi => sg_lt (hg i hi)) hm hup hd (fun μ2 T2 hK2 hs2 hnx => ?_)) rfl (Nat.le_of_ble_eq_true rfl) (Nat.le_of_ble_eq_true rfl) dX9_order_117
  show V G 8 X 120 [(0, .ref 69), (1, .int (nI 1)), (2, .int q_), (3, .int lv_)] [.int (nI 1)] μ2
  refine V_istore (ls' := [(0, .ref 69), (1, .int (nI 1)), (2, .int q_), (3, .int lv_), (4, .int (nI 1))]) hX dX9_order_120 (by decide) rfl ?_
  refine V_goto (tgt := 48) hX dX9_order_122 (by decide) ?_
  refine V_iload hX dX9_order_48 4 rfl ?_
  refine V_if_eqN (tgt := 125) hX dX9_order_50 (by decide) (by omega) (fun c50 => ?_) (fun c50 => ?_)
  · exact absurd c50 (by decide)
  · exact V_sub [0, 1, 2, 3] rfl (hN T2 hnx μ2 lv_ (hO.ser hK2 hs2) hlv (fun z i hi => by rw [hK2.1 83 (by decide)]; exact hbst z i hi))
set_option maxRecDepth 100000 in
set_option maxHeartbeats 4000000 in
theorem ordM_end1 {G : VG} {d : Nat} {μ : VS} {Q : Option Value → VS → Prop} {X : VX} {P : PC} {L : Nat} {S κ : Nat → Nat} {I : Nat → PC} {q_ : Int32} (hX : Cx G (d + 6) yX9_order cX9_order 8 (some .int) X) (hR : ∀ r μ', Q r μ' → Ret G X r μ') (hL7 : L ≤ 7) (T : Nat → Nat) (a : Nat × (Nat → Nat)) (hne : a.1 < 1000000) (hd : dsc T 0 L) (hg : sgs T L) (hQ : ∀ μ', RM μ' P L S κ I → keepC μ μ' → Q (some (.int (if q_ = -1 then ordV P L 1 a.2 else if inM q_ L then nI (a.2 q_.toNatClampNeg) else -6))) μ') : (fun T a => ∀ μ1 lv_, oInv P L S κ I μ μ1 T → lvO P 1 L (gfW P 1 (fun v => cv S v 0 L)) a lv_ → (a.1 < 1000000 → ∀ i, i < L → μ1.1 83 i = nI (a.2 i)) → V G 8 X 116 [(0, .ref 69), (1, .int (nI 1)), (2, .int q_), (3, .int lv_)] [] μ1) T a := by
  intro μ1 lv_ hO hlv hbst
  have hlv2 : lv_ = zI (ownZ P 1 a.2 L) := by
    rcases hlv with z | z
    · omega
    · exact z.2.2
  show V G 8 X 116 [(0, .ref 69), (1, .int (nI 1)), (2, .int q_), (3, .int lv_)] [] μ1
  refine V_aload_n hX dX9_order_116 0 rfl ?_
  refine V_callV (As := []) (st := []) hX mX9_180 rfl (kM_goOnF (n_ := L) (T_ := T) hO.2.2.2.1 hO.2.2.2.2.1 (by omega) (fun i hi => sg_lt (hg i hi)) hd ?_) rfl (Nat.le_of_ble_eq_true rfl) (Nat.le_of_ble_eq_true rfl) dX9_order_117
  show V G 8 X 120 [(0, .ref 69), (1, .int (nI 1)), (2, .int q_), (3, .int lv_)] [.int (nI 0)] μ1
  refine V_istore (ls' := [(0, .ref 69), (1, .int (nI 1)), (2, .int q_), (3, .int lv_), (4, .int (nI 0))]) hX dX9_order_120 (by decide) rfl ?_
  refine V_goto (tgt := 48) hX dX9_order_122 (by decide) ?_
  refine V_iload hX dX9_order_48 4 rfl ?_
  refine V_if_eqN (tgt := 125) hX dX9_order_50 (by decide) (by omega) (fun c50 => ?_) (fun c50 => ?_)
  · refine V_iload_n hX dX9_order_125 2 rfl ?_
    refine V_iconst (v := (-1)) hX dX9_order_126 (by decide) ?_
    refine V_icmp_ne (tgt := 144) hX dX9_order_127 (by decide) (fun c127 => ?_) (fun c127 => ?_)
    · refine V_iload_n hX dX9_order_144 2 rfl ?_
      refine V_iconst (v := nI 0) hX dX9_order_145 (by decide) ?_
      refine V_aload_n hX dX9_order_146 0 rfl ?_
      refine V_getN (x := nI L) hX fX9_103 rfl hO.1.2.1.1 dX9_order_147 ?_
      refine V_iconst (v := nI 1) hX dX9_order_150 (by decide) ?_
      refine V_isub hX dX9_order_151 ?_
      refine V_callS (As := [.int q_, .int (nI 0), .int ((nI L) - (nI 1))]) (st := []) hX mX9_75 (k_in ?_) rfl (Nat.le_of_ble_eq_true rfl) (Nat.le_of_ble_eq_true rfl) dX9_order_152
      show V G 8 X 155 [(0, .ref 69), (1, .int (nI 1)), (2, .int q_), (3, .int lv_), (4, .int (nI 0))] [.int (bI (nI 0 ≤ q_ ∧ q_ ≤ (nI L) - (nI 1)))] μ1
      refine V_if_eqB (tgt := 167) hX dX9_order_155 (by decide) (fun c155 => ?_) (fun c155 => ?_)
      · refine V_bipush (v := (-6)) hX dX9_order_167 (by decide) ?_
        refine V_iret hX rfl dX9_order_169 ?_
        exact hR _ _ (by have h9 := hQ μ1 hO.1 hO.2.1; rw [if_neg c127, if_neg c155] at h9; exact h9)
      · obtain ⟨r_, hr, rfl⟩ := inM_nat (by omega) c155
        refine V_aload_n hX dX9_order_158 0 rfl ?_
        refine V_getr (j := 83) hX fX9_59 rfl rfl dX9_order_159 ?_
        refine V_iload_n hX dX9_order_162 2 rfl ?_
        refine V_ialdN (x := nI (a.2 r_)) hX rfl (by omega) (by decide) (hbst hne _ (by omega)) dX9_order_163 ?_
        refine V_goto (tgt := 169) hX dX9_order_164 (by decide) ?_
        refine V_iret hX rfl dX9_order_169 ?_
        exact hR _ _ (by have h9 := hQ μ1 hO.1 hO.2.1; rw [if_neg c127, if_pos c155, nI_clamp (by omega)] at h9; exact h9)
    · refine V_iload_n hX dX9_order_130 1 rfl ?_
      refine V_if_neN (tgt := 138) hX dX9_order_131 (by decide) (by omega) (fun c131 => ?_) (fun c131 => ?_)
      · refine V_sipush (v := nI 10000) hX dX9_order_138 (by decide) ?_
        refine V_iload_n hX dX9_order_141 3 rfl ?_
        refine V_isub hX dX9_order_142 ?_
        refine V_iret hX rfl dX9_order_143 ?_
        exact hR _ _ (by have h9 := hQ μ1 hO.1 hO.2.1; rw [if_pos c127, show ordV P L 1 a.2 = (nI 10000) - lv_ from by show gainI _ = _; rw [hlv2]; unfold ownZ gainI; rw [if_pos rfl, zI_nat, zI_sub]; congr 1; omega] at h9; exact h9)
      · exact absurd c131 (by decide)
  · exact absurd c50 (by decide)
set_option maxRecDepth 100000 in
set_option maxHeartbeats 4000000 in
theorem kM_order1 {G : VG} {d : Nat} {μ : VS} {Q : Option Value → VS → Prop} {P : PC} {L : Nat} {S κ : Nat → Nat} {I : Nat → PC} {q_ : Int32} (hRM : RM μ P L S κ I) (hok : okP P) (hpd : okPad L S) (hQ : ∀ μ', RM μ' P L S κ I → keepC μ μ' → Q (some (.int (orderS P L S (nI 1) q_))) μ') : Call G (d + 6) yX9_order cX9_order 8 (some .int) [.ref 69, .int (nI 1), .int q_] μ Q := by
  intro X hX hR
  have hM := hRM.1
  have hL := hRM.2.1
  have hS := hpd.2
  have hL60 := hpd.1
  have hP4 := hok.2.2.2.2.1
  have h4 := hP4
  show V G 8 X 0 [(0, .ref 69), (1, .int (nI 1)), (2, .int q_)] [] μ
  refine V_iload_n hX dX9_order_0 1 rfl ?_
  refine V_iconst (v := nI 0) hX dX9_order_1 (by decide) ?_
  refine V_iconst (v := nI 1) hX dX9_order_2 (by decide) ?_
  refine V_callS (As := [.int (nI 1), .int (nI 0), .int (nI 1)]) (st := []) hX mX9_75 (k_in ?_) rfl (Nat.le_of_ble_eq_true rfl) (Nat.le_of_ble_eq_true rfl) dX9_order_3
  show V G 8 X 6 [(0, .ref 69), (1, .int (nI 1)), (2, .int q_)] [.int (bI (nI 0 ≤ nI 1 ∧ nI 1 ≤ nI 1))] μ
  refine V_if_neB (tgt := 12) hX dX9_order_6 (by decide) (fun c6 => ?_) (fun c6 => ?_)
  · refine V_aload_n hX dX9_order_12 0 rfl ?_
    refine V_callV (As := []) (st := []) hX mX9_109 rfl (kM_faultOf hL hS hL60 ?_) rfl (Nat.le_of_ble_eq_true rfl) (Nat.le_of_ble_eq_true rfl) dX9_order_13
    show V G 8 X 16 [(0, .ref 69), (1, .int (nI 1)), (2, .int q_)] [.int (fltU S L)] μ
    refine V_if_lt (tgt := 22) hX dX9_order_16 (by decide) (fun c16 => ?_) (fun c16 => ?_)
    · refine V_aload_n hX dX9_order_22 0 rfl ?_
      refine V_getN (x := nI L) hX fX9_103 rfl hL.1 dX9_order_23 ?_
      refine V_bipush (v := nI 7) hX dX9_order_26 (by decide) ?_
      refine V_icmp_leN (tgt := 34) hX dX9_order_28 (by decide) (by omega) (by omega) (fun c28 => ?_) (fun c28 => ?_)
      · refine V_aload_n hX dX9_order_34 0 rfl ?_
        refine V_callV (As := []) (st := []) hX mX9_160 rfl (kM_lay hM hL hL60 (fun μ1 hLy hK1 => ?_)) rfl (Nat.le_of_ble_eq_true rfl) (Nat.le_of_ble_eq_true rfl) dX9_order_35
        show V G 8 X 38 [(0, .ref 69), (1, .int (nI 1)), (2, .int q_)] [] μ1
        have hR1 := hRM.keep hK1
        have hO1 : oInv P L S κ I μ μ1 S := ⟨hR1, hK1.C, hLy.1, hLy.2.1, hLy.2.2.1, hLy.2.2.2⟩
        have hgS : sgs S L := flt_all L (flt_neg L (by omega) c16) (by omega)
        refine V_aload_n hX dX9_order_38 0 rfl ?_
        refine V_callV (As := []) (st := []) hX mX9_176 rfl (kM_sort (n_ := L) (T_ := S) hLy.2.1 hLy.2.2.1 (by omega) (fun i hi => sg_lt (hgS i hi)) (fun μ2 T0 hK2 hs2 ha2 hc2 => ?_)) rfl (Nat.le_of_ble_eq_true rfl) (Nat.le_of_ble_eq_true rfl) dX9_order_39
        show V G 8 X 42 [(0, .ref 69), (1, .int (nI 1)), (2, .int q_)] [] μ2
        refine V_ldc hX kX9_179 dX9_order_42 ?_
        refine V_istore_n (ls' := [(0, .ref 69), (1, .int (nI 1)), (2, .int q_), (3, .int (1000000 : Int32))]) hX dX9_order_44 (by decide) rfl ?_
        refine V_iconst (v := nI 1) hX dX9_order_45 (by decide) ?_
        refine V_istore (ls' := [(0, .ref 69), (1, .int (nI 1)), (2, .int q_), (3, .int (1000000 : Int32)), (4, .int (nI 1))]) hX dX9_order_46 (by decide) rfl ?_
        refine V_iload hX dX9_order_48 4 rfl ?_
        refine V_if_eqN (tgt := 125) hX dX9_order_50 (by decide) (by omega) (fun c50 => ?_) (fun c50 => ?_)
        · exact absurd c50 (by decide)
        · refine V_sub [0, 1, 2, 3] rfl ?_
          have hF := perm_fold (σ := Nat × (Nat → Nat)) (arr := ordG P 1 L) (n := L) (C := fun v => cv S v 0 L) (Hd := fun T a => ∀ μ1 lv_, oInv P L S κ I μ μ1 T → lvO P 1 L (gfW P 1 (fun v => cv S v 0 L)) a lv_ → (a.1 < 1000000 → ∀ i, i < L → μ1.1 83 i = nI (a.2 i)) → V G 8 X 53 [(0, .ref 69), (1, .int (nI 1)), (2, .int q_), (3, .int lv_)] [] μ1) (Gn := fun T a => ∀ μ1 lv_, oInv P L S κ I μ μ1 T → lvO P 1 L (gfW P 1 (fun v => cv S v 0 L)) a lv_ → (a.1 < 1000000 → ∀ i, i < L → μ1.1 83 i = nI (a.2 i)) → V G 8 X 116 [(0, .ref 69), (1, .int (nI 1)), (2, .int q_), (3, .int lv_)] [] μ1) (fun _ => 0) (0 + 7 ^ L) (fun _ _ => Nat.zero_le _) (fun T U_ a _ z1 z2 z3 z4 => ordM_body1 hX hok (by omega) T U_ a z1 z2 z3 z4) (fun T a m z1 z2 z3 z4 z5 z6 => ordM_next1 hX (by omega) T a m z1 z2 z3 z5 z6) L 0 (by omega) T0 S (fun k => cv S (kc k) 0 L) (1000000, S) (fun i hi => absurd hi (by omega)) (fun k _ => hc2 (kc k)) hc2 (sgs_cv hgS hc2) ha2 (Nat.le_refl _) (fun T1 z1 z2 z3 z4 z5 => ordM_end1 hX hR (by omega) T1 _ (ordB_ne hok (by omega) hgS) z5 z4 (fun μ' y1 y2 => ?_))
          · exact hF μ2 _ (hO1.ser hK2 hs2) (Or.inl ⟨rfl, rfl⟩) (fun z => absurd z (Nat.lt_irrefl _))
          · have h9 := hQ μ' y1 y2
            rw [show orderS P L S (nI 1) q_ = _ from (if_pos c6).trans ((if_pos (flt_neg L (by omega) c16)).trans (if_neg (by omega))), show (nI 1).toNatClampNeg = 1 from nI_clamp (by decide)] at h9
            exact h9
      · refine V_bipush (v := (-4)) hX dX9_order_31 (by decide) ?_
        refine V_iret hX rfl dX9_order_33 ?_
        have h9 := hQ μ
        rw [show orderS P L S (nI 1) q_ = (-4) from (if_pos c6).trans ((if_pos (flt_neg L (by omega) c16)).trans (if_pos (by omega)))] at h9
        exact hR _ _ (h9 hRM (keepC.rf μ))
    · refine V_bipush (v := (-5)) hX dX9_order_19 (by decide) ?_
      refine V_iret hX rfl dX9_order_21 ?_
      have h9 := hQ μ
      rw [show orderS P L S (nI 1) q_ = (-5) from (if_pos c6).trans (if_neg (flt_ge hL60 c16))] at h9
      exact hR _ _ (h9 hRM (keepC.rf μ))
  · refine V_bipush (v := (-2)) hX dX9_order_9 (by decide) ?_
    refine V_iret hX rfl dX9_order_11 ?_
    exact absurd (by decide) c6
set_option maxRecDepth 100000 in
set_option maxHeartbeats 4000000 in
theorem kM_order2 {G : VG} {d : Nat} {μ : VS} {Q : Option Value → VS → Prop} {P : PC} {L : Nat} {S κ : Nat → Nat} {I : Nat → PC} {w_ q_ : Int32} (hw : ¬ inZ w_ 0 1) (hRM : RM μ P L S κ I) (hok : okP P) (hpd : okPad L S) (hQ : ∀ μ', RM μ' P L S κ I → keepC μ μ' → Q (some (.int (orderS P L S w_ q_))) μ') : Call G (d + 6) yX9_order cX9_order 8 (some .int) [.ref 69, .int w_, .int q_] μ Q := by
  intro X hX hR
  have hM := hRM.1
  have hL := hRM.2.1
  have hS := hpd.2
  have hL60 := hpd.1
  have hP4 := hok.2.2.2.2.1
  have h4 := hP4
  show V G 8 X 0 [(0, .ref 69), (1, .int w_), (2, .int q_)] [] μ
  refine V_iload_n hX dX9_order_0 1 rfl ?_
  refine V_iconst (v := nI 0) hX dX9_order_1 (by decide) ?_
  refine V_iconst (v := nI 1) hX dX9_order_2 (by decide) ?_
  refine V_callS (As := [.int w_, .int (nI 0), .int (nI 1)]) (st := []) hX mX9_75 (k_in ?_) rfl (Nat.le_of_ble_eq_true rfl) (Nat.le_of_ble_eq_true rfl) dX9_order_3
  show V G 8 X 6 [(0, .ref 69), (1, .int w_), (2, .int q_)] [.int (bI (nI 0 ≤ w_ ∧ w_ ≤ nI 1))] μ
  refine V_if_neB (tgt := 12) hX dX9_order_6 (by decide) (fun c6 => ?_) (fun c6 => ?_)
  · exact absurd c6 hw
  · refine V_bipush (v := (-2)) hX dX9_order_9 (by decide) ?_
    refine V_iret hX rfl dX9_order_11 ?_
    have h9 := hQ μ
    rw [show orderS P L S w_ q_ = -2 from if_neg hw] at h9
    exact hR _ _ (h9 hRM (keepC.rf μ))
theorem kM_order {G : VG} {d : Nat} {μ : VS} {Q : Option Value → VS → Prop} {P : PC} {L : Nat} {S κ : Nat → Nat} {I : Nat → PC} {w_ q_ : Int32} (hRM : RM μ P L S κ I) (hok : okP P) (hpd : okPad L S)  (hQ : ∀ μ', RM μ' P L S κ I → keepC μ μ' → Q (some (.int (orderS P L S w_ q_))) μ') : Call G (d + 6) yX9_order cX9_order 8 (some .int) [.ref 69, .int w_, .int q_] μ Q := by
  by_cases hw : inZ w_ 0 1
  · obtain ⟨j, -, hj, rfl⟩ := nat_of_in (by decide) (by decide) hw
    rcases (by omega : j = 0 ∨ j = 1) with e | e <;> subst e
    · exact kM_order0 hRM hok hpd hQ
    · exact kM_order1 hRM hok hpd hQ
  · exact kM_order2 hw hRM hok hpd hQ
