theorem lgN_add (a b : Nat) : lgN a + lgN b = lgN (a + b) := (Int64.ofNat_add a b).symm
theorem lgN_mul (a b : Nat) : lgN a * lgN b = lgN (a * b) := (Int64.ofNat_mul a b).symm
theorem lgN_toInt {n : Nat} (h : n < 2 ^ 63) : (lgN n).toInt = n := Int64.toInt_ofNat_of_lt h
theorem lgN_i2l {n : Nat} (h : n < 2 ^ 31) : (nI n).toInt64 = lgN n := by
  apply Int64.toInt_inj.mp
  rw [Int32.toInt_toInt64, nI_toInt h, lgN_toInt (by omega)]
theorem lgN_div {a b : Nat} (ha : a < 2 ^ 63) (hb : b < 2 ^ 63) (h0 : 0 < b) : lgN a / lgN b = lgN (a / b) := by
  apply Int64.toInt_inj.mp
  have hne : ¬ lgN b = -1 := fun e => by
    have := congrArg Int64.toInt e
    have e2 : (-1 : Int64).toInt = -1 := by decide
    rw [lgN_toInt hb, e2] at this
    omega
  rw [Int64.toInt_div_of_ne_right _ _ hne, lgN_toInt ha, lgN_toInt hb, lgN_toInt (Nat.lt_of_le_of_lt (Nat.div_le_self a b) ha)]
  exact Int.ofNat_tdiv a b
theorem lgN_0 {b : Nat} (hb : b < 2 ^ 63) (h0 : 0 < b) : ¬ lgN b = 0 := fun e => by
  have := congrArg Int64.toInt e
  rw [lgN_toInt hb] at this
  have e2 : (0 : Int64).toInt = 0 := by decide
  rw [e2] at this
  omega
theorem lgN_mod {a b : Nat} (ha : a < 2 ^ 63) (hb : b < 2 ^ 63) (h0 : 0 < b) : lgN a - lgN a / lgN b * lgN b = lgN (a % b) := by
  rw [lgN_div ha hb h0, lgN_mul]
  have h1 := Nat.div_add_mod a b
  rw [Nat.mul_comm] at h1
  have h2 : lgN a = lgN (a / b * b) + lgN (a % b) := by rw [lgN_add, h1]
  rw [h2, Int64.add_comm, Int64.add_sub_cancel]
section VLN
variable {G : VG} {d nL pc : Nat} {y : MethodName} {cc : ByteArray} {rt : Option FieldType} {X : VX} {ls : VL} {st : List Value} {μ : VS} {a b : Nat}
theorem V_laddN (hX : Cx G d y cc nL rt X) (hd : decode cc pc = .ok (.ladd, 1)) (k : V G nL X (pc + 1) ls (.long (lgN (a + b)) :: st) μ) : V G nL X pc ls (.long (lgN b) :: .long (lgN a) :: st) μ := V_ladd hX hd (by rw [lgN_add]; exact k)
theorem V_lmulN (hX : Cx G d y cc nL rt X) (hd : decode cc pc = .ok (.lmul, 1)) (k : V G nL X (pc + 1) ls (.long (lgN (a * b)) :: st) μ) : V G nL X pc ls (.long (lgN b) :: .long (lgN a) :: st) μ := V_lmul hX hd (by rw [lgN_mul]; exact k)
theorem V_ldivN (hX : Cx G d y cc nL rt X) (hd : decode cc pc = .ok (.ldiv, 1)) (h : a < 2 ^ 63 ∧ b < 2 ^ 63 ∧ 0 < b) (k : V G nL X (pc + 1) ls (.long (lgN (a / b)) :: st) μ) : V G nL X pc ls (.long (lgN b) :: .long (lgN a) :: st) μ := V_ldiv hX hd (lgN_0 h.2.1 h.2.2) (by rw [lgN_div h.1 h.2.1 h.2.2]; exact k)
theorem V_lremN (hX : Cx G d y cc nL rt X) (hd : decode cc pc = .ok (.lrem, 1)) (h : a < 2 ^ 63 ∧ b < 2 ^ 63 ∧ 0 < b) (k : V G nL X (pc + 1) ls (.long (lgN (a % b)) :: st) μ) : V G nL X pc ls (.long (lgN b) :: .long (lgN a) :: st) μ := V_lrem hX hd (lgN_0 h.2.1 h.2.2) (by rw [lgN_mod h.1 h.2.1 h.2.2]; exact k)
theorem V_i2lN (hX : Cx G d y cc nL rt X) (hd : decode cc pc = .ok (.i2l, 1)) (h : a < 2 ^ 31) (k : V G nL X (pc + 1) ls (.long (lgN a) :: st) μ) : V G nL X pc ls (.int (nI a) :: st) μ := V_i2l hX hd (by rw [lgN_i2l h]; exact k)
theorem V_getlN {i ci q n : Nat} {x : Int64} (hX : Cx G d y cc nL rt X) (hf : vFL y.cls n ci q (1, 0)) (hk : vk i = (ci, 0)) (hv : μ.2 i q = x) (hd : decode cc pc = .ok (.getfield n, 3)) (k : V G nL X (pc + 3) ls (.long x :: st) μ) : V G nL X pc ls (.ref i :: st) μ := V_getl hX hf hk hd (by rw [hv]; exact k)
end VLN
def cw (P : PC) (S : Nat → Nat) (t : Nat) (f : MW → Nat) : Nat → Nat → MW → Nat → Nat
  | 0, _, u, w => w * f u
  | j + 1, m, u, w => cw P S t f j (m + 1) (mwStep P (S m) true u) (w * t) + cw P S t f j (m + 1) (mwStep P (S m) false u) (w * (10 - t))
theorem cw_0 {P : PC} {S : Nat → Nat} {t : Nat} {f : MW → Nat} : ∀ j m u, cw P S t f j m u 0 = 0
  | 0, _, _ => Nat.zero_mul _
  | j + 1, m, u => by unfold cw; rw [Nat.zero_mul, Nat.zero_mul, cw_0 j, cw_0 j]
def fA (u : MW) : Nat := if u.2.2.2 7 = 0 then 1 else 0
def fB (u : MW) : Nat := u.2.2.2 7
def clF (w : Nat) : MW → Nat := if w = 0 then fA else fB
def clU (P : PC) (L : Nat) (S : Nat → Nat) (t w : Nat) : Nat := cw P S t (clF w) L 0 (mw0 P) 1
def coldV (up low q : Nat) : Nat := (if q = 0 then up else low) / Nat.gcd up low
def coldS (P : PC) (L : Nat) (S : Nat → Nat) (t w q : Int32) : Int64 := if inZ t 0 10 ∧ inZ w 0 1 ∧ inZ q 0 1 then (if fltU S L = -6 then (if 10 < L then (-1000000000000000004 : Int64) else lgN (coldV (clU P L S t.toNatClampNeg w.toNatClampNeg) (10 ^ L) q.toNatClampNeg)) else (-1000000000000000005 : Int64)) else (-1000000000000000002 : Int64)
/-- the greatest common divisor, by so many steps -/
def eg : Nat → Nat → Nat → Nat
  | 0, x, _ => x
  | j + 1, x, y => if y = 0 then x else eg j y (x % y)
theorem eg_gcd : ∀ k j x y, y < 2 ^ k → 2 * k + 1 ≤ j → eg j x y = Nat.gcd x y
  | 0, j + 1, x, y, h, _ => by
    obtain rfl : y = 0 := by omega
    unfold eg
    rw [if_pos rfl, Nat.gcd_zero_right]
  | k + 1, j + 2, x, y, h, hj => by
    have st : ∀ x y : Nat, Nat.gcd x y = Nat.gcd y (x % y) := fun x y => by rw [Nat.gcd_comm x y, Nat.gcd_rec y x, Nat.gcd_comm]
    unfold eg
    by_cases e : y = 0
    · rw [if_pos e, e, Nat.gcd_zero_right]
    · rw [if_neg e, st]
      unfold eg
      by_cases e2 : x % y = 0
      · rw [if_pos e2, e2, Nat.gcd_zero_right]
      · rw [if_neg e2, st y]
        refine eg_gcd k j _ _ ?_ (by omega)
        have h1 : x % y < y := Nat.mod_lt _ (by omega)
        have h2 : y % (x % y) < x % y := Nat.mod_lt _ (by omega)
        have h3 : 2 ^ (k + 1) = 2 * 2 ^ k := by rw [Nat.pow_succ, Nat.mul_comm]
        by_cases c : 2 * (x % y) ≤ y
        · omega
        · have h4 : y % (x % y) = y - x % y := by
            have h5 : y = (y - x % y) + x % y := by omega
            have h6 : (y - x % y) % (x % y) = y - x % y := Nat.mod_eq_of_lt (by omega)
            calc y % (x % y) = ((y - x % y) + x % y) % (x % y) := by rw [← h5]
              _ = (y - x % y) % (x % y) := Nat.add_mod_right _ _
              _ = y - x % y := h6
          omega
theorem cmp0N {a : Nat} (ha : a < 2 ^ 63) : lg_cmp (lgN a) (lgN 0) = 0 ↔ a = 0 := by
  rw [cmp0, lgN_inj ha (by decide)]
theorem cmp1N {a : Nat} (ha : a < 2 ^ 63) : lg_cmp (lgN a) (lgN 1) ≤ 0 ↔ a ≤ 1 := by
  unfold lg_cmp
  have h : lgN a > lgN 1 ↔ 1 < a := by
    show lgN 1 < lgN a ↔ _
    rw [Int64.lt_iff_toInt_lt, lgN_toInt ha, lgN_toInt (by decide)]
    omega
  by_cases c : 1 < a
  · rw [if_pos (h.mpr c)]
    exact ⟨fun z => absurd z (by decide), fun z => by omega⟩
  · rw [if_neg (fun z => c (h.mp z))]
    by_cases e : lgN a = lgN 1
    · rw [if_pos e]; exact ⟨fun _ => by omega, fun _ => by decide⟩
    · rw [if_neg e]; exact ⟨fun _ => by omega, fun _ => by decide⟩
theorem wk_step {m : Nat} (h : m ≤ 10) : vk (34 + 2 * m) = (5, 0) := by
  have key : ∀ m : Fin 11, vk (34 + 2 * m.val) = (5, 0) := by decide +kernel
  exact key ⟨m, by omega⟩
set_option maxRecDepth 100000 in
set_option maxHeartbeats 4000000 in
theorem lp_gcd {G : VG} {d : Nat} {μ : VS} {Q : Option Value → VS → Prop} {X : VX} (hX : Cx G d yX8_commonDivisor cX8_commonDivisor 7 (some .long) X) (hR : ∀ r μ', Q r μ' → Ret G X r μ') : ∀ (j i_ x_ y_ : Nat), i_ + j = 200 → x_ < 2 ^ 63 → y_ < 2 ^ 63 → Q (some (.long (lgN (eg j x_ y_)))) μ → V G 7 X 3 [(0, .long (lgN x_)), (2, .long (lgN y_)), (4, .int (nI i_))] [] μ := by
  intro j
  induction j with
  | zero =>
    intro i_ x_ y_ h1 hx hy hq
    refine V_iload hX dX8_commonDivisor_3 2 rfl ?_
    refine V_sipush (v := nI 200) hX dX8_commonDivisor_5 (by decide) ?_
    refine V_icmp_geN (tgt := 33) hX dX8_commonDivisor_8 (by decide) (by omega) (by omega) (fun c8 => ?_) (fun c8 => ?_)
    · refine V_lload_n hX dX8_commonDivisor_33 0 rfl ?_
      refine V_lret hX rfl dX8_commonDivisor_34 ?_
      exact hR _ _ hq
    · exact absurd c8 (by omega)
  | succ j ih =>
    intro i_ x_ y_ h1 hx hy hq
    refine V_iload hX dX8_commonDivisor_3 2 rfl ?_
    refine V_sipush (v := nI 200) hX dX8_commonDivisor_5 (by decide) ?_
    refine V_icmp_geN (tgt := 33) hX dX8_commonDivisor_8 (by decide) (by omega) (by omega) (fun c8 => ?_) (fun c8 => ?_)
    · exact absurd c8 (by omega)
    · refine V_lload_n hX dX8_commonDivisor_11 1 rfl ?_
      refine V_lconst (v := lgN 0) hX dX8_commonDivisor_12 (by decide) ?_
      refine V_lcmp hX dX8_commonDivisor_13 ?_
      refine V_if_eq (tgt := 33) hX dX8_commonDivisor_14 (by decide) (fun c14 => ?_) (fun c14 => ?_)
      · refine V_lload_n hX dX8_commonDivisor_33 0 rfl ?_
        refine V_lret hX rfl dX8_commonDivisor_34 ?_
        rw [show eg (j + 1) x_ y_ = _ from if_pos ((cmp0N hy).mp c14)] at hq
        exact hR _ _ hq
      · refine V_lload_n hX dX8_commonDivisor_17 0 rfl ?_
        refine V_lload_n hX dX8_commonDivisor_18 1 rfl ?_
        refine V_lremN hX dX8_commonDivisor_19 ⟨hx, hy, Nat.pos_of_ne_zero (fun z => c14 ((cmp0N hy).mpr z))⟩ ?_
        refine V_lstore (ls' := [(0, .long (lgN x_)), (2, .long (lgN y_)), (4, .int (nI i_)), (5, .long (lgN (x_ % y_)))]) hX dX8_commonDivisor_20 (by decide) rfl ?_
        refine V_lload_n hX dX8_commonDivisor_22 1 rfl ?_
        refine V_lstore_n (ls' := [(0, .long (lgN y_)), (2, .long (lgN y_)), (4, .int (nI i_)), (5, .long (lgN (x_ % y_)))]) hX dX8_commonDivisor_23 (by decide) rfl ?_
        refine V_lload hX dX8_commonDivisor_24 3 rfl ?_
        refine V_lstore_n (ls' := [(0, .long (lgN y_)), (2, .long (lgN (x_ % y_))), (4, .int (nI i_)), (5, .long (lgN (x_ % y_)))]) hX dX8_commonDivisor_26 (by decide) rfl ?_
        refine V_iincN (n := 1) (ls' := [(0, .long (lgN y_)), (2, .long (lgN (x_ % y_))), (4, .int (nI (i_ + 1))), (5, .long (lgN (x_ % y_)))]) hX dX8_commonDivisor_27 2 rfl (by decide) rfl ?_
        refine V_goto (tgt := 3) hX dX8_commonDivisor_30 (by decide) ?_
        rw [show eg (j + 1) x_ y_ = _ from if_neg (fun z => c14 ((cmp0N hy).mpr z))] at hq
        exact V_sub [0, 1, 2] rfl (ih (i_ + 1) y_ (x_ % y_) (by omega) hy (Nat.lt_of_le_of_lt (Nat.mod_le _ _) hx) hq)
set_option maxRecDepth 100000 in
set_option maxHeartbeats 4000000 in
theorem k_gcd {G : VG} {d : Nat} {μ : VS} {Q : Option Value → VS → Prop} {x_ y_ : Nat} (hx : x_ < 2 ^ 63) (hy : y_ < 2 ^ 63) (hQ : Q (some (.long (lgN (Nat.gcd x_ y_)))) μ) : Call G d yX8_commonDivisor cX8_commonDivisor 7 (some .long) [.long (lgN x_), .long (lgN y_)] μ Q := by
  intro X hX hR
  show V G 7 X 0 [(0, .long (lgN x_)), (2, .long (lgN y_))] [] μ
  refine V_iconst (v := nI 0) hX dX8_commonDivisor_0 (by decide) ?_
  refine V_istore (ls' := [(0, .long (lgN x_)), (2, .long (lgN y_)), (4, .int (nI 0))]) hX dX8_commonDivisor_1 (by decide) rfl ?_
  exact lp_gcd hX hR 200 0 x_ y_ rfl hx hy (by rw [eg_gcd 63 200 x_ y_ hy (by decide)]; exact hQ)
set_option maxRecDepth 100000 in
set_option maxHeartbeats 4000000 in
theorem k_lowest0 {G : VG} {d : Nat} {μ : VS} {Q : Option Value → VS → Prop} {x_ y_ : Nat} (hx : x_ < 2 ^ 63) (hy : y_ < 2 ^ 63) (hy0 : 0 < y_) (hQ : Q (some (.long (lgN (coldV x_ y_ 0)))) μ) : Call G (d + 1) yX8_lowestTerms cX8_lowestTerms 9 (some .long) [.long (lgN x_), .long (lgN y_), .int (nI 0)] μ Q := by
  intro X hX hR
  have hg0 : 0 < Nat.gcd x_ y_ := Nat.gcd_pos_of_pos_right _ hy0
  have hg : Nat.gcd x_ y_ < 2 ^ 63 := Nat.lt_of_le_of_lt (Nat.le_of_dvd hy0 (Nat.gcd_dvd_right _ _)) hy
  show V G 9 X 0 [(0, .long (lgN x_)), (2, .long (lgN y_)), (4, .int (nI 0))] [] μ
  refine V_lload_n hX dX8_lowestTerms_0 0 rfl ?_
  refine V_lload_n hX dX8_lowestTerms_1 1 rfl ?_
  refine V_callS (As := [.long (lgN x_), .long (lgN y_)]) (st := []) hX mX8_333 (k_gcd hx hy ?_) rfl (Nat.le_of_ble_eq_true rfl) (Nat.le_of_ble_eq_true rfl) dX8_lowestTerms_2
  show V G 9 X 5 [(0, .long (lgN x_)), (2, .long (lgN y_)), (4, .int (nI 0))] [.long (lgN (Nat.gcd x_ y_))] μ
  refine V_lstore (ls' := [(0, .long (lgN x_)), (2, .long (lgN y_)), (4, .int (nI 0)), (5, .long (lgN (Nat.gcd x_ y_)))]) hX dX8_lowestTerms_5 (by decide) rfl ?_
  refine V_iload hX dX8_lowestTerms_7 2 rfl ?_
  refine V_if_neN (tgt := 16) hX dX8_lowestTerms_9 (by decide) (by omega) (fun c9 => ?_) (fun c9 => ?_)
  · exact absurd c9 (by decide)
  · refine V_lload_n hX dX8_lowestTerms_12 0 rfl ?_
    refine V_goto (tgt := 17) hX dX8_lowestTerms_13 (by decide) ?_
    refine V_lstore (ls' := [(0, .long (lgN x_)), (2, .long (lgN y_)), (4, .int (nI 0)), (5, .long (lgN (Nat.gcd x_ y_))), (7, .long (lgN x_))]) hX dX8_lowestTerms_17 (by decide) rfl ?_
    refine V_lload hX dX8_lowestTerms_19 3 rfl ?_
    refine V_lconst (v := lgN 1) hX dX8_lowestTerms_21 (by decide) ?_
    refine V_lcmp hX dX8_lowestTerms_22 ?_
    refine V_if_le (tgt := 34) hX dX8_lowestTerms_23 (by decide) (fun c23 => ?_) (fun c23 => ?_)
    · refine V_lload hX dX8_lowestTerms_34 4 rfl ?_
      refine V_lret hX rfl dX8_lowestTerms_36 ?_
      exact hR _ _ (by rw [show coldV x_ y_ 0 = x_ from by show x_ / _ = _; rw [show Nat.gcd x_ y_ = 1 by have := (cmp1N hg).mp c23; omega, Nat.div_one]] at hQ; exact hQ)
    · refine V_lload hX dX8_lowestTerms_26 4 rfl ?_
      refine V_lload hX dX8_lowestTerms_28 3 rfl ?_
      refine V_ldivN hX dX8_lowestTerms_30 ⟨hx, hg, by omega⟩ ?_
      refine V_goto (tgt := 36) hX dX8_lowestTerms_31 (by decide) ?_
      refine V_lret hX rfl dX8_lowestTerms_36 ?_
      exact hR _ _ hQ
set_option maxRecDepth 100000 in
set_option maxHeartbeats 4000000 in
theorem k_lowest1 {G : VG} {d : Nat} {μ : VS} {Q : Option Value → VS → Prop} {x_ y_ : Nat} (hx : x_ < 2 ^ 63) (hy : y_ < 2 ^ 63) (hy0 : 0 < y_) (hQ : Q (some (.long (lgN (coldV x_ y_ 1)))) μ) : Call G (d + 1) yX8_lowestTerms cX8_lowestTerms 9 (some .long) [.long (lgN x_), .long (lgN y_), .int (nI 1)] μ Q := by
  intro X hX hR
  have hg0 : 0 < Nat.gcd x_ y_ := Nat.gcd_pos_of_pos_right _ hy0
  have hg : Nat.gcd x_ y_ < 2 ^ 63 := Nat.lt_of_le_of_lt (Nat.le_of_dvd hy0 (Nat.gcd_dvd_right _ _)) hy
  show V G 9 X 0 [(0, .long (lgN x_)), (2, .long (lgN y_)), (4, .int (nI 1))] [] μ
  refine V_lload_n hX dX8_lowestTerms_0 0 rfl ?_
  refine V_lload_n hX dX8_lowestTerms_1 1 rfl ?_
  refine V_callS (As := [.long (lgN x_), .long (lgN y_)]) (st := []) hX mX8_333 (k_gcd hx hy ?_) rfl (Nat.le_of_ble_eq_true rfl) (Nat.le_of_ble_eq_true rfl) dX8_lowestTerms_2
  show V G 9 X 5 [(0, .long (lgN x_)), (2, .long (lgN y_)), (4, .int (nI 1))] [.long (lgN (Nat.gcd x_ y_))] μ
  refine V_lstore (ls' := [(0, .long (lgN x_)), (2, .long (lgN y_)), (4, .int (nI 1)), (5, .long (lgN (Nat.gcd x_ y_)))]) hX dX8_lowestTerms_5 (by decide) rfl ?_
  refine V_iload hX dX8_lowestTerms_7 2 rfl ?_
  refine V_if_neN (tgt := 16) hX dX8_lowestTerms_9 (by decide) (by omega) (fun c9 => ?_) (fun c9 => ?_)
  · refine V_lload_n hX dX8_lowestTerms_16 1 rfl ?_
    refine V_lstore (ls' := [(0, .long (lgN x_)), (2, .long (lgN y_)), (4, .int (nI 1)), (5, .long (lgN (Nat.gcd x_ y_))), (7, .long (lgN y_))]) hX dX8_lowestTerms_17 (by decide) rfl ?_
    refine V_lload hX dX8_lowestTerms_19 3 rfl ?_
    refine V_lconst (v := lgN 1) hX dX8_lowestTerms_21 (by decide) ?_
    refine V_lcmp hX dX8_lowestTerms_22 ?_
    refine V_if_le (tgt := 34) hX dX8_lowestTerms_23 (by decide) (fun c23 => ?_) (fun c23 => ?_)
    · refine V_lload hX dX8_lowestTerms_34 4 rfl ?_
      refine V_lret hX rfl dX8_lowestTerms_36 ?_
      exact hR _ _ (by rw [show coldV x_ y_ 1 = y_ from by show y_ / _ = _; rw [show Nat.gcd x_ y_ = 1 by have := (cmp1N hg).mp c23; omega, Nat.div_one]] at hQ; exact hQ)
    · refine V_lload hX dX8_lowestTerms_26 4 rfl ?_
      refine V_lload hX dX8_lowestTerms_28 3 rfl ?_
      refine V_ldivN hX dX8_lowestTerms_30 ⟨hy, hg, by omega⟩ ?_
      refine V_goto (tgt := 36) hX dX8_lowestTerms_31 (by decide) ?_
      refine V_lret hX rfl dX8_lowestTerms_36 ?_
      exact hR _ _ hQ
  · exact absurd c9 (by decide)
theorem k_lowest {G : VG} {d : Nat} {μ : VS} {Q : Option Value → VS → Prop} {x_ y_ b_ : Nat} (hb : b_ ≤ 1) (hx : x_ < 2 ^ 63) (hy : y_ < 2 ^ 63) (hy0 : 0 < y_) (hQ : Q (some (.long (lgN (coldV x_ y_ b_)))) μ) : Call G (d + 1) yX8_lowestTerms cX8_lowestTerms 9 (some .long) [.long (lgN x_), .long (lgN y_), .int (nI b_)] μ Q := by
  rcases (by omega : b_ = 0 ∨ b_ = 1) with e | e <;> subst e
  · exact k_lowest0 hx hy hy0 hQ
  · exact k_lowest1 hx hy hy0 hQ
/-- what going on from a minute leaves behind -/
def wgo (P : PC) (L : Nat) (S κ : Nat → Nat) (I : Nat → PC) (t m : Nat) (A B : Nat) (μ μ' : VS) : Prop := (∀ a, a < 36 + 2 * m ∨ 56 ≤ a → μ'.1 a = μ.1 a) ∧ μ'.2 64 0 = lgN A ∧ μ'.2 64 1 = lgN B ∧ μ'.2 64 2 = μ.2 64 2
theorem step7 {P : PC} {sg : Nat} {co : Bool} {u : MW} {m : Nat} (h : u.2.2.2 7 ≤ 8 * m) : (mwStep P sg co u).2.2.2 7 ≤ 8 * (m + 1) := by
  show _ + cnt _ 8 ≤ _
  have := cnt_le (nodF P (mwL1 P sg co u)) 8
  omega
theorem wmul {w m t : Nat} (h : w ≤ 10 ^ m) (ht : t ≤ 10) : w * t ≤ 10 ^ (m + 1) := by
  rw [Nat.pow_succ]
  exact Nat.mul_le_mul h ht
theorem w63 {w m : Nat} (h : w ≤ 10 ^ m) (hm : m ≤ 10) : w < 2 ^ 63 := Nat.lt_of_le_of_lt (Nat.le_trans h (Nat.pow_le_pow_right (by decide) hm)) (by decide)
set_option maxRecDepth 100000 in
set_option maxHeartbeats 4000000 in
theorem k_wgo {G : VG} {d : Nat} {P : PC} {L : Nat} {S κ : Nat → Nat} {I : Nat → PC} {t_ : Nat} (hok : okP P) (hpd : okPad L S) (hL10 : L ≤ 10) (ht : t_ ≤ 10) : ∀ (j m_ : Nat) (u_ : MW) (w_ A_ B_ : Nat) {μ : VS} {Q : Option Value → VS → Prop} (hw : w_ ≤ 10 ^ m_) (hT7 : u_.2.2.2 7 ≤ 8 * m_), m_ + j = L → okU u_ m_ → RC μ P L S κ I → isW μ (34 + 2 * m_) u_ → μ.1 64 3 = nI t_ → μ.2 64 0 = lgN A_ → μ.2 64 1 = lgN B_ → (∀ μ', wgo P L S κ I t_ m_ (A_ + cw P S t_ fA j m_ u_ w_) (B_ + cw P S t_ fB j m_ u_ w_) μ μ' → Q none μ') → Call G (d + j + 4) yX7_goOn cX7_goOn 9 none [.ref 64, .ref 1, .ref 31, .ref 33, .int (nI m_), .long (lgN w_)] μ Q := by
  have hS := hpd.2
  intro j
  induction j with
  | zero =>
    intro m_ u_ w_ A_ B_ μ Q hw hT7 hm hu hRC hU hct hA hB hQ
    obtain rfl : m_ = L := by omega
    intro X hX hR
    show V G 9 X 0 [(0, .ref 64), (1, .ref 1), (2, .ref 31), (3, .ref 33), (4, .int (nI m_)), (5, .long (lgN w_))] [] μ
    refine V_lload hX dX7_goOn_0 5 rfl ?_
    refine V_lconst (v := lgN 0) hX dX7_goOn_2 (by decide) ?_
    refine V_lcmp hX dX7_goOn_3 ?_
    refine V_if_ne (tgt := 8) hX dX7_goOn_4 (by decide) (fun c4 => ?_) (fun c4 => ?_)
    · refine V_aload_n hX dX7_goOn_8 3 rfl ?_
      refine V_iload hX dX7_goOn_9 4 rfl ?_
      refine V_waldN (r := 34 + 2 * m_) hX rfl (by first | omega | (have := hT7; omega)) (by decide) rfl dX7_goOn_11 ?_
      refine V_astore (ls' := [(0, .ref 64), (1, .ref 1), (2, .ref 31), (3, .ref 33), (4, .int (nI m_)), (5, .long (lgN w_)), (7, .ref (34 + 2 * m_))]) hX dX7_goOn_12 (by decide) rfl ?_
      refine V_iload hX dX7_goOn_14 4 rfl ?_
      refine V_aload_n hX dX7_goOn_16 2 rfl ?_
      refine V_getN (x := nI m_) hX fX7_25 rfl hRC.2.1.1 dX7_goOn_17 ?_
      refine V_icmp_geN (tgt := 30) hX dX7_goOn_20 (by decide) (by first | omega | (have := hT7; omega)) (by first | omega | (have := hT7; omega)) (fun c20 => ?_) (fun c20 => ?_)
      · refine V_aload_n hX dX7_goOn_30 0 rfl ?_
        refine V_dup hX dX7_goOn_31 rfl ?_
        refine V_getlN (x := lgN A_) hX fX7_9 rfl hA dX7_goOn_32 ?_
        refine V_aload hX dX7_goOn_35 6 rfl ?_
        refine V_getN (x := nI (u_.2.2.2 7)) hX fX7_42 (wk_step (by omega)) (hU.2.2.2 7 (by decide) (by decide)) dX7_goOn_37 ?_
        refine V_if_neN (tgt := 48) hX dX7_goOn_40 (by decide) (by first | omega | (have := hT7; omega)) (fun c40 => ?_) (fun c40 => ?_)
        · refine V_lconst (v := lgN 0) hX dX7_goOn_48 (by decide) ?_
          refine V_laddN hX dX7_goOn_49 ?_
          refine V_putl hX fX7_9 fw_6_0 rfl dX7_goOn_50 ?_
          show V G 9 X 53 [(0, .ref 64), (1, .ref 1), (2, .ref 31), (3, .ref 33), (4, .int (nI m_)), (5, .long (lgN w_)), (7, .ref (34 + 2 * m_))] [] (μ.1, vup μ.2 64 0 (lgN (A_ + 0)))
          refine V_aload_n hX dX7_goOn_53 0 rfl ?_
          refine V_dup hX dX7_goOn_54 rfl ?_
          refine V_getlN (x := lgN B_) hX fX7_15 rfl hB dX7_goOn_55 ?_
          refine V_lload hX dX7_goOn_58 5 rfl ?_
          refine V_aload hX dX7_goOn_60 6 rfl ?_
          refine V_getN (x := nI (u_.2.2.2 7)) hX fX7_42 (wk_step (by omega)) (hU.2.2.2 7 (by decide) (by decide)) dX7_goOn_62 ?_
          refine V_i2lN hX dX7_goOn_65 (by first | omega | (have := hT7; omega)) ?_
          refine V_lmulN hX dX7_goOn_66 ?_
          refine V_laddN hX dX7_goOn_67 ?_
          refine V_putl hX fX7_15 fw_6_1 rfl dX7_goOn_68 ?_
          show V G 9 X 71 [(0, .ref 64), (1, .ref 1), (2, .ref 31), (3, .ref 33), (4, .int (nI m_)), (5, .long (lgN w_)), (7, .ref (34 + 2 * m_))] [] (μ.1, vup (vup μ.2 64 0 (lgN (A_ + 0))) 64 1 (lgN (B_ + (w_ * (u_.2.2.2 7)))))
          refine V_vret hX rfl dX7_goOn_71 ?_
          exact hR _ _ (hQ _ ⟨fun _ _ => rfl, by show _ = lgN (A_ + w_ * (if _ then 1 else 0)); rw [if_neg c40, Nat.mul_zero]; rfl, rfl, rfl⟩)
        · refine V_lload hX dX7_goOn_43 5 rfl ?_
          refine V_goto (tgt := 49) hX dX7_goOn_45 (by decide) ?_
          refine V_laddN hX dX7_goOn_49 ?_
          refine V_putl hX fX7_9 fw_6_0 rfl dX7_goOn_50 ?_
          show V G 9 X 53 [(0, .ref 64), (1, .ref 1), (2, .ref 31), (3, .ref 33), (4, .int (nI m_)), (5, .long (lgN w_)), (7, .ref (34 + 2 * m_))] [] (μ.1, vup μ.2 64 0 (lgN (A_ + w_)))
          refine V_aload_n hX dX7_goOn_53 0 rfl ?_
          refine V_dup hX dX7_goOn_54 rfl ?_
          refine V_getlN (x := lgN B_) hX fX7_15 rfl hB dX7_goOn_55 ?_
          refine V_lload hX dX7_goOn_58 5 rfl ?_
          refine V_aload hX dX7_goOn_60 6 rfl ?_
          refine V_getN (x := nI (u_.2.2.2 7)) hX fX7_42 (wk_step (by omega)) (hU.2.2.2 7 (by decide) (by decide)) dX7_goOn_62 ?_
          refine V_i2lN hX dX7_goOn_65 (by first | omega | (have := hT7; omega)) ?_
          refine V_lmulN hX dX7_goOn_66 ?_
          refine V_laddN hX dX7_goOn_67 ?_
          refine V_putl hX fX7_15 fw_6_1 rfl dX7_goOn_68 ?_
          show V G 9 X 71 [(0, .ref 64), (1, .ref 1), (2, .ref 31), (3, .ref 33), (4, .int (nI m_)), (5, .long (lgN w_)), (7, .ref (34 + 2 * m_))] [] (μ.1, vup (vup μ.2 64 0 (lgN (A_ + w_))) 64 1 (lgN (B_ + (w_ * (u_.2.2.2 7)))))
          refine V_vret hX rfl dX7_goOn_71 ?_
          exact hR _ _ (hQ _ ⟨fun _ _ => rfl, by show _ = lgN (A_ + w_ * (if _ then 1 else 0)); rw [if_pos c40, Nat.mul_one]; rfl, rfl, rfl⟩)
      · exact absurd c20 (by omega)
    · refine V_vret hX rfl dX7_goOn_7 ?_
      exact hR _ _ (hQ μ ⟨fun _ _ => rfl, by rw [(lgN_inj (w63 hw (by omega)) (by decide)).mp (cmp0.mp c4), cw_0]; exact hA, by rw [(lgN_inj (w63 hw (by omega)) (by decide)).mp (cmp0.mp c4), cw_0]; exact hB, rfl⟩)
  | succ j ih =>
    intro m_ u_ w_ A_ B_ μ Q hw hT7 hm hu hRC hU hct hA hB hQ
    intro X hX hR
    show V G 9 X 0 [(0, .ref 64), (1, .ref 1), (2, .ref 31), (3, .ref 33), (4, .int (nI m_)), (5, .long (lgN w_))] [] μ
    refine V_lload hX dX7_goOn_0 5 rfl ?_
    refine V_lconst (v := lgN 0) hX dX7_goOn_2 (by decide) ?_
    refine V_lcmp hX dX7_goOn_3 ?_
    refine V_if_ne (tgt := 8) hX dX7_goOn_4 (by decide) (fun c4 => ?_) (fun c4 => ?_)
    · refine V_aload_n hX dX7_goOn_8 3 rfl ?_
      refine V_iload hX dX7_goOn_9 4 rfl ?_
      refine V_waldN (r := 34 + 2 * m_) hX rfl (by first | omega | (have := hT7; omega)) (by decide) rfl dX7_goOn_11 ?_
      refine V_astore (ls' := [(0, .ref 64), (1, .ref 1), (2, .ref 31), (3, .ref 33), (4, .int (nI m_)), (5, .long (lgN w_)), (7, .ref (34 + 2 * m_))]) hX dX7_goOn_12 (by decide) rfl ?_
      refine V_iload hX dX7_goOn_14 4 rfl ?_
      refine V_aload_n hX dX7_goOn_16 2 rfl ?_
      refine V_getN (x := nI L) hX fX7_25 rfl hRC.2.1.1 dX7_goOn_17 ?_
      refine V_icmp_geN (tgt := 30) hX dX7_goOn_20 (by decide) (by first | omega | (have := hT7; omega)) (by first | omega | (have := hT7; omega)) (fun c20 => ?_) (fun c20 => ?_)
      · exact absurd c20 (by omega)
      · refine V_iload hX dX7_goOn_23 4 rfl ?_
        refine V_bipush (v := nI 10) hX dX7_goOn_25 (by decide) ?_
        refine V_icmp_ltN (tgt := 72) hX dX7_goOn_27 (by decide) (by first | omega | (have := hT7; omega)) (by first | omega | (have := hT7; omega)) (fun c27 => ?_) (fun c27 => ?_)
        · refine V_aload_n hX dX7_goOn_72 3 rfl ?_
          refine V_iload hX dX7_goOn_73 4 rfl ?_
          refine V_iconst (v := nI 1) hX dX7_goOn_75 (by decide) ?_
          refine V_iaddN hX dX7_goOn_76 ?_
          refine V_waldN (r := 34 + 2 * (m_ + 1)) hX rfl (by first | omega | (have := hT7; omega)) (by decide) rfl dX7_goOn_77 ?_
          refine V_astore (ls' := [(0, .ref 64), (1, .ref 1), (2, .ref 31), (3, .ref 33), (4, .int (nI m_)), (5, .long (lgN w_)), (7, .ref (34 + 2 * m_)), (8, .ref (34 + 2 * (m_ + 1)))]) hX dX7_goOn_78 (by decide) rfl ?_
          refine V_aload hX dX7_goOn_80 7 rfl ?_
          refine V_aload hX dX7_goOn_82 6 rfl ?_
          refine V_callV (As := [.ref (34 + 2 * m_)]) (st := []) hX mX7_45 (wk_step (by omega)) (k_become (w_ := 34 + 2 * (m_ + 1)) (v_ := 34 + 2 * m_) (wk_step (by omega)) (wk_step (by omega)) (by omega) hU (fun μ1 a1 b1 d1 => ?_)) rfl (Nat.le_of_ble_eq_true rfl) (Nat.le_of_ble_eq_true rfl) dX7_goOn_84
          show V G 9 X 87 [(0, .ref 64), (1, .ref 1), (2, .ref 31), (3, .ref 33), (4, .int (nI m_)), (5, .long (lgN w_)), (7, .ref (34 + 2 * m_)), (8, .ref (34 + 2 * (m_ + 1)))] [] μ1
          have hR1 : RC μ1 P L S κ I := hRC.frame (fun a ha => a1 a (by omega) (by omega))
          refine V_aload hX dX7_goOn_87 7 rfl ?_
          refine V_aload_n hX dX7_goOn_89 1 rfl ?_
          refine V_aload_n hX dX7_goOn_90 2 rfl ?_
          refine V_getr (j := 32) hX fX7_49 rfl rfl dX7_goOn_91 ?_
          refine V_iload hX dX7_goOn_94 4 rfl ?_
          refine V_ialdN (x := nI (S m_)) hX rfl (by first | omega | (have := hT7; omega)) (by decide) (hR1.2.1.2 _ (by omega)) dX7_goOn_96 ?_
          refine V_iconst (v := nI 1) hX dX7_goOn_97 (by decide) ?_
          show V G 9 X 98 [(0, .ref 64), (1, .ref 1), (2, .ref 31), (3, .ref 33), (4, .int (nI m_)), (5, .long (lgN w_)), (7, .ref (34 + 2 * m_)), (8, .ref (34 + 2 * (m_ + 1)))] [.int (bI (true = true)), .int (nI (S m_)), .ref 1, .ref (34 + 2 * (m_ + 1))] μ1
          refine V_callV (As := [.ref 1, .int (nI (S m_)), .int (bI (true = true))]) (st := []) hX mX7_53 (wk_step (by omega)) (k_pass (w_ := 34 + 2 * (m_ + 1)) (cold_ := true) (P := P) (wk_step (by omega)) rfl hR1.1 hok (by have := hS m_ (by omega); omega) b1 hu (by omega) (fun μ2 a2 b2 c2 d2 => ?_)) rfl (Nat.le_of_ble_eq_true rfl) (Nat.le_of_ble_eq_true rfl) dX7_goOn_98
          show V G 9 X 101 [(0, .ref 64), (1, .ref 1), (2, .ref 31), (3, .ref 33), (4, .int (nI m_)), (5, .long (lgN w_)), (7, .ref (34 + 2 * m_)), (8, .ref (34 + 2 * (m_ + 1)))] [] μ2
          have hR2 : RC μ2 P L S κ I := hR1.frame (fun a ha => a2 a (by omega) (by omega))
          have ht2 : μ2.1 64 3 = nI t_ := by rw [a2 64 (by omega) (by omega), a1 64 (by omega) (by omega)]; exact hct
          have e2 : μ2.2 = μ.2 := by rw [d2, d1]
          refine V_aload_n hX dX7_goOn_101 0 rfl ?_
          refine V_aload_n hX dX7_goOn_102 1 rfl ?_
          refine V_aload_n hX dX7_goOn_103 2 rfl ?_
          refine V_aload_n hX dX7_goOn_104 3 rfl ?_
          refine V_iload hX dX7_goOn_105 4 rfl ?_
          refine V_iconst (v := nI 1) hX dX7_goOn_107 (by decide) ?_
          refine V_iaddN hX dX7_goOn_108 ?_
          refine V_lload hX dX7_goOn_109 5 rfl ?_
          refine V_aload_n hX dX7_goOn_111 0 rfl ?_
          refine V_getN (x := nI t_) hX fX7_21 rfl ht2 dX7_goOn_112 ?_
          refine V_i2lN hX dX7_goOn_115 (by first | omega | (have := hT7; omega)) ?_
          refine V_lmulN hX dX7_goOn_116 ?_
          refine V_callV (As := [.ref 1, .ref 31, .ref 33, .int (nI (m_ + 1)), .long (lgN (w_ * t_))]) (st := []) hX mX7_38 rfl (ih (m_ + 1) (mwStep P (S m_) true u_) (w_ * t_) A_ B_ (wmul hw ht) (step7 hT7) (by omega) (hu.step hok) hR2 b2 ht2 (by rw [e2]; exact hA) (by rw [e2]; exact hB) (fun μ3 g3 => ?_)) rfl (Nat.le_of_ble_eq_true rfl) (Nat.le_of_ble_eq_true rfl) dX7_goOn_117
          show V G 9 X 120 [(0, .ref 64), (1, .ref 1), (2, .ref 31), (3, .ref 33), (4, .int (nI m_)), (5, .long (lgN w_)), (7, .ref (34 + 2 * m_)), (8, .ref (34 + 2 * (m_ + 1)))] [] μ3
          have hR3 : RC μ3 P L S κ I := hR2.frame (fun a ha => g3.1 a (by omega))
          have hU3 : isW μ3 (34 + 2 * m_) u_ := (hU.fr (μ' := μ2) (by rw [a2 _ (by omega) (by omega), a1 _ (by omega) (by omega)]) (by rw [a2 _ (by omega) (by omega), a1 _ (by omega) (by omega)])).fr (g3.1 _ (by omega)) (g3.1 _ (by omega))
          refine V_aload hX dX7_goOn_120 7 rfl ?_
          refine V_aload hX dX7_goOn_122 6 rfl ?_
          refine V_callV (As := [.ref (34 + 2 * m_)]) (st := []) hX mX7_45 (wk_step (by omega)) (k_become (w_ := 34 + 2 * (m_ + 1)) (v_ := 34 + 2 * m_) (wk_step (by omega)) (wk_step (by omega)) (by omega) hU3 (fun μ4 a4 b4 d4 => ?_)) rfl (Nat.le_of_ble_eq_true rfl) (Nat.le_of_ble_eq_true rfl) dX7_goOn_124
          show V G 9 X 127 [(0, .ref 64), (1, .ref 1), (2, .ref 31), (3, .ref 33), (4, .int (nI m_)), (5, .long (lgN w_)), (7, .ref (34 + 2 * m_)), (8, .ref (34 + 2 * (m_ + 1)))] [] μ4
          have hR4 : RC μ4 P L S κ I := hR3.frame (fun a ha => a4 a (by omega) (by omega))
          refine V_aload hX dX7_goOn_127 7 rfl ?_
          refine V_aload_n hX dX7_goOn_129 1 rfl ?_
          refine V_aload_n hX dX7_goOn_130 2 rfl ?_
          refine V_getr (j := 32) hX fX7_49 rfl rfl dX7_goOn_131 ?_
          refine V_iload hX dX7_goOn_134 4 rfl ?_
          refine V_ialdN (x := nI (S m_)) hX rfl (by first | omega | (have := hT7; omega)) (by decide) (hR4.2.1.2 _ (by omega)) dX7_goOn_136 ?_
          refine V_iconst (v := nI 0) hX dX7_goOn_137 (by decide) ?_
          show V G 9 X 138 [(0, .ref 64), (1, .ref 1), (2, .ref 31), (3, .ref 33), (4, .int (nI m_)), (5, .long (lgN w_)), (7, .ref (34 + 2 * m_)), (8, .ref (34 + 2 * (m_ + 1)))] [.int (bI (false = true)), .int (nI (S m_)), .ref 1, .ref (34 + 2 * (m_ + 1))] μ4
          refine V_callV (As := [.ref 1, .int (nI (S m_)), .int (bI (false = true))]) (st := []) hX mX7_53 (wk_step (by omega)) (k_pass (w_ := 34 + 2 * (m_ + 1)) (cold_ := false) (P := P) (wk_step (by omega)) rfl hR4.1 hok (by have := hS m_ (by omega); omega) b4 hu (by omega) (fun μ5 a5 b5 c5 d5 => ?_)) rfl (Nat.le_of_ble_eq_true rfl) (Nat.le_of_ble_eq_true rfl) dX7_goOn_138
          show V G 9 X 141 [(0, .ref 64), (1, .ref 1), (2, .ref 31), (3, .ref 33), (4, .int (nI m_)), (5, .long (lgN w_)), (7, .ref (34 + 2 * m_)), (8, .ref (34 + 2 * (m_ + 1)))] [] μ5
          have hR5 : RC μ5 P L S κ I := hR4.frame (fun a ha => a5 a (by omega) (by omega))
          have ht5 : μ5.1 64 3 = nI t_ := by rw [a5 64 (by omega) (by omega), a4 64 (by omega) (by omega), g3.1 64 (by omega), a2 64 (by omega) (by omega), a1 64 (by omega) (by omega)]; exact hct
          have e5 : μ5.2 = μ3.2 := by rw [d5, d4]
          refine V_aload_n hX dX7_goOn_141 0 rfl ?_
          refine V_aload_n hX dX7_goOn_142 1 rfl ?_
          refine V_aload_n hX dX7_goOn_143 2 rfl ?_
          refine V_aload_n hX dX7_goOn_144 3 rfl ?_
          refine V_iload hX dX7_goOn_145 4 rfl ?_
          refine V_iconst (v := nI 1) hX dX7_goOn_147 (by decide) ?_
          refine V_iaddN hX dX7_goOn_148 ?_
          refine V_lload hX dX7_goOn_149 5 rfl ?_
          refine V_bipush (v := nI 10) hX dX7_goOn_151 (by decide) ?_
          refine V_aload_n hX dX7_goOn_153 0 rfl ?_
          refine V_getN (x := nI t_) hX fX7_21 rfl ht5 dX7_goOn_154 ?_
          refine V_isubN hX dX7_goOn_157 (by omega) ?_
          refine V_i2lN hX dX7_goOn_158 (by first | omega | (have := hT7; omega)) ?_
          refine V_lmulN hX dX7_goOn_159 ?_
          refine V_callV (As := [.ref 1, .ref 31, .ref 33, .int (nI (m_ + 1)), .long (lgN (w_ * (10 - t_)))]) (st := []) hX mX7_38 rfl (ih (m_ + 1) (mwStep P (S m_) false u_) (w_ * (10 - t_)) _ _ (wmul hw (by omega)) (step7 hT7) (by omega) (hu.step hok) hR5 b5 ht5 (by rw [e5]; exact g3.2.1) (by rw [e5]; exact g3.2.2.1) (fun μ6 g6 => ?_)) rfl (Nat.le_of_ble_eq_true rfl) (Nat.le_of_ble_eq_true rfl) dX7_goOn_160
          show V G 9 X 163 [(0, .ref 64), (1, .ref 1), (2, .ref 31), (3, .ref 33), (4, .int (nI m_)), (5, .long (lgN w_)), (7, .ref (34 + 2 * m_)), (8, .ref (34 + 2 * (m_ + 1)))] [] μ6
          refine V_vret hX rfl dX7_goOn_163 ?_
          exact hR _ _ (hQ μ6 ⟨fun a ha => by rw [g6.1 a (by omega), a5 a (by omega) (by omega), a4 a (by omega) (by omega), g3.1 a (by omega), a2 a (by omega) (by omega), a1 a (by omega) (by omega)], by rw [g6.2.1, Nat.add_assoc]; rfl, by rw [g6.2.2.1, Nat.add_assoc]; rfl, by rw [g6.2.2.2, e5, g3.2.2.2, e2]⟩)
        · exact absurd c27 (by omega)
    · refine V_vret hX rfl dX7_goOn_7 ?_
      exact hR _ _ (hQ μ ⟨fun _ _ => rfl, by rw [(lgN_inj (w63 hw (by omega)) (by decide)).mp (cmp0.mp c4), cw_0]; exact hA, by rw [(lgN_inj (w63 hw (by omega)) (by decide)).mp (cmp0.mp c4), cw_0]; exact hB, rfl⟩)
