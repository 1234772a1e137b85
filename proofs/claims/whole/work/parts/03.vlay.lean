/-! the pure layer: cells by number, a state of numbers alone -/
abbrev VS : Type := (Nat → Nat → Int32) × (Nat → Nat → Int64)
abbrev VG : Type := va_G × (Nat → Nat) × (Nat → ClassId)
abbrev VL : Type := List (Nat × Value)
abbrev VX : Type := Program × Launch × Env × Room × State × MethodId × Array Value × List Frame × Method × Code × (Nat → Prop) × Nat × Nat × (State → Prop)
def vre (ad : Nat → Nat) (v : Value) : Value := match v with
  | .ref a => .ref (ad a)
  | v => v
def vrl (ad : Nat → Nat) (ls : VL) : VL := ls.map (fun q => (q.1, vre ad q.2))
def vKinds : List (Nat × Nat) :=
  [(7, 0), (3, 0), (9, 8), (9, 8), (9, 8), (9, 8), (9, 8), (9, 8), (3, 0), (9, 8), (9, 8), (9, 8), (9, 8), (9, 8), (9, 8),
   (12, 2), (3, 0), (9, 8), (9, 8), (9, 8), (9, 8), (9, 8), (9, 8), (3, 0), (9, 8), (9, 8), (9, 8), (9, 8), (9, 8), (9, 8),
   (11, 2), (2, 0), (9, 60), (13, 11),
   (5, 0), (9, 8), (5, 0), (9, 8), (5, 0), (9, 8), (5, 0), (9, 8), (5, 0), (9, 8), (5, 0), (9, 8), (5, 0), (9, 8), (5, 0), (9, 8), (5, 0), (9, 8), (5, 0), (9, 8), (5, 0), (9, 8),
   (0, 0), (9, 7), (9, 7), (9, 7), (1, 0), (9, 7), (9, 7), (9, 7), (6, 0), (4, 0), (9, 3), (9, 8), (10, 8),
   (8, 0), (9, 8), (9, 8), (9, 8), (9, 8), (9, 16), (9, 61), (9, 61), (9, 8), (9, 8), (9, 61), (9, 61), (9, 61), (9, 488), (9, 61), (9, 8), (9, 140), (11, 2)]
def vk (i : Nat) : Nat × Nat := (vKinds[i]?).getD (99, 0)
def vF (ci : Nat) : List (Nat × Nat) := match ci with
  | 0 => [(2, 1), (2, 2), (2, 3), (0, 0), (0, 0), (0, 0), (0, 0)]
  | 1 => [(2, 1), (2, 2), (2, 3), (0, 0), (0, 0), (0, 0)]
  | 2 => [(2, 1), (0, 0)]
  | 3 => [(0, 0), (0, 0), (0, 0), (0, 0), (0, 0), (0, 0), (0, 0), (2, 1), (2, 2), (2, 3), (2, 4), (2, 5), (2, 6)]
  | 4 => [(2, 1), (0, 0), (2, 2)]
  | 5 => [(2, 1), (0, 0), (0, 0), (0, 0), (0, 0), (0, 0), (0, 0), (0, 0), (0, 0), (0, 0), (0, 0), (0, 0), (0, 0)]
  | 6 => [(1, 0), (1, 0), (1, 0), (0, 0)]
  | 7 => [(2, 1), (2, 8), (2, 15), (2, 30), (2, 31), (2, 33), (2, 56), (2, 60), (2, 64), (2, 65), (2, 68)]
  | 8 => [(0, 0), (0, 0), (2, 1), (2, 2), (2, 3), (2, 4), (0, 0), (0, 0), (0, 0), (0, 0), (0, 0), (2, 5), (0, 0), (2, 6), (2, 7), (0, 0), (2, 8), (0, 0), (0, 0), (0, 0), (2, 9), (2, 10), (2, 11), (2, 12), (2, 13), (0, 0), (0, 0), (0, 0), (0, 0), (0, 0), (0, 0), (0, 0), (2, 14), (0, 0), (2, 15), (2, 16), (2, 17)]
  | _ => []
def vfv (μ : VS) (i k : Nat) (t : Nat × Nat) : Value := match t.1 with
  | 0 => .int (μ.1 i k)
  | 1 => .long (μ.2 i k)
  | _ => .ref (i + t.2)
def vfs (G : VG) (μ : VS) (i ci : Nat) : List Value := (vF ci).mapIdx (fun k t => vre G.2.1 (vfv μ i k t))
def vE (G : VG) (μ : VS) (i : Nat) : va_E := match (vk i).1 with
  | 9 => .inl (G.2.2 9, (vk i).2, .inl (μ.1 i))
  | 10 => .inl (G.2.2 10, (vk i).2, .inr (.inl (μ.2 i)))
  | 11 => .inl (G.2.2 11, (vk i).2, .inl (μ.1 i))
  | 12 => .inl (G.2.2 12, (vk i).2, .inr (.inr (.inr (.inr (fun j => some (G.2.1 (i + 1 + 7 * j)))))))
  | 13 => .inl (G.2.2 13, (vk i).2, .inr (.inr (.inr (.inr (fun j => some (G.2.1 (i + 1 + 2 * j)))))))
  | ci => .inr (ci, vfs G μ i ci)
def vW (G : VG) (μ : VS) : va_W := (List.range 87).map (fun i => (G.2.1 i, vE G μ i))
def vTys (G : VG) : List (ClassId × FieldType) := [(G.2.2 9, .int), (G.2.2 10, .long), (G.2.2 11, .boolean), (G.2.2 12, .object RX4), (G.2.2 13, .object RX6)]
def vBC (j : Nat) : Int32 := match j with
  | 0 => 99
  | 1 => 104
  | 2 => 110
  | 3 => 111
  | 4 => 115
  | 5 => 119
  | _ => 126
def vBD (j : Nat) : Int32 := match j with
  | 0 => 119
  | 1 => 104
  | 2 => 111
  | 3 => 110
  | 4 => 99
  | 5 => 115
  | _ => 126
def vSt (G : VG) (A : Nat → Prop) (U : State) (H : Heap) : Prop :=
  (va_Z "NodTax" "BY_CODE" "[C" (.ref (G.2.1 1000)) A U H ∧ va_T .char (G.2.1 1000) 7 (fun j => .int (vBC j)) A U H) ∧ (va_Z "NodTax" "BY_DRAW" "[C" (.ref (G.2.1 1001)) A U H ∧ va_T .char (G.2.1 1001) 7 (fun j => .int (vBD j)) A U H)
/-- the words that every callee may be handed, and those few that go another way -/
def lw_good : List Cond := lw_tbl.filter goodWord
theorem lw_gd {w : Cond} (h : w ∈ lw_tbl) (hg : goodWord w = true) : w ∈ lw_good := List.mem_filter.mpr ⟨h, hg⟩
def vnest (w : Cond) : Bool := match w with
  | .fieldLinkNest .. => true
  | .declares _ => true
  | _ => false
def vNs (U : State) : Prop := ∀ w ∈ lw_tbl, vnest w = true → va_Nw w U
theorem vNs.warm {s U : State} (hW : s.WarmedH U.vm) (h : vNs s) : vNs U := by
  intro w hw hn
  have h1 := h w hw hn
  cases w <;> first | (exact absurd hn (by decide)) | (exact absurd hn Bool.false_ne_true) | exact va_Nw.warmF hW h1 | exact va_Nw.warmD hW h1
theorem vNs.same {s U : State} (hW : s.vm = U.vm) (h : vNs s) : vNs U := by
  intro w hw hn
  have h1 := h w hw hn
  refine va_Nw.same ?_ hW h1
  cases w <;> first | rfl | (exact absurd hn Bool.false_ne_true)
def vQc (G : VG) (A : Nat → Prop) (Q : Option Value → VS → Prop) : Array Value → State → Outcome → State → Prop := fun _ st oc t => (∃ (r : Option Value) (μ : VS), oc = .returned (r.map (vre G.2.1)) ∧ Q r μ ∧ va_P G.1 vwCl (vW G μ) t.heap) ∧ va_F A st t
def Cx (G : VG) (d : Nat) (y : MethodName) (cc : ByteArray) (nL : Nat) (rt : Option FieldType) (X : VX) : Prop := match X with
  | (p, _, _, R, s, m, args, _, meth, c, A, cells, slots, _) => p.tables.exec = Jvm.exec ∧ c.code = cc ∧ meth.sig.returnType = rt ∧ meth.locks = false ∧ c.maxLocals = nL ∧ s.vm.findClass y.cls = some m.cls ∧ (∀ w ∈ lw_good, w.before args s = true) ∧ vNs s ∧ va_K G.1 vwCl (vTys G) s ∧ vSt G A s s.heap ∧ (∀ q, s.heap.size ≤ q → A q) ∧ d ≤ R.frames ∧ 60 * d ≤ R.locals ∧ cells ≤ R.cells ∧ slots ≤ R.slots
def V (G : VG) (nL : Nat) (X : VX) (pc : Nat) (ls : VL) (st : List Value) (μ : VS) : Prop := match X with
  | (p, l, e, R, s, m, args, below, meth, c, A, cells, slots, Qf) => ∀ (H : Heap) (locs : List Loc) (la : Array Slot), va_P G.1 vwCl (vW G μ) H → va_D A (vW G μ) → va_S A s.heap H locs → lv_has la nL (vrl G.2.1 ls) → W p l e R s m args below meth c H locs cells slots Qf (F0 m pc la (st.map (vre G.2.1)))
def Ret (G : VG) (X : VX) (r : Option Value) (μ : VS) : Prop := match X with
  | (_, _, _, _, s, _, args, below, _, _, A, cells, slots, Qf) => ∃ Q : Option Value → VS → Prop, Qf = MQ below (vQc G A Q) args s cells slots A ∧ Q r μ
def Call (G : VG) (d : Nat) (y : MethodName) (cc : ByteArray) (nL : Nat) (rt : Option FieldType) (av : List Value) (μ : VS) (Q : Option Value → VS → Prop) : Prop := ∀ X : VX, Cx G d y cc nL rt X → (∀ r μ', Q r μ' → Ret G X r μ') → V G nL X 0 (lv_args 0 av) [] μ
def vroom (d : Nat) : Room := { frames := d, cells := 0, slots := 0, locals := 60 * d }
def vup {α : Type} (f : Nat → Nat → α) (i k : Nat) (x : α) : Nat → Nat → α := fun a b => if a = i then if b = k then x else f a b else f a b
/-! facts -/
theorem vre_cat (ad : Nat → Nat) (v : Value) : (vre ad v).category = v.category := by cases v <;> rfl
theorem vk_lt {i a n : Nat} (h : vk i = (a, n)) (ha : a ≠ 99) : i < 87 := by
  rcases Nat.lt_or_ge i 87 with q | q
  · exact q
  · have : vKinds[i]? = none := List.getElem?_eq_none (by show 87 ≤ i; exact q)
    unfold vk at h
    rw [this] at h
    cases h
    exact absurd rfl ha
theorem vW_at (G : VG) (μ : VS) {i : Nat} (h : i < 87) : (vW G μ)[i]? = some (G.2.1 i, vE G μ i) := by
  simp [vW, h]
theorem vW_len (G : VG) (μ : VS) : (vW G μ).length = 87 := by simp [vW]
theorem vE_int (G : VG) (μ : VS) {i n : Nat} (h : vk i = (9, n)) : vE G μ i = .inl (G.2.2 9, n, .inl (μ.1 i)) := by simp [vE, h]
theorem vE_long (G : VG) (μ : VS) {i n : Nat} (h : vk i = (10, n)) : vE G μ i = .inl (G.2.2 10, n, .inr (.inl (μ.2 i))) := by simp [vE, h]
theorem vE_bool (G : VG) (μ : VS) {i n : Nat} (h : vk i = (11, n)) : vE G μ i = .inl (G.2.2 11, n, .inl (μ.1 i)) := by simp [vE, h]
theorem vE_par (G : VG) (μ : VS) {i n : Nat} (h : vk i = (12, n)) : vE G μ i = .inl (G.2.2 12, n, .inr (.inr (.inr (.inr (fun j => some (G.2.1 (i + 1 + 7 * j))))))) := by simp [vE, h]
theorem vE_walk (G : VG) (μ : VS) {i n : Nat} (h : vk i = (13, n)) : vE G μ i = .inl (G.2.2 13, n, .inr (.inr (.inr (.inr (fun j => some (G.2.1 (i + 1 + 2 * j))))))) := by simp [vE, h]
theorem vE_obj (G : VG) (μ : VS) {i ci : Nat} (h : vk i = (ci, 0)) (hc : ci < 9) : vE G μ i = .inr (ci, vfs G μ i ci) := by
  have h1 : (vk i).1 = ci := by rw [h]
  unfold vE
  rw [h1]
  match ci, hc with
  | 0, _ => rfl
  | 1, _ => rfl
  | 2, _ => rfl
  | 3, _ => rfl
  | 4, _ => rfl
  | 5, _ => rfl
  | 6, _ => rfl
  | 7, _ => rfl
  | 8, _ => rfl
theorem vfs_at (G : VG) (μ : VS) {i ci k : Nat} {t : Nat × Nat} (h : (vF ci)[k]? = some t) : (vfs G μ i ci)[k]? = some (vre G.2.1 (vfv μ i k t)) := by
  simp [vfs, h]
theorem vup_same {α : Type} (f : Nat → Nat → α) (i k : Nat) (x : α) : vup f i k x i k = x := by simp [vup]
theorem vup_row {α : Type} (f : Nat → Nat → α) {i a : Nat} (k : Nat) (x : α) (h : a ≠ i) : vup f i k x a = f a := by
  funext b
  simp [vup, h]
theorem vW_ext {G : VG} {μ μ' : VS} {i : Nat} (h : i < 87) (hne : ∀ a, a ≠ i → vE G μ' a = vE G μ a) : (vW G μ).set i (G.2.1 i, vE G μ' i) = vW G μ' := by
  apply List.ext_getElem?
  intro j
  rw [List.getElem?_set]
  by_cases hj : i = j
  · subst hj
    rw [if_pos rfl, vW_len, if_pos h, vW_at G μ' h]
  · rw [if_neg hj]
    rcases Nat.lt_or_ge j 87 with q | q
    · rw [vW_at G μ q, vW_at G μ' q, hne j (fun e => hj e.symm)]
    · rw [List.getElem?_eq_none (by rw [vW_len]; exact q), List.getElem?_eq_none (by rw [vW_len]; exact q)]
theorem vE_rows {G : VG} {μ μ' : VS} {a : Nat} (h1 : μ'.1 a = μ.1 a) (h2 : μ'.2 a = μ.2 a) : vE G μ' a = vE G μ a := by
  have h3 : ∀ ci, vfs G μ' a ci = vfs G μ a ci := by
    intro ci
    unfold vfs vfv
    rw [h1, h2]
  unfold vE
  rw [h1, h2]
  simp only [h3]
theorem vW_seti {G : VG} {μ : VS} {i ci k : Nat} {x : Int32} (h : vk i = (ci, 0)) (hc : ci < 9) (hf : (vF ci)[k]? = some (0, 0)) : (vW G μ).set i (G.2.1 i, .inr (ci, (vfs G μ i ci).set k (.int x))) = vW G (vup μ.1 i k x, μ.2) := by
  have hi : i < 87 := vk_lt h (by omega)
  have h0 : (.inr (ci, (vfs G μ i ci).set k (.int x)) : va_E) = vE G (vup μ.1 i k x, μ.2) i := by
    rw [vE_obj G _ h hc]
    congr 2
    apply List.ext_getElem?
    intro j
    rw [List.getElem?_set]
    unfold vfs
    rw [List.getElem?_mapIdx, List.getElem?_mapIdx, List.length_mapIdx]
    by_cases hj : k = j
    · subst hj
      rw [if_pos rfl, if_pos (List.getElem?_eq_some_iff.mp hf).1, hf]
      simp [vfv, vre, vup]
    · rw [if_neg hj]
      cases hq : (vF ci)[j]? with
      | none => rfl
      | some t =>
        have : ¬ j = k := fun e => hj e.symm
        simp [vfv, vup, this]
  rw [h0]
  exact vW_ext hi (fun a ha => vE_rows (vup_row _ _ _ ha) rfl)
theorem vW_setl {G : VG} {μ : VS} {i ci k : Nat} {x : Int64} (h : vk i = (ci, 0)) (hc : ci < 9) (hf : (vF ci)[k]? = some (1, 0)) : (vW G μ).set i (G.2.1 i, .inr (ci, (vfs G μ i ci).set k (.long x))) = vW G (μ.1, vup μ.2 i k x) := by
  have hi : i < 87 := vk_lt h (by omega)
  have h0 : (.inr (ci, (vfs G μ i ci).set k (.long x)) : va_E) = vE G (μ.1, vup μ.2 i k x) i := by
    rw [vE_obj G _ h hc]
    congr 2
    apply List.ext_getElem?
    intro j
    rw [List.getElem?_set]
    unfold vfs
    rw [List.getElem?_mapIdx, List.getElem?_mapIdx, List.length_mapIdx]
    by_cases hj : k = j
    · subst hj
      rw [if_pos rfl, if_pos (List.getElem?_eq_some_iff.mp hf).1, hf]
      simp [vfv, vre, vup]
    · rw [if_neg hj]
      cases hq : (vF ci)[j]? with
      | none => rfl
      | some t =>
        have : ¬ j = k := fun e => hj e.symm
        simp [vfv, vup, this]
  rw [h0]
  exact vW_ext hi (fun a ha => vE_rows rfl (vup_row _ _ _ ha))
theorem vup_upd (f : Nat → Nat → Int32) (i k : Nat) (x : Int32) : vup f i k x i = upd (f i) k x := by
  funext b
  simp [vup, upd]
theorem vup_updL (f : Nat → Nat → Int64) (i k : Nat) (x : Int64) : vup f i k x i = vp_updL (f i) k x := by
  funext b
  simp [vup, vp_updL]
theorem vW_arri {G : VG} {μ : VS} {i n k : Nat} {x : Int32} (h : vk i = (9, n)) : (vW G μ).set i (G.2.1 i, .inl (G.2.2 9, n, .inl (upd (μ.1 i) k x))) = vW G (vup μ.1 i k x, μ.2) := by
  rw [← vup_upd, ← vE_int G (vup μ.1 i k x, μ.2) h]
  exact vW_ext (vk_lt h (by omega)) (fun a ha => vE_rows (vup_row _ _ _ ha) rfl)
theorem vW_arrz {G : VG} {μ : VS} {i n k : Nat} {x : Int32} (h : vk i = (11, n)) : (vW G μ).set i (G.2.1 i, .inl (G.2.2 11, n, .inl (upd (μ.1 i) k x))) = vW G (vup μ.1 i k x, μ.2) := by
  rw [← vup_upd, ← vE_bool G (vup μ.1 i k x, μ.2) h]
  exact vW_ext (vk_lt h (by omega)) (fun a ha => vE_rows (vup_row _ _ _ ha) rfl)
theorem vW_arrl {G : VG} {μ : VS} {i n k : Nat} {x : Int64} (h : vk i = (10, n)) : (vW G μ).set i (G.2.1 i, .inl (G.2.2 10, n, .inr (.inl (vp_updL (μ.2 i) k x)))) = vW G (μ.1, vup μ.2 i k x) := by
  rw [← vup_updL, ← vE_long G (μ.1, vup μ.2 i k x) h]
  exact vW_ext (vk_lt h (by omega)) (fun a ha => vE_rows rfl (vup_row _ _ _ ha))
/-- a whole row of ints is put in the place of another -/
def vrow {α : Type} (f : Nat → Nat → α) (i : Nat) (g : Nat → α) : Nat → Nat → α := fun a => if a = i then g else f a
theorem vW_row {G : VG} {μ : VS} {i n : Nat} {g : Nat → Int32} (h : vk i = (9, n)) : (vW G μ).set i (G.2.1 i, .inl (G.2.2 9, n, .inl g)) = vW G (vrow μ.1 i g, μ.2) := by
  have e : g = (vrow μ.1 i g, μ.2).1 i := by simp [vrow]
  have e2 : (.inl (G.2.2 9, n, .inl g) : va_E) = vE G (vrow μ.1 i g, μ.2) i := by rw [vE_int G _ h, ← e]
  rw [e2]
  exact vW_ext (vk_lt h (by omega)) (fun a ha => vE_rows (by simp [vrow, ha]) rfl)
/-! locals: kept in the order of their numbers -/
def vins (q : Nat × Value) : VL → VL
  | [] => [q]
  | r :: l => bif Nat.ble q.1 r.1 then q :: r :: l else r :: vins q l
theorem mem_vins (q x : Nat × Value) (l : VL) : x ∈ vins q l ↔ x = q ∨ x ∈ l := by
  induction l with
  | nil => simp [vins]
  | cons r l ih =>
    unfold vins
    cases Nat.ble q.1 r.1 with
    | true => simp
    | false =>
      simp only [cond_false, List.mem_cons, ih]
      constructor
      · rintro (h | h | h)
        · exact Or.inr (Or.inl h)
        · exact Or.inl h
        · exact Or.inr (Or.inr h)
      · rintro (h | h | h)
        · exact Or.inr (Or.inl h)
        · exact Or.inl h
        · exact Or.inr (Or.inr h)
def vset1 (ls : VL) (i : Nat) (v : Value) : VL := vins (i, v) (ls.filter (fun q => !(q.1 == i) && !(q.1 + 1 == i && q.2.category == 2)))
def vset2 (ls : VL) (i : Nat) (v : Value) : VL := vins (i, v) (ls.filter (fun q => !(q.1 == i) && (!(q.1 == i + 1) && !(q.1 + 1 == i && q.2.category == 2))))
theorem vrl_filter1 (ad : Nat → Nat) (ls : VL) (i : Nat) : (vrl ad ls).filter (fun q => !(q.1 == i) && !(q.1 + 1 == i && q.2.category == 2)) = vrl ad (ls.filter (fun q => !(q.1 == i) && !(q.1 + 1 == i && q.2.category == 2))) := by
  unfold vrl
  rw [List.filter_map]
  congr 1
  apply List.filter_congr
  intro q _
  simp [vre_cat]
theorem vrl_filter2 (ad : Nat → Nat) (ls : VL) (i : Nat) : (vrl ad ls).filter (fun q => !(q.1 == i) && (!(q.1 == i + 1) && !(q.1 + 1 == i && q.2.category == 2))) = vrl ad (ls.filter (fun q => !(q.1 == i) && (!(q.1 == i + 1) && !(q.1 + 1 == i && q.2.category == 2)))) := by
  unfold vrl
  rw [List.filter_map]
  congr 1
  apply List.filter_congr
  intro q _
  simp [vre_cat]
theorem vhas_ins {ad : Nat → Nat} {la : Array Slot} {n i : Nat} {v : Value} {ls : VL} (h : lv_has la n ((i, vre ad v) :: vrl ad ls)) : lv_has la n (vrl ad (vins (i, v) ls)) := by
  refine ⟨h.1, h.2.1, fun q hq => h.2.2 q ?_⟩
  unfold vrl at hq
  obtain ⟨x, hx, rfl⟩ := List.mem_map.mp hq
  rcases (mem_vins _ _ _).mp hx with e | e
  · subst e; exact List.mem_cons_self
  · exact List.mem_cons_of_mem _ (List.mem_map.mpr ⟨x, e, rfl⟩)
theorem vhas_at {ad : Nat → Nat} {la : Array Slot} {n i k : Nat} {v : Value} {ls : VL} (h : lv_has la n (vrl ad ls)) (hk : ls[k]? = some (i, v)) : la[i]? = some (.val (vre ad v)) :=
  h.2.2 (i, vre ad v) (List.mem_map.mpr ⟨(i, v), List.mem_of_getElem? hk, rfl⟩)
theorem vrl_args (ad : Nat → Nat) (vs : List Value) : ∀ i, lv_args i (vs.map (vre ad)) = vrl ad (lv_args i vs) := by
  induction vs with
  | nil => intro i; rfl
  | cons v vs ih =>
    intro i
    show (i, vre ad v) :: lv_args _ (vs.map (vre ad)) = (i, vre ad v) :: vrl ad (lv_args _ vs)
    rw [vre_cat, ih]
