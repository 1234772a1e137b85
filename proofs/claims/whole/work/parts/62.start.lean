set_option maxRecDepth 100000 in
set_option maxHeartbeats 4000000 in
theorem law_start {G : VG} {d : Nat} {X : VX} {b : Nat} (hX : Cx G (d + 20) x code 4 ret X) (hU : uN X) (hC : uC X 600000 7302250) (hV : ∀ q1 q2 q3 q4 q5 q6 q7 q8 q9 q10 q11 q12 q13 q14 q15 q16 q17 q18 q19 q20 q21 q22 q23 q24 q25 q26 q27 q28 q29 q30 q31 q32 q33 q34 q35 q36 q37 q38 q39 q40 q41 q42 q43 q44 q45 q46 q47 q48 q49 q50 q51 q52 q53 q54 q55 q56 q57 q58 q59 q60 q61 q62 q63 q64 q65 q66 q67 q68 q69 q70 q71 q72 q73 q74 q75 q76 q77 q78 q79 q80 q81 q82 q83 q84 q85 q86 q87 : Nat, U G 4 X 87 1749 18 [(3, .int 0), (2, .ref q70), (1, .ref q1), (0, .ref b)] [] ([oX8 q1 q2 q9 q16 q17 q18 q20 q21 q25 q29 q30 q33, oX4 q2 q3 q4 q5 q6 q7 q8, oI G q3 8, oI G q4 8, oI G q5 8, oI G q6 8, oI G q7 8, oI G q8 8, oX4 q9 q10 q11 q12 q13 q14 q15, oI G q10 8, oI G q11 8, oI G q12 8, oI G q13 8, oI G q14 8, oI G q15 8, (q16, .inl (G.2.2 12, 2, .inr (.inr (.inr (.inr (va_up (va_up (fun _ => none) 0 (some q34)) 1 (some q41))))))), oZ G q17 2, oX3 q18 q19, oI G q19 60, (q20, .inl (G.2.2 13, 11, .inr (.inr (.inr (.inr (va_up (va_up (va_up (va_up (va_up (va_up (va_up (va_up (va_up (va_up (va_up (fun _ => none) 0 (some q48)) 1 (some q50)) 2 (some q52)) 3 (some q54)) 4 (some q56)) 5 (some q58)) 6 (some q60)) 7 (some q62)) 8 (some q64)) 9 (some q66)) 10 (some q68))))))), oX0 q21 q22 q23 q24, oI G q22 7, oI G q23 7, oI G q24 7, oX1 q25 q26 q27 q28, oI G q26 7, oI G q27 7, oI G q28 7, oX7 q29, oX5 q30 q31 q32, oI G q31 3, oI G q32 8, oL G q33 8, oX4 q34 q35 q36 q37 q38 q39 q40, oI G q35 8, oI G q36 8, oI G q37 8, oI G q38 8, oI G q39 8, oI G q40 8, oX4 q41 q42 q43 q44 q45 q46 q47, oI G q42 8, oI G q43 8, oI G q44 8, oI G q45 8, oI G q46 8, oI G q47 8, oX6 q48 q49, oI G q49 8, oX6 q50 q51, oI G q51 8, oX6 q52 q53, oI G q53 8, oX6 q54 q55, oI G q55 8, oX6 q56 q57, oI G q57 8, oX6 q58 q59, oI G q59 8, oX6 q60 q61, oI G q61 8, oX6 q62 q63, oI G q63 8, oX6 q64 q65, oI G q65 8, oX6 q66 q67, oI G q67 8, oX6 q68 q69, oI G q69 8, oX9 q70 q71 q72 q73 q74 q75 q76 q77 q78 q79 q80 q81 q82 q83 q84 q85 q86 q87, oI G q71 8, oI G q72 8, oI G q73 8, oI G q74 8, oI G q75 16, oI G q76 61, oI G q77 61, oI G q78 8, oI G q79 8, oI G q80 61, oI G q81 61, oI G q82 61, oI G q83 488, oI G q84 61, oI G q85 8, oI G q86 140, oZ G q87 2])) : U G 4 X 0 0 0 [(0, .ref b)] [] [] := by
  show U G 4 X 0 0 0 [(0, .ref b)] [] (([] : va_W) ++ [])
  refine UP_new (ci := 7) (N := 11) (C := RX8) (T := TX8) (fs := u0X8) hX hC ginX8 tyX8 tyX8_ok uy_L_7 un_X8 ui_X8 rfl ud_X8 (by decide) (by decide) dL_law_0 (fun q1 => ?_)
  show U G 4 X 1 11 3 [(0, .ref b)] [.ref q1] (([] : va_W) ++ [(q1, .inr (7, u0X8))])
  refine U_dup hX dL_law_3 rfl ?_
  refine UP_callI (wl1 := []) (c0 := (q1, .inr (7, u0X8))) hX hU hC ul_L_9 uk_X8 rfl (u_X8 (fun q2 q3 q4 q5 q6 q7 q8 q9 q10 q11 q12 q13 q14 q15 q16 q17 q18 q19 q20 q21 q22 q23 q24 q25 q26 q27 q28 q29 q30 q31 q32 q33 q34 q35 q36 q37 q38 q39 q40 q41 q42 q43 q44 q45 q46 q47 q48 q49 q50 q51 q52 q53 q54 q55 q56 q57 q58 q59 q60 q61 q62 q63 q64 q65 q66 q67 q68 q69 => ?_)) (by decide) (by decide) (Nat.le_of_ble_eq_true rfl) dL_law_4
  rw [List.append_assoc]
  show U G 4 X 69 644 7 [(0, .ref b)] [.ref q1] (([] : va_W) ++ [oX8 q1 q2 q9 q16 q17 q18 q20 q21 q25 q29 q30 q33, oX4 q2 q3 q4 q5 q6 q7 q8, oI G q3 8, oI G q4 8, oI G q5 8, oI G q6 8, oI G q7 8, oI G q8 8, oX4 q9 q10 q11 q12 q13 q14 q15, oI G q10 8, oI G q11 8, oI G q12 8, oI G q13 8, oI G q14 8, oI G q15 8, (q16, .inl (G.2.2 12, 2, .inr (.inr (.inr (.inr (va_up (va_up (fun _ => none) 0 (some q34)) 1 (some q41))))))), oZ G q17 2, oX3 q18 q19, oI G q19 60, (q20, .inl (G.2.2 13, 11, .inr (.inr (.inr (.inr (va_up (va_up (va_up (va_up (va_up (va_up (va_up (va_up (va_up (va_up (va_up (fun _ => none) 0 (some q48)) 1 (some q50)) 2 (some q52)) 3 (some q54)) 4 (some q56)) 5 (some q58)) 6 (some q60)) 7 (some q62)) 8 (some q64)) 9 (some q66)) 10 (some q68))))))), oX0 q21 q22 q23 q24, oI G q22 7, oI G q23 7, oI G q24 7, oX1 q25 q26 q27 q28, oI G q26 7, oI G q27 7, oI G q28 7, oX7 q29, oX5 q30 q31 q32, oI G q31 3, oI G q32 8, oL G q33 8, oX4 q34 q35 q36 q37 q38 q39 q40, oI G q35 8, oI G q36 8, oI G q37 8, oI G q38 8, oI G q39 8, oI G q40 8, oX4 q41 q42 q43 q44 q45 q46 q47, oI G q42 8, oI G q43 8, oI G q44 8, oI G q45 8, oI G q46 8, oI G q47 8, oX6 q48 q49, oI G q49 8, oX6 q50 q51, oI G q51 8, oX6 q52 q53, oI G q53 8, oX6 q54 q55, oI G q55 8, oX6 q56 q57, oI G q57 8, oX6 q58 q59, oI G q59 8, oX6 q60 q61, oI G q61 8, oX6 q62 q63, oI G q63 8, oX6 q64 q65, oI G q65 8, oX6 q66 q67, oI G q67 8, oX6 q68 q69, oI G q69 8])
  refine U_astore_n (ls' := [(1, .ref q1), (0, .ref b)]) hX dL_law_7 (by decide) rfl ?_
  refine UP_new (ci := 8) (N := 37) (C := RX9) (T := TX9) (fs := u0X9) hX hC ginX9 tyX9 tyX9_ok uy_L_10 un_X9 ui_X9 rfl ud_X9 (by decide) (by decide) dL_law_8 (fun q70 => ?_)
  show U G 4 X 70 681 11 [(1, .ref q1), (0, .ref b)] [.ref q70] (([] : va_W) ++ [oX8 q1 q2 q9 q16 q17 q18 q20 q21 q25 q29 q30 q33, oX4 q2 q3 q4 q5 q6 q7 q8, oI G q3 8, oI G q4 8, oI G q5 8, oI G q6 8, oI G q7 8, oI G q8 8, oX4 q9 q10 q11 q12 q13 q14 q15, oI G q10 8, oI G q11 8, oI G q12 8, oI G q13 8, oI G q14 8, oI G q15 8, (q16, .inl (G.2.2 12, 2, .inr (.inr (.inr (.inr (va_up (va_up (fun _ => none) 0 (some q34)) 1 (some q41))))))), oZ G q17 2, oX3 q18 q19, oI G q19 60, (q20, .inl (G.2.2 13, 11, .inr (.inr (.inr (.inr (va_up (va_up (va_up (va_up (va_up (va_up (va_up (va_up (va_up (va_up (va_up (fun _ => none) 0 (some q48)) 1 (some q50)) 2 (some q52)) 3 (some q54)) 4 (some q56)) 5 (some q58)) 6 (some q60)) 7 (some q62)) 8 (some q64)) 9 (some q66)) 10 (some q68))))))), oX0 q21 q22 q23 q24, oI G q22 7, oI G q23 7, oI G q24 7, oX1 q25 q26 q27 q28, oI G q26 7, oI G q27 7, oI G q28 7, oX7 q29, oX5 q30 q31 q32, oI G q31 3, oI G q32 8, oL G q33 8, oX4 q34 q35 q36 q37 q38 q39 q40, oI G q35 8, oI G q36 8, oI G q37 8, oI G q38 8, oI G q39 8, oI G q40 8, oX4 q41 q42 q43 q44 q45 q46 q47, oI G q42 8, oI G q43 8, oI G q44 8, oI G q45 8, oI G q46 8, oI G q47 8, oX6 q48 q49, oI G q49 8, oX6 q50 q51, oI G q51 8, oX6 q52 q53, oI G q53 8, oX6 q54 q55, oI G q55 8, oX6 q56 q57, oI G q57 8, oX6 q58 q59, oI G q59 8, oX6 q60 q61, oI G q61 8, oX6 q62 q63, oI G q63 8, oX6 q64 q65, oI G q65 8, oX6 q66 q67, oI G q67 8, oX6 q68 q69, oI G q69 8, (q70, .inr (8, u0X9))])
  refine U_dup hX dL_law_11 rfl ?_
  refine UP_callI (wl1 := [oX8 q1 q2 q9 q16 q17 q18 q20 q21 q25 q29 q30 q33, oX4 q2 q3 q4 q5 q6 q7 q8, oI G q3 8, oI G q4 8, oI G q5 8, oI G q6 8, oI G q7 8, oI G q8 8, oX4 q9 q10 q11 q12 q13 q14 q15, oI G q10 8, oI G q11 8, oI G q12 8, oI G q13 8, oI G q14 8, oI G q15 8, (q16, .inl (G.2.2 12, 2, .inr (.inr (.inr (.inr (va_up (va_up (fun _ => none) 0 (some q34)) 1 (some q41))))))), oZ G q17 2, oX3 q18 q19, oI G q19 60, (q20, .inl (G.2.2 13, 11, .inr (.inr (.inr (.inr (va_up (va_up (va_up (va_up (va_up (va_up (va_up (va_up (va_up (va_up (va_up (fun _ => none) 0 (some q48)) 1 (some q50)) 2 (some q52)) 3 (some q54)) 4 (some q56)) 5 (some q58)) 6 (some q60)) 7 (some q62)) 8 (some q64)) 9 (some q66)) 10 (some q68))))))), oX0 q21 q22 q23 q24, oI G q22 7, oI G q23 7, oI G q24 7, oX1 q25 q26 q27 q28, oI G q26 7, oI G q27 7, oI G q28 7, oX7 q29, oX5 q30 q31 q32, oI G q31 3, oI G q32 8, oL G q33 8, oX4 q34 q35 q36 q37 q38 q39 q40, oI G q35 8, oI G q36 8, oI G q37 8, oI G q38 8, oI G q39 8, oI G q40 8, oX4 q41 q42 q43 q44 q45 q46 q47, oI G q42 8, oI G q43 8, oI G q44 8, oI G q45 8, oI G q46 8, oI G q47 8, oX6 q48 q49, oI G q49 8, oX6 q50 q51, oI G q51 8, oX6 q52 q53, oI G q53 8, oX6 q54 q55, oI G q55 8, oX6 q56 q57, oI G q57 8, oX6 q58 q59, oI G q59 8, oX6 q60 q61, oI G q61 8, oX6 q62 q63, oI G q63 8, oX6 q64 q65, oI G q65 8, oX6 q66 q67, oI G q67 8, oX6 q68 q69, oI G q69 8]) (c0 := (q70, .inr (8, u0X9))) hX hU hC ul_L_12 uk_X9 rfl (u_X9 (fun q71 q72 q73 q74 q75 q76 q77 q78 q79 q80 q81 q82 q83 q84 q85 q86 q87 => ?_)) (by decide) (by decide) (Nat.le_of_ble_eq_true rfl) dL_law_12
  rw [List.append_assoc]
  show U G 4 X 87 1749 15 [(1, .ref q1), (0, .ref b)] [.ref q70] (([] : va_W) ++ [oX8 q1 q2 q9 q16 q17 q18 q20 q21 q25 q29 q30 q33, oX4 q2 q3 q4 q5 q6 q7 q8, oI G q3 8, oI G q4 8, oI G q5 8, oI G q6 8, oI G q7 8, oI G q8 8, oX4 q9 q10 q11 q12 q13 q14 q15, oI G q10 8, oI G q11 8, oI G q12 8, oI G q13 8, oI G q14 8, oI G q15 8, (q16, .inl (G.2.2 12, 2, .inr (.inr (.inr (.inr (va_up (va_up (fun _ => none) 0 (some q34)) 1 (some q41))))))), oZ G q17 2, oX3 q18 q19, oI G q19 60, (q20, .inl (G.2.2 13, 11, .inr (.inr (.inr (.inr (va_up (va_up (va_up (va_up (va_up (va_up (va_up (va_up (va_up (va_up (va_up (fun _ => none) 0 (some q48)) 1 (some q50)) 2 (some q52)) 3 (some q54)) 4 (some q56)) 5 (some q58)) 6 (some q60)) 7 (some q62)) 8 (some q64)) 9 (some q66)) 10 (some q68))))))), oX0 q21 q22 q23 q24, oI G q22 7, oI G q23 7, oI G q24 7, oX1 q25 q26 q27 q28, oI G q26 7, oI G q27 7, oI G q28 7, oX7 q29, oX5 q30 q31 q32, oI G q31 3, oI G q32 8, oL G q33 8, oX4 q34 q35 q36 q37 q38 q39 q40, oI G q35 8, oI G q36 8, oI G q37 8, oI G q38 8, oI G q39 8, oI G q40 8, oX4 q41 q42 q43 q44 q45 q46 q47, oI G q42 8, oI G q43 8, oI G q44 8, oI G q45 8, oI G q46 8, oI G q47 8, oX6 q48 q49, oI G q49 8, oX6 q50 q51, oI G q51 8, oX6 q52 q53, oI G q53 8, oX6 q54 q55, oI G q55 8, oX6 q56 q57, oI G q57 8, oX6 q58 q59, oI G q59 8, oX6 q60 q61, oI G q61 8, oX6 q62 q63, oI G q63 8, oX6 q64 q65, oI G q65 8, oX6 q66 q67, oI G q67 8, oX6 q68 q69, oI G q69 8, oX9 q70 q71 q72 q73 q74 q75 q76 q77 q78 q79 q80 q81 q82 q83 q84 q85 q86 q87, oI G q71 8, oI G q72 8, oI G q73 8, oI G q74 8, oI G q75 16, oI G q76 61, oI G q77 61, oI G q78 8, oI G q79 8, oI G q80 61, oI G q81 61, oI G q82 61, oI G q83 488, oI G q84 61, oI G q85 8, oI G q86 140, oZ G q87 2])
  refine U_astore_n (ls' := [(2, .ref q70), (1, .ref q1), (0, .ref b)]) hX dL_law_15 (by decide) rfl ?_
  refine U_iconst (v := 0) hX dL_law_16 (by decide) ?_
  refine U_istore_n (ls' := [(3, .int 0), (2, .ref q70), (1, .ref q1), (0, .ref b)]) hX dL_law_17 (by decide) rfl ?_
  exact hV q1 q2 q3 q4 q5 q6 q7 q8 q9 q10 q11 q12 q13 q14 q15 q16 q17 q18 q19 q20 q21 q22 q23 q24 q25 q26 q27 q28 q29 q30 q31 q32 q33 q34 q35 q36 q37 q38 q39 q40 q41 q42 q43 q44 q45 q46 q47 q48 q49 q50 q51 q52 q53 q54 q55 q56 q57 q58 q59 q60 q61 q62 q63 q64 q65 q66 q67 q68 q69 q70 q71 q72 q73 q74 q75 q76 q77 q78 q79 q80 q81 q82 q83 q84 q85 q86 q87
def adF (l : List Nat) (f : Nat → Nat) : Nat → Nat := fun i => match l[i]? with
  | some a => a
  | none => f i
theorem vp_q_congr {cA : ClassId} {n : Nat} {f g : Nat → Option Nat} (h : ∀ j, j < n → f j = g j) : vp_cell cA (n, .inr (.inr (.inr (.inr f)))) = vp_cell cA (n, .inr (.inr (.inr (.inr g)))) := by
  rw [vp_cell_q, vp_cell_q]
  have e : (fun j : Fin n => va_rf (f j.val)) = fun j : Fin n => va_rf (g j.val) := funext (fun j => by rw [h j.val j.isLt])
  unfold arrV
  rw [e]
def parI (k : Nat) : Int32 := match k with
  | 0 => 2
  | 1 => 4
  | 2 => 1
  | _ => 0
def modI (k : Nat) : Int32 := match k with
  | 0 => 2
  | 7 => 4
  | 8 => 1
  | _ => 0
def rivI (k : Nat) : Int32 := match k with
  | 1 => -6
  | _ => 0
def weaL (k : Nat) : Int64 := match k with
  | 2 => 1
  | _ => 0
def mu0 : VS := (fun i => if i = 1 then parI else if i = 8 then parI else if i = 16 then parI else if i = 23 then parI else if i = 65 then rivI else if i = 69 then modI else fun _ => 0, fun i => if i = 64 then weaL else fun _ => 0)
def P0 : PC := fun a b => if a = 0 then (match b with
  | 0 => 2
  | 1 => 4
  | 2 => 1
  | _ => 0) else 0
theorem ok_0 : okS P0 0 (fun _ => 0) (fun _ => 0) (fun _ => P0) := by
  refine ⟨⟨by decide, by decide, by decide, by decide, by decide, by decide, by decide, fun h _ => ⟨by show 0 < 12; decide, by show 0 ≤ 20; decide, by show 0 ≤ 5; decide, by show 0 ≤ 1; decide⟩, fun i _ => ⟨by show 0 < 60; decide, by show 0 ≤ 8; decide⟩, fun h _ q => ?_, fun h _ g _ q => ?_⟩, ⟨by decide, fun i hi => absurd hi (by omega)⟩, fun n _ => ⟨Nat.zero_le _, fun z => absurd (show (0 : Nat) = 1 from z) (by decide)⟩⟩
  · have : (0 : Nat).testBit h = true := q
    rw [Nat.zero_testBit] at this
    exact absurd this (by decide)
  · have : (0 : Nat).testBit h = true := q
    rw [Nat.zero_testBit] at this
    exact absurd this (by decide)
theorem rc_0 : RC mu0 P0 0 (fun _ => 0) (fun _ => 0) (fun _ => P0) := by
  refine ⟨⟨fun k hk => ?_, fun j hj k hk => ?_⟩, ⟨rfl, fun i hi => absurd hi (by omega)⟩, fun n hn => ⟨rfl, fun z => absurd (show (0 : Nat) = 1 from z) (by decide)⟩⟩
  · match k, hk with
    | 0, _ => rfl
    | 1, _ => rfl
    | 2, _ => rfl
    | 3, _ => rfl
    | 4, _ => rfl
    | 5, _ => rfl
    | 6, _ => rfl
  · match j, hj with
    | 0, _ => rfl
    | 1, _ => rfl
    | 2, _ => rfl
    | 3, _ => rfl
    | 4, _ => rfl
    | 5, _ => rfl
theorem rm_0 : RM mu0 P0 0 (fun _ => 0) (fun _ => 0) (fun _ => P0) := by
  refine ⟨⟨fun k hk => ?_, fun j hj k hk => ?_, fun i hi => ⟨rfl, rfl⟩⟩, ⟨rfl, fun i hi => absurd hi (by omega)⟩, fun n hn => ⟨rfl, fun z => absurd (show (0 : Nat) = 1 from z) (by decide)⟩⟩
  · match k, hk with
    | 0, _ => rfl
    | 1, _ => rfl
    | 2, _ => rfl
    | 3, _ => rfl
    | 4, _ => rfl
    | 5, _ => rfl
    | 6, _ => rfl
  · match j, hj with
    | 0, _ => rfl
    | 1, _ => rfl
    | 2, _ => rfl
    | 3, _ => rfl
