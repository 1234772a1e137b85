theorem uo_i : Cond.instanceMethod Lib.objectInit ∈ lw_tbl := List.mem_of_getElem? (i := 64) (by decide +kernel)
theorem uo_c : Cond.code Lib.objectInit ⟨#[0xb1]⟩ 1 none ∈ lw_tbl := List.mem_of_getElem? (i := 65) (by decide +kernel)
theorem ua_i : Cond.arrayClass .int ∈ lw_tbl := List.mem_of_getElem? (i := 134) (by decide +kernel)
theorem ua_l : Cond.arrayClass .long ∈ lw_tbl := List.mem_of_getElem? (i := 316) (by decide +kernel)
theorem ua_z : Cond.arrayClass .boolean ∈ lw_tbl := List.mem_of_getElem? (i := 157) (by decide +kernel)
theorem ua_p : Cond.arrayOver (.object RX4) ∈ lw_tbl := List.mem_of_getElem? (i := 135) (by decide +kernel)
theorem ua_w : Cond.arrayOver (.object RX6) ∈ lw_tbl := List.mem_of_getElem? (i := 159) (by decide +kernel)
theorem un_X0 : Cond.instantiable RX0 7 ∈ lw_tbl := List.mem_of_getElem? (i := 161) (by decide +kernel)
theorem ui_X0 : Cond.initialized RX0 ∈ lw_tbl := List.mem_of_getElem? (i := 49) (by decide +kernel)
theorem um_X0 : Cond.instanceMethod yX0_init ∈ lw_tbl := List.mem_of_getElem? (i := 163) (by decide +kernel)
theorem uc_X0 : Cond.code yX0_init cX0_init 1 none ∈ lw_tbl := List.mem_of_getElem? (i := 164) (by decide +kernel)
theorem uk_X0 : uMI yX0_init cX0_init 1 := ⟨um_X0, ui_X0, uc_X0, rfl, ⟨by decide +kernel, by decide +kernel, by decide +kernel⟩, by decide +kernel, by decide, by decide⟩
theorem un_X1 : Cond.instantiable RX1 6 ∈ lw_tbl := List.mem_of_getElem? (i := 203) (by decide +kernel)
theorem ui_X1 : Cond.initialized RX1 ∈ lw_tbl := List.mem_of_getElem? (i := 50) (by decide +kernel)
theorem um_X1 : Cond.instanceMethod yX1_init ∈ lw_tbl := List.mem_of_getElem? (i := 205) (by decide +kernel)
theorem uc_X1 : Cond.code yX1_init cX1_init 1 none ∈ lw_tbl := List.mem_of_getElem? (i := 206) (by decide +kernel)
theorem uk_X1 : uMI yX1_init cX1_init 1 := ⟨um_X1, ui_X1, uc_X1, rfl, ⟨by decide +kernel, by decide +kernel, by decide +kernel⟩, by decide +kernel, by decide, by decide⟩
theorem ui_X2 : Cond.initialized RX2 ∈ lw_tbl := List.mem_of_getElem? (i := 48) (by decide +kernel)
theorem um_X2 : Cond.instanceMethod yX2_init ∈ lw_tbl := List.mem_of_getElem? (i := 166) (by decide +kernel)
theorem uc_X2 : Cond.code yX2_init cX2_init 1 none ∈ lw_tbl := List.mem_of_getElem? (i := 167) (by decide +kernel)
theorem uk_X2 : uMI yX2_init cX2_init 1 := ⟨um_X2, ui_X2, uc_X2, rfl, ⟨by decide +kernel, by decide +kernel, by decide +kernel⟩, by decide +kernel, by decide, by decide⟩
theorem un_X3 : Cond.instantiable RX3 2 ∈ lw_tbl := List.mem_of_getElem? (i := 137) (by decide +kernel)
theorem ui_X3 : Cond.initialized RX3 ∈ lw_tbl := List.mem_of_getElem? (i := 47) (by decide +kernel)
theorem um_X3 : Cond.instanceMethod yX3_init ∈ lw_tbl := List.mem_of_getElem? (i := 139) (by decide +kernel)
theorem uc_X3 : Cond.code yX3_init cX3_init 1 none ∈ lw_tbl := List.mem_of_getElem? (i := 140) (by decide +kernel)
theorem uk_X3 : uMI yX3_init cX3_init 1 := ⟨um_X3, ui_X3, uc_X3, rfl, ⟨by decide +kernel, by decide +kernel, by decide +kernel⟩, by decide +kernel, by decide, by decide⟩
theorem un_X4 : Cond.instantiable RX4 13 ∈ lw_tbl := List.mem_of_getElem? (i := 67) (by decide +kernel)
theorem ui_X4 : Cond.initialized RX4 ∈ lw_tbl := List.mem_of_getElem? (i := 46) (by decide +kernel)
theorem um_X4 : Cond.instanceMethod yX4_init ∈ lw_tbl := List.mem_of_getElem? (i := 69) (by decide +kernel)
theorem uc_X4 : Cond.code yX4_init cX4_init 1 none ∈ lw_tbl := List.mem_of_getElem? (i := 70) (by decide +kernel)
theorem uk_X4 : uMI yX4_init cX4_init 1 := ⟨um_X4, ui_X4, uc_X4, rfl, ⟨by decide +kernel, by decide +kernel, by decide +kernel⟩, by decide +kernel, by decide, by decide⟩
theorem un_X5 : Cond.instantiable RX5 3 ∈ lw_tbl := List.mem_of_getElem? (i := 244) (by decide +kernel)
theorem ui_X5 : Cond.initialized RX5 ∈ lw_tbl := List.mem_of_getElem? (i := 52) (by decide +kernel)
theorem um_X5 : Cond.instanceMethod yX5_init ∈ lw_tbl := List.mem_of_getElem? (i := 246) (by decide +kernel)
theorem uc_X5 : Cond.code yX5_init cX5_init 1 none ∈ lw_tbl := List.mem_of_getElem? (i := 247) (by decide +kernel)
theorem uk_X5 : uMI yX5_init cX5_init 1 := ⟨um_X5, ui_X5, uc_X5, rfl, ⟨by decide +kernel, by decide +kernel, by decide +kernel⟩, by decide +kernel, by decide, by decide⟩
theorem un_X6 : Cond.instantiable RX6 13 ∈ lw_tbl := List.mem_of_getElem? (i := 261) (by decide +kernel)
theorem ui_X6 : Cond.initialized RX6 ∈ lw_tbl := List.mem_of_getElem? (i := 53) (by decide +kernel)
theorem um_X6 : Cond.instanceMethod yX6_init ∈ lw_tbl := List.mem_of_getElem? (i := 263) (by decide +kernel)
theorem uc_X6 : Cond.code yX6_init cX6_init 1 none ∈ lw_tbl := List.mem_of_getElem? (i := 264) (by decide +kernel)
theorem uk_X6 : uMI yX6_init cX6_init 1 := ⟨um_X6, ui_X6, uc_X6, rfl, ⟨by decide +kernel, by decide +kernel, by decide +kernel⟩, by decide +kernel, by decide, by decide⟩
theorem un_X7 : Cond.instantiable RX7 4 ∈ lw_tbl := List.mem_of_getElem? (i := 222) (by decide +kernel)
theorem ui_X7 : Cond.initialized RX7 ∈ lw_tbl := List.mem_of_getElem? (i := 51) (by decide +kernel)
theorem um_X7 : Cond.instanceMethod yX7_init ∈ lw_tbl := List.mem_of_getElem? (i := 224) (by decide +kernel)
theorem uc_X7 : Cond.code yX7_init cX7_init 1 none ∈ lw_tbl := List.mem_of_getElem? (i := 225) (by decide +kernel)
theorem uk_X7 : uMI yX7_init cX7_init 1 := ⟨um_X7, ui_X7, uc_X7, rfl, ⟨by decide +kernel, by decide +kernel, by decide +kernel⟩, by decide +kernel, by decide, by decide⟩
theorem un_X8 : Cond.instantiable RX8 11 ∈ lw_tbl := List.mem_of_getElem? (i := 59) (by decide +kernel)
theorem ui_X8 : Cond.initialized RX8 ∈ lw_tbl := List.mem_of_getElem? (i := 45) (by decide +kernel)
theorem um_X8 : Cond.instanceMethod yX8_init ∈ lw_tbl := List.mem_of_getElem? (i := 61) (by decide +kernel)
theorem uc_X8 : Cond.code yX8_init cX8_init 2 none ∈ lw_tbl := List.mem_of_getElem? (i := 62) (by decide +kernel)
theorem uk_X8 : uMI yX8_init cX8_init 2 := ⟨um_X8, ui_X8, uc_X8, rfl, ⟨by decide +kernel, by decide +kernel, by decide +kernel⟩, by decide +kernel, by decide, by decide⟩
theorem un_X9 : Cond.instantiable RX9 37 ∈ lw_tbl := List.mem_of_getElem? (i := 794) (by decide +kernel)
theorem ui_X9 : Cond.initialized RX9 ∈ lw_tbl := List.mem_of_getElem? (i := 54) (by decide +kernel)
theorem um_X9 : Cond.instanceMethod yX9_init ∈ lw_tbl := List.mem_of_getElem? (i := 796) (by decide +kernel)
theorem uc_X9 : Cond.code yX9_init cX9_init 1 none ∈ lw_tbl := List.mem_of_getElem? (i := 797) (by decide +kernel)
theorem uk_X9 : uMI yX9_init cX9_init 1 := ⟨um_X9, ui_X9, uc_X9, rfl, ⟨by decide +kernel, by decide +kernel, by decide +kernel⟩, by decide +kernel, by decide, by decide⟩
theorem uy_L_7 : Cond.classLink RL 7 RX8 ∈ lw_tbl := List.mem_of_getElem? (i := 58) (by decide +kernel)
theorem ul_L_9 : Cond.methodLink RL 9 yX8_init ∈ lw_tbl := List.mem_of_getElem? (i := 60) (by decide +kernel)
theorem ul_X8_1 : Cond.methodLink RX8 1 Lib.objectInit ∈ lw_tbl := List.mem_of_getElem? (i := 63) (by decide +kernel)
theorem uy_X8_7 : Cond.classLink RX8 7 RX4 ∈ lw_tbl := List.mem_of_getElem? (i := 66) (by decide +kernel)
theorem ul_X8_9 : Cond.methodLinkNest RX8 9 yX4_init "NodTax" ∈ lw_tbl := List.mem_of_getElem? (i := 68) (by decide +kernel)
theorem ul_X4_3 : Cond.methodLink RX4 3 Lib.objectInit ∈ lw_tbl := List.mem_of_getElem? (i := 71) (by decide +kernel)
theorem uy_X8_27 : Cond.classLink RX8 27 RX3 ∈ lw_tbl := List.mem_of_getElem? (i := 136) (by decide +kernel)
theorem ul_X8_29 : Cond.methodLinkNest RX8 29 yX3_init "NodTax" ∈ lw_tbl := List.mem_of_getElem? (i := 138) (by decide +kernel)
theorem ul_X3_3 : Cond.methodLink RX3 3 Lib.objectInit ∈ lw_tbl := List.mem_of_getElem? (i := 141) (by decide +kernel)
theorem uy_X8_34 : Cond.classLink RX8 34 RX6 ∈ lw_tbl := List.mem_of_getElem? (i := 158) (by decide +kernel)
theorem uy_X8_40 : Cond.classLink RX8 40 RX0 ∈ lw_tbl := List.mem_of_getElem? (i := 160) (by decide +kernel)
theorem ul_X8_42 : Cond.methodLinkNest RX8 42 yX0_init "NodTax" ∈ lw_tbl := List.mem_of_getElem? (i := 162) (by decide +kernel)
theorem ul_X0_3 : Cond.methodLinkNest RX0 3 yX2_init "NodTax" ∈ lw_tbl := List.mem_of_getElem? (i := 165) (by decide +kernel)
theorem ul_X2_3 : Cond.methodLink RX2 3 Lib.objectInit ∈ lw_tbl := List.mem_of_getElem? (i := 168) (by decide +kernel)
theorem uy_X8_47 : Cond.classLink RX8 47 RX1 ∈ lw_tbl := List.mem_of_getElem? (i := 202) (by decide +kernel)
theorem ul_X8_49 : Cond.methodLinkNest RX8 49 yX1_init "NodTax" ∈ lw_tbl := List.mem_of_getElem? (i := 204) (by decide +kernel)
theorem ul_X1_3 : Cond.methodLinkNest RX1 3 yX2_init "NodTax" ∈ lw_tbl := List.mem_of_getElem? (i := 207) (by decide +kernel)
theorem uy_X8_54 : Cond.classLink RX8 54 RX7 ∈ lw_tbl := List.mem_of_getElem? (i := 221) (by decide +kernel)
theorem ul_X8_56 : Cond.methodLinkNest RX8 56 yX7_init "NodTax" ∈ lw_tbl := List.mem_of_getElem? (i := 223) (by decide +kernel)
theorem ul_X7_3 : Cond.methodLink RX7 3 Lib.objectInit ∈ lw_tbl := List.mem_of_getElem? (i := 226) (by decide +kernel)
theorem uy_X8_61 : Cond.classLink RX8 61 RX5 ∈ lw_tbl := List.mem_of_getElem? (i := 243) (by decide +kernel)
theorem ul_X8_63 : Cond.methodLinkNest RX8 63 yX5_init "NodTax" ∈ lw_tbl := List.mem_of_getElem? (i := 245) (by decide +kernel)
theorem ul_X5_3 : Cond.methodLink RX5 3 Lib.objectInit ∈ lw_tbl := List.mem_of_getElem? (i := 248) (by decide +kernel)
theorem ul_X8_72 : Cond.methodLinkNest RX8 72 yX6_init "NodTax" ∈ lw_tbl := List.mem_of_getElem? (i := 262) (by decide +kernel)
theorem ul_X6_3 : Cond.methodLink RX6 3 Lib.objectInit ∈ lw_tbl := List.mem_of_getElem? (i := 265) (by decide +kernel)
theorem uy_L_10 : Cond.classLink RL 10 RX9 ∈ lw_tbl := List.mem_of_getElem? (i := 793) (by decide +kernel)
theorem ul_L_12 : Cond.methodLink RL 12 yX9_init ∈ lw_tbl := List.mem_of_getElem? (i := 795) (by decide +kernel)
theorem ul_X9_1 : Cond.methodLink RX9 1 Lib.objectInit ∈ lw_tbl := List.mem_of_getElem? (i := 798) (by decide +kernel)
abbrev u0X0 : List Value := [.null, .null, .null, .int 0, .int 0, .int 0, .int 0]
theorem ud_X0 : ∀ j, j < 7 → defaultValue (tyX0 j) = vp_V u0X0 j := by
  intro j hj
  match j, hj with
  | 0, _ => rfl
  | 1, _ => rfl
  | 2, _ => rfl
  | 3, _ => rfl
  | 4, _ => rfl
  | 5, _ => rfl
  | 6, _ => rfl
  | j + 7, hj => exact absurd hj (by omega)
abbrev u0X1 : List Value := [.null, .null, .null, .int 0, .int 0, .int 0]
theorem ud_X1 : ∀ j, j < 6 → defaultValue (tyX1 j) = vp_V u0X1 j := by
  intro j hj
  match j, hj with
  | 0, _ => rfl
  | 1, _ => rfl
  | 2, _ => rfl
  | 3, _ => rfl
  | 4, _ => rfl
  | 5, _ => rfl
  | j + 6, hj => exact absurd hj (by omega)
abbrev u0X3 : List Value := [.null, .int 0]
theorem ud_X3 : ∀ j, j < 2 → defaultValue (tyX3 j) = vp_V u0X3 j := by
  intro j hj
  match j, hj with
  | 0, _ => rfl
  | 1, _ => rfl
  | j + 2, hj => exact absurd hj (by omega)
abbrev u0X4 : List Value := [.int 0, .int 0, .int 0, .int 0, .int 0, .int 0, .int 0, .null, .null, .null, .null, .null, .null]
theorem ud_X4 : ∀ j, j < 13 → defaultValue (tyX4 j) = vp_V u0X4 j := by
  intro j hj
  match j, hj with
  | 0, _ => rfl
  | 1, _ => rfl
  | 2, _ => rfl
  | 3, _ => rfl
  | 4, _ => rfl
  | 5, _ => rfl
  | 6, _ => rfl
  | 7, _ => rfl
  | 8, _ => rfl
  | 9, _ => rfl
  | 10, _ => rfl
  | 11, _ => rfl
  | 12, _ => rfl
  | j + 13, hj => exact absurd hj (by omega)
abbrev u0X5 : List Value := [.null, .int 0, .null]
theorem ud_X5 : ∀ j, j < 3 → defaultValue (tyX5 j) = vp_V u0X5 j := by
  intro j hj
  match j, hj with
  | 0, _ => rfl
  | 1, _ => rfl
  | 2, _ => rfl
  | j + 3, hj => exact absurd hj (by omega)
abbrev u0X6 : List Value := [.null, .int 0, .int 0, .int 0, .int 0, .int 0, .int 0, .int 0, .int 0, .int 0, .int 0, .int 0, .int 0]
theorem ud_X6 : ∀ j, j < 13 → defaultValue (tyX6 j) = vp_V u0X6 j := by
  intro j hj
  match j, hj with
  | 0, _ => rfl
  | 1, _ => rfl
  | 2, _ => rfl
  | 3, _ => rfl
  | 4, _ => rfl
  | 5, _ => rfl
  | 6, _ => rfl
  | 7, _ => rfl
  | 8, _ => rfl
  | 9, _ => rfl
  | 10, _ => rfl
  | 11, _ => rfl
  | 12, _ => rfl
  | j + 13, hj => exact absurd hj (by omega)
abbrev u0X7 : List Value := [.long 0, .long 0, .long 0, .int 0]
theorem ud_X7 : ∀ j, j < 4 → defaultValue (tyX7 j) = vp_V u0X7 j := by
  intro j hj
  match j, hj with
  | 0, _ => rfl
  | 1, _ => rfl
  | 2, _ => rfl
  | 3, _ => rfl
  | j + 4, hj => exact absurd hj (by omega)
abbrev u0X8 : List Value := [.null, .null, .null, .null, .null, .null, .null, .null, .null, .null, .null]
theorem ud_X8 : ∀ j, j < 11 → defaultValue (tyX8 j) = vp_V u0X8 j := by
  intro j hj
  match j, hj with
  | 0, _ => rfl
  | 1, _ => rfl
  | 2, _ => rfl
  | 3, _ => rfl
  | 4, _ => rfl
  | 5, _ => rfl
  | 6, _ => rfl
  | 7, _ => rfl
  | 8, _ => rfl
  | 9, _ => rfl
  | 10, _ => rfl
  | j + 11, hj => exact absurd hj (by omega)
abbrev u0X9 : List Value := [.int 0, .int 0, .null, .null, .null, .null, .int 0, .int 0, .int 0, .int 0, .int 0, .null, .int 0, .null, .null, .int 0, .null, .int 0, .int 0, .int 0, .null, .null, .null, .null, .null, .int 0, .int 0, .int 0, .int 0, .int 0, .int 0, .int 0, .null, .int 0, .null, .null, .null]
theorem ud_X9 : ∀ j, j < 37 → defaultValue (tyX9 j) = vp_V u0X9 j := by
  intro j hj
  match j, hj with
  | 0, _ => rfl
  | 1, _ => rfl
  | 2, _ => rfl
  | 3, _ => rfl
  | 4, _ => rfl
  | 5, _ => rfl
  | 6, _ => rfl
  | 7, _ => rfl
  | 8, _ => rfl
  | 9, _ => rfl
  | 10, _ => rfl
  | 11, _ => rfl
  | 12, _ => rfl
  | 13, _ => rfl
  | 14, _ => rfl
  | 15, _ => rfl
  | 16, _ => rfl
  | 17, _ => rfl
  | 18, _ => rfl
  | 19, _ => rfl
  | 20, _ => rfl
  | 21, _ => rfl
  | 22, _ => rfl
  | 23, _ => rfl
  | 24, _ => rfl
  | 25, _ => rfl
  | 26, _ => rfl
  | 27, _ => rfl
  | 28, _ => rfl
  | 29, _ => rfl
  | 30, _ => rfl
  | 31, _ => rfl
  | 32, _ => rfl
  | 33, _ => rfl
  | 34, _ => rfl
  | 35, _ => rfl
  | 36, _ => rfl
  | j + 37, hj => exact absurd hj (by omega)
theorem ff_0_0 : vFF 0 0 (.array .int) RX2 := ⟨RX0, TX0, 7, tyX0, rfl, tyX0_ok, nmX0, rfl, by decide +kernel, rfl⟩
theorem ff_0_1 : vFF 0 1 (.array .int) RX2 := ⟨RX0, TX0, 7, tyX0, rfl, tyX0_ok, nmX0, rfl, by decide +kernel, rfl⟩
theorem ff_0_2 : vFF 0 2 (.array .int) RX2 := ⟨RX0, TX0, 7, tyX0, rfl, tyX0_ok, nmX0, rfl, by decide +kernel, rfl⟩
theorem ff_1_0 : vFF 1 0 (.array .int) RX2 := ⟨RX1, TX1, 6, tyX1, rfl, tyX1_ok, nmX1, rfl, by decide +kernel, rfl⟩
theorem ff_1_1 : vFF 1 1 (.array .int) RX2 := ⟨RX1, TX1, 6, tyX1, rfl, tyX1_ok, nmX1, rfl, by decide +kernel, rfl⟩
theorem ff_1_2 : vFF 1 2 (.array .int) RX2 := ⟨RX1, TX1, 6, tyX1, rfl, tyX1_ok, nmX1, rfl, by decide +kernel, rfl⟩
theorem ff_2_0 : vFF 2 0 (.array .int) RX3 := ⟨RX3, TX3, 2, tyX3, rfl, tyX3_ok, nmX3, rfl, by decide +kernel, rfl⟩
theorem ff_3_7 : vFF 3 7 (.array .int) RX4 := ⟨RX4, TX4, 13, tyX4, rfl, tyX4_ok, nmX4, rfl, by decide +kernel, rfl⟩
theorem ff_3_8 : vFF 3 8 (.array .int) RX4 := ⟨RX4, TX4, 13, tyX4, rfl, tyX4_ok, nmX4, rfl, by decide +kernel, rfl⟩
theorem ff_3_9 : vFF 3 9 (.array .int) RX4 := ⟨RX4, TX4, 13, tyX4, rfl, tyX4_ok, nmX4, rfl, by decide +kernel, rfl⟩
theorem ff_3_10 : vFF 3 10 (.array .int) RX4 := ⟨RX4, TX4, 13, tyX4, rfl, tyX4_ok, nmX4, rfl, by decide +kernel, rfl⟩
theorem ff_3_11 : vFF 3 11 (.array .int) RX4 := ⟨RX4, TX4, 13, tyX4, rfl, tyX4_ok, nmX4, rfl, by decide +kernel, rfl⟩
theorem ff_3_12 : vFF 3 12 (.array .int) RX4 := ⟨RX4, TX4, 13, tyX4, rfl, tyX4_ok, nmX4, rfl, by decide +kernel, rfl⟩
theorem ff_4_0 : vFF 4 0 (.array .int) RX5 := ⟨RX5, TX5, 3, tyX5, rfl, tyX5_ok, nmX5, rfl, by decide +kernel, rfl⟩
theorem ff_4_2 : vFF 4 2 (.array .int) RX5 := ⟨RX5, TX5, 3, tyX5, rfl, tyX5_ok, nmX5, rfl, by decide +kernel, rfl⟩
theorem ff_5_0 : vFF 5 0 (.array .int) RX6 := ⟨RX6, TX6, 13, tyX6, rfl, tyX6_ok, nmX6, rfl, by decide +kernel, rfl⟩
theorem ff_7_0 : vFF 7 0 (.object "NodTax$Parish") RX8 := ⟨RX8, TX8, 11, tyX8, rfl, tyX8_ok, nmX8, rfl, by decide +kernel, rfl⟩
theorem ff_7_1 : vFF 7 1 (.object "NodTax$Parish") RX8 := ⟨RX8, TX8, 11, tyX8, rfl, tyX8_ok, nmX8, rfl, by decide +kernel, rfl⟩
theorem ff_7_2 : vFF 7 2 (.array (.object "NodTax$Parish")) RX8 := ⟨RX8, TX8, 11, tyX8, rfl, tyX8_ok, nmX8, rfl, by decide +kernel, rfl⟩
theorem ff_7_3 : vFF 7 3 (.array .boolean) RX8 := ⟨RX8, TX8, 11, tyX8, rfl, tyX8_ok, nmX8, rfl, by decide +kernel, rfl⟩
theorem ff_7_4 : vFF 7 4 (.object "NodTax$Pad") RX8 := ⟨RX8, TX8, 11, tyX8, rfl, tyX8_ok, nmX8, rfl, by decide +kernel, rfl⟩
theorem ff_7_5 : vFF 7 5 (.array (.object "NodTax$Walk")) RX8 := ⟨RX8, TX8, 11, tyX8, rfl, tyX8_ok, nmX8, rfl, by decide +kernel, rfl⟩
theorem ff_7_6 : vFF 7 6 (.object "NodTax$CheapestOrder") RX8 := ⟨RX8, TX8, 11, tyX8, rfl, tyX8_ok, nmX8, rfl, by decide +kernel, rfl⟩
theorem ff_7_7 : vFF 7 7 (.object "NodTax$FittingOrders") RX8 := ⟨RX8, TX8, 11, tyX8, rfl, tyX8_ok, nmX8, rfl, by decide +kernel, rfl⟩
theorem ff_7_8 : vFF 7 8 (.object "NodTax$Weather") RX8 := ⟨RX8, TX8, 11, tyX8, rfl, tyX8_ok, nmX8, rfl, by decide +kernel, rfl⟩
theorem ff_7_9 : vFF 7 9 (.object "NodTax$Rivals") RX8 := ⟨RX8, TX8, 11, tyX8, rfl, tyX8_ok, nmX8, rfl, by decide +kernel, rfl⟩
theorem ff_7_10 : vFF 7 10 (.array .long) RX8 := ⟨RX8, TX8, 11, tyX8, rfl, tyX8_ok, nmX8, rfl, by decide +kernel, rfl⟩
theorem ff_8_2 : vFF 8 2 (.array .int) RX9 := ⟨RX9, TX9, 37, tyX9, rfl, tyX9_ok, nmX9, rfl, by decide +kernel, rfl⟩
theorem ff_8_3 : vFF 8 3 (.array .int) RX9 := ⟨RX9, TX9, 37, tyX9, rfl, tyX9_ok, nmX9, rfl, by decide +kernel, rfl⟩
theorem ff_8_4 : vFF 8 4 (.array .int) RX9 := ⟨RX9, TX9, 37, tyX9, rfl, tyX9_ok, nmX9, rfl, by decide +kernel, rfl⟩
theorem ff_8_5 : vFF 8 5 (.array .int) RX9 := ⟨RX9, TX9, 37, tyX9, rfl, tyX9_ok, nmX9, rfl, by decide +kernel, rfl⟩
theorem ff_8_11 : vFF 8 11 (.array .int) RX9 := ⟨RX9, TX9, 37, tyX9, rfl, tyX9_ok, nmX9, rfl, by decide +kernel, rfl⟩
theorem ff_8_13 : vFF 8 13 (.array .int) RX9 := ⟨RX9, TX9, 37, tyX9, rfl, tyX9_ok, nmX9, rfl, by decide +kernel, rfl⟩
theorem ff_8_14 : vFF 8 14 (.array .int) RX9 := ⟨RX9, TX9, 37, tyX9, rfl, tyX9_ok, nmX9, rfl, by decide +kernel, rfl⟩
theorem ff_8_16 : vFF 8 16 (.array .int) RX9 := ⟨RX9, TX9, 37, tyX9, rfl, tyX9_ok, nmX9, rfl, by decide +kernel, rfl⟩
theorem ff_8_20 : vFF 8 20 (.array .int) RX9 := ⟨RX9, TX9, 37, tyX9, rfl, tyX9_ok, nmX9, rfl, by decide +kernel, rfl⟩
theorem ff_8_21 : vFF 8 21 (.array .int) RX9 := ⟨RX9, TX9, 37, tyX9, rfl, tyX9_ok, nmX9, rfl, by decide +kernel, rfl⟩
theorem ff_8_22 : vFF 8 22 (.array .int) RX9 := ⟨RX9, TX9, 37, tyX9, rfl, tyX9_ok, nmX9, rfl, by decide +kernel, rfl⟩
theorem ff_8_23 : vFF 8 23 (.array .int) RX9 := ⟨RX9, TX9, 37, tyX9, rfl, tyX9_ok, nmX9, rfl, by decide +kernel, rfl⟩
theorem ff_8_24 : vFF 8 24 (.array .int) RX9 := ⟨RX9, TX9, 37, tyX9, rfl, tyX9_ok, nmX9, rfl, by decide +kernel, rfl⟩
theorem ff_8_32 : vFF 8 32 (.array .int) RX9 := ⟨RX9, TX9, 37, tyX9, rfl, tyX9_ok, nmX9, rfl, by decide +kernel, rfl⟩
theorem ff_8_34 : vFF 8 34 (.array .int) RX9 := ⟨RX9, TX9, 37, tyX9, rfl, tyX9_ok, nmX9, rfl, by decide +kernel, rfl⟩
theorem ff_8_35 : vFF 8 35 (.array .int) RX9 := ⟨RX9, TX9, 37, tyX9, rfl, tyX9_ok, nmX9, rfl, by decide +kernel, rfl⟩
theorem ff_8_36 : vFF 8 36 (.array .boolean) RX9 := ⟨RX9, TX9, 37, tyX9, rfl, tyX9_ok, nmX9, rfl, by decide +kernel, rfl⟩
theorem UP_at {wp wl : va_W} {j : Nat} {x : Nat × va_E} (h : wl[j]? = some x) : (wp ++ wl)[wp.length + j]? = some x := by
  rw [List.getElem?_append_right (by omega), show wp.length + j - wp.length = j by omega]
  exact h
theorem UP_set {wp wl wl' : va_W} {j : Nat} {x : Nat × va_E} (h : wl.set j x = wl') : (wp ++ wl).set (wp.length + j) x = wp ++ wl' := by
  induction wp with
  | nil => show wl.set (0 + j) x = wl'; rw [Nat.zero_add]; exact h
  | cons a wp ih =>
    show (a :: (wp ++ wl)).set (wp.length + 1 + j) x = a :: (wp ++ wl')
    rw [show wp.length + 1 + j = (wp.length + j) + 1 by omega]
    show a :: (wp ++ wl).set (wp.length + j) x = _
    rw [ih]
section UPR
variable {G : VG} {d nL pc : Nat} {y : MethodName} {cc : ByteArray} {rt : Option FieldType} {X : VX} {ls : VL} {st : List Value} {wp wl wl' : va_W} {k n mc ms : Nat}
theorem UP_put {ci q idx a : Nat} {t : Nat × Nat} {ty : FieldType} {v : Value} {fs : List Value} (hX : Cx G d y cc nL rt X) (hf : vFL y.cls idx ci q t) (hw : vFW ci q ty) (i : Nat) (he : wl[i]? = some (a, .inr (ci, fs))) (hl9 : q < fs.length) (hn : narrow ty v = v) (hfit : fits ty v = true) (hd : decode cc pc = .ok (.putfield idx, 3)) (hs : wl.set i (a, .inr (ci, fs.set q v)) = wl') (kk : U G nL X k n (pc + 3) ls st (wp ++ wl')) : U G nL X k n pc ls (v :: .ref a :: st) (wp ++ wl) :=
  U_put hX hf hw (wp.length + i) (UP_at he) hl9 hn hfit hd (by rw [UP_set hs]; exact kk)
theorem UP_putF {ci q idx a : Nat} {t : Nat × Nat} {ty : FieldType} {v : Value} {fs : List Value} (hX : Cx G d y cc nL rt X) (hI : uI X) (hf : vFL y.cls idx ci q t) (hw : vFF ci q ty y.cls) (i : Nat) (he : wl[i]? = some (a, .inr (ci, fs))) (hl9 : q < fs.length) (hn : narrow ty v = v) (hfit : fits ty v = true) (hd : decode cc pc = .ok (.putfield idx, 3)) (hs : wl.set i (a, .inr (ci, fs.set q v)) = wl') (kk : U G nL X k n (pc + 3) ls st (wp ++ wl')) : U G nL X k n pc ls (v :: .ref a :: st) (wp ++ wl) :=
  U_putF hX hI hf hw (wp.length + i) (UP_at he) hl9 hn hfit hd (by rw [UP_set hs]; exact kk)
theorem UP_get {ci q idx a : Nat} {t : Nat × Nat} {v : Value} {fs : List Value} (hX : Cx G d y cc nL rt X) (hf : vFL y.cls idx ci q t) (i : Nat) (he : wl[i]? = some (a, .inr (ci, fs))) (hv9 : fs[q]? = some v) (hd : decode cc pc = .ok (.getfield idx, 3)) (kk : U G nL X k n (pc + 3) ls (v :: st) (wp ++ wl)) : U G nL X k n pc ls (.ref a :: st) (wp ++ wl) :=
  U_get hX hf (wp.length + i) (UP_at he) hv9 hd kk
theorem UP_newi {z : Int32} {N : Nat} (hX : Cx G d y cc nL rt X) (hC : uC X mc ms) (ha : Cond.arrayClass .int ∈ lw_tbl) (hz : ¬ z < 0) (hN : z.toNatClampNeg = N) (hb0 : N * componentBytes .int ≤ 536870912) (h1 : k + 1 ≤ mc) (h2 : n + N ≤ ms) (hd : decode cc pc = .ok (.newarray .int, 2)) (kk : ∀ q : Nat, U G nL X (k + 1) (n + N) (pc + 2) ls (.ref q :: st) (wp ++ (wl ++ [(q, .inl (G.2.2 9, N, .inl (fun _ => 0)))]))) : U G nL X k n pc ls (.int z :: st) (wp ++ wl) :=
  U_newi hX hC ha hz hN hb0 h1 h2 hd (fun q => by rw [List.append_assoc]; exact kk q)
theorem UP_newl {z : Int32} {N : Nat} (hX : Cx G d y cc nL rt X) (hC : uC X mc ms) (ha : Cond.arrayClass .long ∈ lw_tbl) (hz : ¬ z < 0) (hN : z.toNatClampNeg = N) (hb0 : N * componentBytes .long ≤ 536870912) (h1 : k + 1 ≤ mc) (h2 : n + N ≤ ms) (hd : decode cc pc = .ok (.newarray .long, 2)) (kk : ∀ q : Nat, U G nL X (k + 1) (n + N) (pc + 2) ls (.ref q :: st) (wp ++ (wl ++ [(q, .inl (G.2.2 10, N, .inr (.inl (fun _ => 0))))]))) : U G nL X k n pc ls (.int z :: st) (wp ++ wl) :=
  U_newl hX hC ha hz hN hb0 h1 h2 hd (fun q => by rw [List.append_assoc]; exact kk q)
theorem UP_newz {z : Int32} {N : Nat} (hX : Cx G d y cc nL rt X) (hC : uC X mc ms) (ha : Cond.arrayClass .boolean ∈ lw_tbl) (hz : ¬ z < 0) (hN : z.toNatClampNeg = N) (hb0 : N * componentBytes .boolean ≤ 536870912) (h1 : k + 1 ≤ mc) (h2 : n + N ≤ ms) (hd : decode cc pc = .ok (.newarray .boolean, 2)) (kk : ∀ q : Nat, U G nL X (k + 1) (n + N) (pc + 2) ls (.ref q :: st) (wp ++ (wl ++ [(q, .inl (G.2.2 11, N, .inl (fun _ => 0)))]))) : U G nL X k n pc ls (.int z :: st) (wp ++ wl) :=
  U_newz hX hC ha hz hN hb0 h1 h2 hd (fun q => by rw [List.append_assoc]; exact kk q)
theorem UP_newqp {z : Int32} {N idx : Nat} (hX : Cx G d y cc nL rt X) (hC : uC X mc ms) (hU : uN X) (ha : Cond.classLink y.cls idx RX4 ∈ lw_tbl) (hz : ¬ z < 0) (hN : z.toNatClampNeg = N) (hb0 : N * 4 ≤ 536870912) (h1 : k + 1 ≤ mc) (h2 : n + N ≤ ms) (hd : decode cc pc = .ok (.anewarray idx, 3)) (kk : ∀ q : Nat, U G nL X (k + 1) (n + N) (pc + 3) ls (.ref q :: st) (wp ++ (wl ++ [(q, .inl (G.2.2 12, N, .inr (.inr (.inr (.inr (fun _ => none))))))]))) : U G nL X k n pc ls (.int z :: st) (wp ++ wl) :=
  U_newqp hX hC hU ha hz hN hb0 h1 h2 hd (fun q => by rw [List.append_assoc]; exact kk q)
theorem UP_astp {z : Int32} {N a v : Nat} {f : Nat → Option Nat} {vs : List Value} (hX : Cx G d y cc nL rt X) (i j : Nat) (he : wl[i]? = some (a, .inl (G.2.2 12, N, .inr (.inr (.inr (.inr f)))))) (hv : wl[j]? = some (v, .inr (3, vs))) (hin : vp_in z N) (hd : decode cc pc = .ok (.aastore, 1)) (hs : wl.set i (a, .inl (G.2.2 12, N, .inr (.inr (.inr (.inr (va_up f z.toNatClampNeg (some v))))))) = wl') (kk : U G nL X k n (pc + 1) ls st (wp ++ wl')) : U G nL X k n pc ls (.ref v :: .int z :: .ref a :: st) (wp ++ wl) :=
  U_astp hX (wp.length + i) (wp.length + j) (UP_at he) (UP_at hv) hin hd (by rw [UP_set hs]; exact kk)
theorem UP_newqw {z : Int32} {N idx : Nat} (hX : Cx G d y cc nL rt X) (hC : uC X mc ms) (hU : uN X) (ha : Cond.classLink y.cls idx RX6 ∈ lw_tbl) (hz : ¬ z < 0) (hN : z.toNatClampNeg = N) (hb0 : N * 4 ≤ 536870912) (h1 : k + 1 ≤ mc) (h2 : n + N ≤ ms) (hd : decode cc pc = .ok (.anewarray idx, 3)) (kk : ∀ q : Nat, U G nL X (k + 1) (n + N) (pc + 3) ls (.ref q :: st) (wp ++ (wl ++ [(q, .inl (G.2.2 13, N, .inr (.inr (.inr (.inr (fun _ => none))))))]))) : U G nL X k n pc ls (.int z :: st) (wp ++ wl) :=
  U_newqw hX hC hU ha hz hN hb0 h1 h2 hd (fun q => by rw [List.append_assoc]; exact kk q)
theorem UP_astw {z : Int32} {N a v : Nat} {f : Nat → Option Nat} {vs : List Value} (hX : Cx G d y cc nL rt X) (i j : Nat) (he : wl[i]? = some (a, .inl (G.2.2 13, N, .inr (.inr (.inr (.inr f)))))) (hv : wl[j]? = some (v, .inr (5, vs))) (hin : vp_in z N) (hd : decode cc pc = .ok (.aastore, 1)) (hs : wl.set i (a, .inl (G.2.2 13, N, .inr (.inr (.inr (.inr (va_up f z.toNatClampNeg (some v))))))) = wl') (kk : U G nL X k n (pc + 1) ls st (wp ++ wl')) : U G nL X k n pc ls (.ref v :: .int z :: .ref a :: st) (wp ++ wl) :=
  U_astw hX (wp.length + i) (wp.length + j) (UP_at he) (UP_at hv) hin hd (by rw [UP_set hs]; exact kk)
theorem UP_new {ci idx N : Nat} {C : String} {T : u_T} {fs : List Value} (hX : Cx G d y cc nL rt X) (hC : uC X mc ms) (hin : ∀ w ∈ u_ws C T N, w ∈ lw_good) (ty : Nat → FieldType) (hty : ∀ k, k < N → parseFieldDescriptor (T k).2.2.1 = some (ty k)) (hcl : Cond.classLink y.cls idx C ∈ lw_tbl) (hinst : Cond.instantiable C N ∈ lw_tbl) (hini : Cond.initialized C ∈ lw_tbl) (hc : vwCl[ci]? = some (C, T, N)) (hfs : ∀ j, j < N → defaultValue (ty j) = vp_V fs j) (h1 : k + 1 ≤ mc) (h2 : n + N ≤ ms) (hd : decode cc pc = .ok (.new idx, 3)) (kk : ∀ q : Nat, U G nL X (k + 1) (n + N) (pc + 3) ls (.ref q :: st) (wp ++ (wl ++ [(q, .inr (ci, fs))]))) : U G nL X k n pc ls st (wp ++ wl) :=
  U_new hX hC hin ty hty hcl hinst hini hc hfs h1 h2 hd (fun q => by rw [List.append_assoc]; exact kk q)
theorem UP_callN {idx n2 mc2 ms2 h : Nat} {host : String} {y2 : MethodName} {c2 : ByteArray} {wl1 : va_W} {c0 : Nat × va_E} (hX : Cx G (d + 1) y cc nL rt X) (hU : uN X) (hC : uC X mc ms) (hm : Cond.methodLinkNest y.cls idx y2 host ∈ lw_tbl) (hi : uMI y2 c2 n2) (hwl : wl = wl1 ++ [c0]) (hQ : UCall G d y2 c2 n2 mc2 ms2 [.ref h] ((wp ++ wl1) ++ [c0]) (fun ws' => U G nL X (k + mc2) (n + ms2) (pc + 3) ls st ws')) (h1 : k + mc2 ≤ mc) (h2 : n + ms2 ≤ ms) (hst : (st.map fun v => v.category).sum ≤ 8) (hd : decode cc pc = .ok (.invokespecial idx, 3)) : U G nL X k n pc ls (.ref h :: st) (wp ++ wl) := by
  subst hwl
  rw [← List.append_assoc]
  exact U_callN hX hU hC hm hi hQ h1 h2 hst hd
theorem UP_callI {idx n2 mc2 ms2 h : Nat} {y2 : MethodName} {c2 : ByteArray} {wl1 : va_W} {c0 : Nat × va_E} (hX : Cx G (d + 1) y cc nL rt X) (hU : uN X) (hC : uC X mc ms) (hm : Cond.methodLink y.cls idx y2 ∈ lw_tbl) (hi : uMI y2 c2 n2) (hwl : wl = wl1 ++ [c0]) (hQ : UCall G d y2 c2 n2 mc2 ms2 [.ref h] ((wp ++ wl1) ++ [c0]) (fun ws' => U G nL X (k + mc2) (n + ms2) (pc + 3) ls st ws')) (h1 : k + mc2 ≤ mc) (h2 : n + ms2 ≤ ms) (hst : (st.map fun v => v.category).sum ≤ 8) (hd : decode cc pc = .ok (.invokespecial idx, 3)) : U G nL X k n pc ls (.ref h :: st) (wp ++ wl) := by
  subst hwl
  rw [← List.append_assoc]
  exact U_callI hX hU hC hm hi hQ h1 h2 hst hd
end UPR
abbrev oI (G : VG) (q n : Nat) : Nat × va_E := (q, .inl (G.2.2 9, n, .inl (fun _ => 0)))
abbrev oL (G : VG) (q n : Nat) : Nat × va_E := (q, .inl (G.2.2 10, n, .inr (.inl (fun _ => 0))))
abbrev oZ (G : VG) (q n : Nat) : Nat × va_E := (q, .inl (G.2.2 11, n, .inl (fun _ => 0)))
abbrev oX4 (h q1 q2 q3 q4 q5 q6 : Nat) : Nat × va_E := (h, .inr (3, [.int 2, .int 4, .int 1, .int 0, .int 0, .int 0, .int 0, .ref q1, .ref q2, .ref q3, .ref q4, .ref q5, .ref q6]))
set_option maxRecDepth 100000 in
set_option maxHeartbeats 4000000 in
theorem u_X4 {G : VG} {d : Nat} {wp : va_W} {h0 : Nat} {Q : va_W → Prop} (hQ : ∀ q1 q2 q3 q4 q5 q6 : Nat, Q (wp ++ [oX4 h0 q1 q2 q3 q4 q5 q6, oI G q1 8, oI G q2 8, oI G q3 8, oI G q4 8, oI G q5 8, oI G q6 8])) : UCall G (d + 1) yX4_init cX4_init 1 6 48 [.ref h0] (wp ++ [(h0, .inr (3, [.int 0, .int 0, .int 0, .int 0, .int 0, .int 0, .int 0, .null, .null, .null, .null, .null, .null]))]) Q := by
  intro X hX hU hI hC hR
  show U G 1 X 0 0 0 [(0, .ref h0)] [] (wp ++ [(h0, .inr (3, [.int 0, .int 0, .int 0, .int 0, .int 0, .int 0, .int 0, .null, .null, .null, .null, .null, .null]))])
  refine U_aload_n hX dX4_init_0 0 rfl ?_
  refine U_obj hX ul_X4_3 uo_i uo_c (by omega) (Nat.le_of_ble_eq_true rfl) dX4_init_1 ?_
  refine U_aload_n hX dX4_init_4 0 rfl ?_
  refine U_iconst (v := 2) hX dX4_init_5 (by decide) ?_
  refine UP_put (v := .int 2) (wl' := [(h0, .inr (3, [.int 2, .int 0, .int 0, .int 0, .int 0, .int 0, .int 0, .null, .null, .null, .null, .null, .null]))]) hX fX4_9 fw_3_0 0 rfl (Nat.le_of_ble_eq_true rfl) rfl rfl dX4_init_6 rfl ?_
  show U G 1 X 0 0 9 [(0, .ref h0)] [] (wp ++ [(h0, .inr (3, [.int 2, .int 0, .int 0, .int 0, .int 0, .int 0, .int 0, .null, .null, .null, .null, .null, .null]))])
  refine U_aload_n hX dX4_init_9 0 rfl ?_
  refine U_iconst (v := 4) hX dX4_init_10 (by decide) ?_
  refine UP_put (v := .int 4) (wl' := [(h0, .inr (3, [.int 2, .int 4, .int 0, .int 0, .int 0, .int 0, .int 0, .null, .null, .null, .null, .null, .null]))]) hX fX4_15 fw_3_1 0 rfl (Nat.le_of_ble_eq_true rfl) rfl rfl dX4_init_11 rfl ?_
  show U G 1 X 0 0 14 [(0, .ref h0)] [] (wp ++ [(h0, .inr (3, [.int 2, .int 4, .int 0, .int 0, .int 0, .int 0, .int 0, .null, .null, .null, .null, .null, .null]))])
  refine U_aload_n hX dX4_init_14 0 rfl ?_
  refine U_iconst (v := 1) hX dX4_init_15 (by decide) ?_
  refine UP_put (v := .int 1) (wl' := [(h0, .inr (3, [.int 2, .int 4, .int 1, .int 0, .int 0, .int 0, .int 0, .null, .null, .null, .null, .null, .null]))]) hX fX4_18 fw_3_2 0 rfl (Nat.le_of_ble_eq_true rfl) rfl rfl dX4_init_16 rfl ?_
  show U G 1 X 0 0 19 [(0, .ref h0)] [] (wp ++ [(h0, .inr (3, [.int 2, .int 4, .int 1, .int 0, .int 0, .int 0, .int 0, .null, .null, .null, .null, .null, .null]))])
  refine U_aload_n hX dX4_init_19 0 rfl ?_
  refine U_iconst (v := 0) hX dX4_init_20 (by decide) ?_
  refine UP_put (v := .int 0) (wl' := [(h0, .inr (3, [.int 2, .int 4, .int 1, .int 0, .int 0, .int 0, .int 0, .null, .null, .null, .null, .null, .null]))]) hX fX4_21 fw_3_3 0 rfl (Nat.le_of_ble_eq_true rfl) rfl rfl dX4_init_21 rfl ?_
  show U G 1 X 0 0 24 [(0, .ref h0)] [] (wp ++ [(h0, .inr (3, [.int 2, .int 4, .int 1, .int 0, .int 0, .int 0, .int 0, .null, .null, .null, .null, .null, .null]))])
  refine U_aload_n hX dX4_init_24 0 rfl ?_
  refine U_iconst (v := 0) hX dX4_init_25 (by decide) ?_
  refine UP_put (v := .int 0) (wl' := [(h0, .inr (3, [.int 2, .int 4, .int 1, .int 0, .int 0, .int 0, .int 0, .null, .null, .null, .null, .null, .null]))]) hX fX4_24 fw_3_4 0 rfl (Nat.le_of_ble_eq_true rfl) rfl rfl dX4_init_26 rfl ?_
  show U G 1 X 0 0 29 [(0, .ref h0)] [] (wp ++ [(h0, .inr (3, [.int 2, .int 4, .int 1, .int 0, .int 0, .int 0, .int 0, .null, .null, .null, .null, .null, .null]))])
  refine U_aload_n hX dX4_init_29 0 rfl ?_
  refine U_iconst (v := 0) hX dX4_init_30 (by decide) ?_
  refine UP_put (v := .int 0) (wl' := [(h0, .inr (3, [.int 2, .int 4, .int 1, .int 0, .int 0, .int 0, .int 0, .null, .null, .null, .null, .null, .null]))]) hX fX4_27 fw_3_5 0 rfl (Nat.le_of_ble_eq_true rfl) rfl rfl dX4_init_31 rfl ?_
  show U G 1 X 0 0 34 [(0, .ref h0)] [] (wp ++ [(h0, .inr (3, [.int 2, .int 4, .int 1, .int 0, .int 0, .int 0, .int 0, .null, .null, .null, .null, .null, .null]))])
  refine U_aload_n hX dX4_init_34 0 rfl ?_
  refine U_iconst (v := 0) hX dX4_init_35 (by decide) ?_
  refine UP_put (v := .int 0) (wl' := [(h0, .inr (3, [.int 2, .int 4, .int 1, .int 0, .int 0, .int 0, .int 0, .null, .null, .null, .null, .null, .null]))]) hX fX4_30 fw_3_6 0 rfl (Nat.le_of_ble_eq_true rfl) rfl rfl dX4_init_36 rfl ?_
  show U G 1 X 0 0 39 [(0, .ref h0)] [] (wp ++ [(h0, .inr (3, [.int 2, .int 4, .int 1, .int 0, .int 0, .int 0, .int 0, .null, .null, .null, .null, .null, .null]))])
  refine U_aload_n hX dX4_init_39 0 rfl ?_
  refine U_bipush (v := 8) hX dX4_init_40 (by decide) ?_
  refine UP_newi (N := 8) hX hC ua_i (by decide) (by decide) (by decide) (by decide) (by decide) dX4_init_42 (fun q1 => ?_)
  show U G 1 X 1 8 44 [(0, .ref h0)] [.ref q1, .ref h0] (wp ++ [(h0, .inr (3, [.int 2, .int 4, .int 1, .int 0, .int 0, .int 0, .int 0, .null, .null, .null, .null, .null, .null])), oI G q1 8])
  refine UP_putF (v := .ref q1) (wl' := [(h0, .inr (3, [.int 2, .int 4, .int 1, .int 0, .int 0, .int 0, .int 0, .ref q1, .null, .null, .null, .null, .null])), oI G q1 8]) hX hI fX4_33 ff_3_7 0 rfl (Nat.le_of_ble_eq_true rfl) rfl rfl dX4_init_44 rfl ?_
  show U G 1 X 1 8 47 [(0, .ref h0)] [] (wp ++ [(h0, .inr (3, [.int 2, .int 4, .int 1, .int 0, .int 0, .int 0, .int 0, .ref q1, .null, .null, .null, .null, .null])), oI G q1 8])
  refine U_aload_n hX dX4_init_47 0 rfl ?_
  refine U_bipush (v := 8) hX dX4_init_48 (by decide) ?_
  refine UP_newi (N := 8) hX hC ua_i (by decide) (by decide) (by decide) (by decide) (by decide) dX4_init_50 (fun q2 => ?_)
  show U G 1 X 2 16 52 [(0, .ref h0)] [.ref q2, .ref h0] (wp ++ [(h0, .inr (3, [.int 2, .int 4, .int 1, .int 0, .int 0, .int 0, .int 0, .ref q1, .null, .null, .null, .null, .null])), oI G q1 8, oI G q2 8])
  refine UP_putF (v := .ref q2) (wl' := [(h0, .inr (3, [.int 2, .int 4, .int 1, .int 0, .int 0, .int 0, .int 0, .ref q1, .ref q2, .null, .null, .null, .null])), oI G q1 8, oI G q2 8]) hX hI fX4_37 ff_3_8 0 rfl (Nat.le_of_ble_eq_true rfl) rfl rfl dX4_init_52 rfl ?_
  show U G 1 X 2 16 55 [(0, .ref h0)] [] (wp ++ [(h0, .inr (3, [.int 2, .int 4, .int 1, .int 0, .int 0, .int 0, .int 0, .ref q1, .ref q2, .null, .null, .null, .null])), oI G q1 8, oI G q2 8])
  refine U_aload_n hX dX4_init_55 0 rfl ?_
  refine U_bipush (v := 8) hX dX4_init_56 (by decide) ?_
  refine UP_newi (N := 8) hX hC ua_i (by decide) (by decide) (by decide) (by decide) (by decide) dX4_init_58 (fun q3 => ?_)
  show U G 1 X 3 24 60 [(0, .ref h0)] [.ref q3, .ref h0] (wp ++ [(h0, .inr (3, [.int 2, .int 4, .int 1, .int 0, .int 0, .int 0, .int 0, .ref q1, .ref q2, .null, .null, .null, .null])), oI G q1 8, oI G q2 8, oI G q3 8])
  refine UP_putF (v := .ref q3) (wl' := [(h0, .inr (3, [.int 2, .int 4, .int 1, .int 0, .int 0, .int 0, .int 0, .ref q1, .ref q2, .ref q3, .null, .null, .null])), oI G q1 8, oI G q2 8, oI G q3 8]) hX hI fX4_40 ff_3_9 0 rfl (Nat.le_of_ble_eq_true rfl) rfl rfl dX4_init_60 rfl ?_
  show U G 1 X 3 24 63 [(0, .ref h0)] [] (wp ++ [(h0, .inr (3, [.int 2, .int 4, .int 1, .int 0, .int 0, .int 0, .int 0, .ref q1, .ref q2, .ref q3, .null, .null, .null])), oI G q1 8, oI G q2 8, oI G q3 8])
  refine U_aload_n hX dX4_init_63 0 rfl ?_
  refine U_bipush (v := 8) hX dX4_init_64 (by decide) ?_
  refine UP_newi (N := 8) hX hC ua_i (by decide) (by decide) (by decide) (by decide) (by decide) dX4_init_66 (fun q4 => ?_)
  show U G 1 X 4 32 68 [(0, .ref h0)] [.ref q4, .ref h0] (wp ++ [(h0, .inr (3, [.int 2, .int 4, .int 1, .int 0, .int 0, .int 0, .int 0, .ref q1, .ref q2, .ref q3, .null, .null, .null])), oI G q1 8, oI G q2 8, oI G q3 8, oI G q4 8])
  refine UP_putF (v := .ref q4) (wl' := [(h0, .inr (3, [.int 2, .int 4, .int 1, .int 0, .int 0, .int 0, .int 0, .ref q1, .ref q2, .ref q3, .ref q4, .null, .null])), oI G q1 8, oI G q2 8, oI G q3 8, oI G q4 8]) hX hI fX4_43 ff_3_10 0 rfl (Nat.le_of_ble_eq_true rfl) rfl rfl dX4_init_68 rfl ?_
  show U G 1 X 4 32 71 [(0, .ref h0)] [] (wp ++ [(h0, .inr (3, [.int 2, .int 4, .int 1, .int 0, .int 0, .int 0, .int 0, .ref q1, .ref q2, .ref q3, .ref q4, .null, .null])), oI G q1 8, oI G q2 8, oI G q3 8, oI G q4 8])
  refine U_aload_n hX dX4_init_71 0 rfl ?_
  refine U_bipush (v := 8) hX dX4_init_72 (by decide) ?_
  refine UP_newi (N := 8) hX hC ua_i (by decide) (by decide) (by decide) (by decide) (by decide) dX4_init_74 (fun q5 => ?_)
  show U G 1 X 5 40 76 [(0, .ref h0)] [.ref q5, .ref h0] (wp ++ [(h0, .inr (3, [.int 2, .int 4, .int 1, .int 0, .int 0, .int 0, .int 0, .ref q1, .ref q2, .ref q3, .ref q4, .null, .null])), oI G q1 8, oI G q2 8, oI G q3 8, oI G q4 8, oI G q5 8])
  refine UP_putF (v := .ref q5) (wl' := [(h0, .inr (3, [.int 2, .int 4, .int 1, .int 0, .int 0, .int 0, .int 0, .ref q1, .ref q2, .ref q3, .ref q4, .ref q5, .null])), oI G q1 8, oI G q2 8, oI G q3 8, oI G q4 8, oI G q5 8]) hX hI fX4_46 ff_3_11 0 rfl (Nat.le_of_ble_eq_true rfl) rfl rfl dX4_init_76 rfl ?_
  show U G 1 X 5 40 79 [(0, .ref h0)] [] (wp ++ [(h0, .inr (3, [.int 2, .int 4, .int 1, .int 0, .int 0, .int 0, .int 0, .ref q1, .ref q2, .ref q3, .ref q4, .ref q5, .null])), oI G q1 8, oI G q2 8, oI G q3 8, oI G q4 8, oI G q5 8])
  refine U_aload_n hX dX4_init_79 0 rfl ?_
  refine U_bipush (v := 8) hX dX4_init_80 (by decide) ?_
  refine UP_newi (N := 8) hX hC ua_i (by decide) (by decide) (by decide) (by decide) (by decide) dX4_init_82 (fun q6 => ?_)
  show U G 1 X 6 48 84 [(0, .ref h0)] [.ref q6, .ref h0] (wp ++ [(h0, .inr (3, [.int 2, .int 4, .int 1, .int 0, .int 0, .int 0, .int 0, .ref q1, .ref q2, .ref q3, .ref q4, .ref q5, .null])), oI G q1 8, oI G q2 8, oI G q3 8, oI G q4 8, oI G q5 8, oI G q6 8])
  refine UP_putF (v := .ref q6) (wl' := [(h0, .inr (3, [.int 2, .int 4, .int 1, .int 0, .int 0, .int 0, .int 0, .ref q1, .ref q2, .ref q3, .ref q4, .ref q5, .ref q6])), oI G q1 8, oI G q2 8, oI G q3 8, oI G q4 8, oI G q5 8, oI G q6 8]) hX hI fX4_49 ff_3_12 0 rfl (Nat.le_of_ble_eq_true rfl) rfl rfl dX4_init_84 rfl ?_
  show U G 1 X 6 48 87 [(0, .ref h0)] [] (wp ++ [(h0, .inr (3, [.int 2, .int 4, .int 1, .int 0, .int 0, .int 0, .int 0, .ref q1, .ref q2, .ref q3, .ref q4, .ref q5, .ref q6])), oI G q1 8, oI G q2 8, oI G q3 8, oI G q4 8, oI G q5 8, oI G q6 8])
  exact U_ret hX hC rfl (by decide) (by decide) dX4_init_87 (hR _ (hQ q1 q2 q3 q4 q5 q6))
abbrev oX6 (h q1 : Nat) : Nat × va_E := (h, .inr (5, [.ref q1, .int 0, .int 0, .int 0, .int 0, .int 0, .int 0, .int 0, .int 0, .int 0, .int 0, .int 0, .int 0]))
set_option maxRecDepth 100000 in
set_option maxHeartbeats 4000000 in
theorem u_X6 {G : VG} {d : Nat} {wp : va_W} {h0 : Nat} {Q : va_W → Prop} (hQ : ∀ q1 : Nat, Q (wp ++ [oX6 h0 q1, oI G q1 8])) : UCall G (d + 1) yX6_init cX6_init 1 1 8 [.ref h0] (wp ++ [(h0, .inr (5, [.null, .int 0, .int 0, .int 0, .int 0, .int 0, .int 0, .int 0, .int 0, .int 0, .int 0, .int 0, .int 0]))]) Q := by
  intro X hX hU hI hC hR
  show U G 1 X 0 0 0 [(0, .ref h0)] [] (wp ++ [(h0, .inr (5, [.null, .int 0, .int 0, .int 0, .int 0, .int 0, .int 0, .int 0, .int 0, .int 0, .int 0, .int 0, .int 0]))])
  refine U_aload_n hX dX6_init_0 0 rfl ?_
  refine U_obj hX ul_X6_3 uo_i uo_c (by omega) (Nat.le_of_ble_eq_true rfl) dX6_init_1 ?_
  refine U_aload_n hX dX6_init_4 0 rfl ?_
  refine U_bipush (v := 8) hX dX6_init_5 (by decide) ?_
  refine UP_newi (N := 8) hX hC ua_i (by decide) (by decide) (by decide) (by decide) (by decide) dX6_init_7 (fun q1 => ?_)
  show U G 1 X 1 8 9 [(0, .ref h0)] [.ref q1, .ref h0] (wp ++ [(h0, .inr (5, [.null, .int 0, .int 0, .int 0, .int 0, .int 0, .int 0, .int 0, .int 0, .int 0, .int 0, .int 0, .int 0])), oI G q1 8])
  refine UP_putF (v := .ref q1) (wl' := [(h0, .inr (5, [.ref q1, .int 0, .int 0, .int 0, .int 0, .int 0, .int 0, .int 0, .int 0, .int 0, .int 0, .int 0, .int 0])), oI G q1 8]) hX hI fX6_9 ff_5_0 0 rfl (Nat.le_of_ble_eq_true rfl) rfl rfl dX6_init_9 rfl ?_
  show U G 1 X 1 8 12 [(0, .ref h0)] [] (wp ++ [(h0, .inr (5, [.ref q1, .int 0, .int 0, .int 0, .int 0, .int 0, .int 0, .int 0, .int 0, .int 0, .int 0, .int 0, .int 0])), oI G q1 8])
  refine U_aload_n hX dX6_init_12 0 rfl ?_
  refine U_iconst (v := 0) hX dX6_init_13 (by decide) ?_
  refine UP_put (v := .int 0) (wl' := [(h0, .inr (5, [.ref q1, .int 0, .int 0, .int 0, .int 0, .int 0, .int 0, .int 0, .int 0, .int 0, .int 0, .int 0, .int 0])), oI G q1 8]) hX fX6_15 fw_5_1 0 rfl (Nat.le_of_ble_eq_true rfl) rfl rfl dX6_init_14 rfl ?_
  show U G 1 X 1 8 17 [(0, .ref h0)] [] (wp ++ [(h0, .inr (5, [.ref q1, .int 0, .int 0, .int 0, .int 0, .int 0, .int 0, .int 0, .int 0, .int 0, .int 0, .int 0, .int 0])), oI G q1 8])
  refine U_aload_n hX dX6_init_17 0 rfl ?_
  refine U_iconst (v := 0) hX dX6_init_18 (by decide) ?_
  refine UP_put (v := .int 0) (wl' := [(h0, .inr (5, [.ref q1, .int 0, .int 0, .int 0, .int 0, .int 0, .int 0, .int 0, .int 0, .int 0, .int 0, .int 0, .int 0])), oI G q1 8]) hX fX6_19 fw_5_2 0 rfl (Nat.le_of_ble_eq_true rfl) rfl rfl dX6_init_19 rfl ?_
  show U G 1 X 1 8 22 [(0, .ref h0)] [] (wp ++ [(h0, .inr (5, [.ref q1, .int 0, .int 0, .int 0, .int 0, .int 0, .int 0, .int 0, .int 0, .int 0, .int 0, .int 0, .int 0])), oI G q1 8])
  refine U_aload_n hX dX6_init_22 0 rfl ?_
  refine U_iconst (v := 0) hX dX6_init_23 (by decide) ?_
  refine UP_put (v := .int 0) (wl' := [(h0, .inr (5, [.ref q1, .int 0, .int 0, .int 0, .int 0, .int 0, .int 0, .int 0, .int 0, .int 0, .int 0, .int 0, .int 0])), oI G q1 8]) hX fX6_22 fw_5_3 0 rfl (Nat.le_of_ble_eq_true rfl) rfl rfl dX6_init_24 rfl ?_
  show U G 1 X 1 8 27 [(0, .ref h0)] [] (wp ++ [(h0, .inr (5, [.ref q1, .int 0, .int 0, .int 0, .int 0, .int 0, .int 0, .int 0, .int 0, .int 0, .int 0, .int 0, .int 0])), oI G q1 8])
  refine U_aload_n hX dX6_init_27 0 rfl ?_
  refine U_iconst (v := 0) hX dX6_init_28 (by decide) ?_
  refine UP_put (v := .int 0) (wl' := [(h0, .inr (5, [.ref q1, .int 0, .int 0, .int 0, .int 0, .int 0, .int 0, .int 0, .int 0, .int 0, .int 0, .int 0, .int 0])), oI G q1 8]) hX fX6_25 fw_5_4 0 rfl (Nat.le_of_ble_eq_true rfl) rfl rfl dX6_init_29 rfl ?_
  show U G 1 X 1 8 32 [(0, .ref h0)] [] (wp ++ [(h0, .inr (5, [.ref q1, .int 0, .int 0, .int 0, .int 0, .int 0, .int 0, .int 0, .int 0, .int 0, .int 0, .int 0, .int 0])), oI G q1 8])
  refine U_aload_n hX dX6_init_32 0 rfl ?_
  refine U_iconst (v := 0) hX dX6_init_33 (by decide) ?_
  refine UP_put (v := .int 0) (wl' := [(h0, .inr (5, [.ref q1, .int 0, .int 0, .int 0, .int 0, .int 0, .int 0, .int 0, .int 0, .int 0, .int 0, .int 0, .int 0])), oI G q1 8]) hX fX6_28 fw_5_5 0 rfl (Nat.le_of_ble_eq_true rfl) rfl rfl dX6_init_34 rfl ?_
  show U G 1 X 1 8 37 [(0, .ref h0)] [] (wp ++ [(h0, .inr (5, [.ref q1, .int 0, .int 0, .int 0, .int 0, .int 0, .int 0, .int 0, .int 0, .int 0, .int 0, .int 0, .int 0])), oI G q1 8])
  refine U_aload_n hX dX6_init_37 0 rfl ?_
  refine U_iconst (v := 0) hX dX6_init_38 (by decide) ?_
  refine UP_put (v := .int 0) (wl' := [(h0, .inr (5, [.ref q1, .int 0, .int 0, .int 0, .int 0, .int 0, .int 0, .int 0, .int 0, .int 0, .int 0, .int 0, .int 0])), oI G q1 8]) hX fX6_31 fw_5_6 0 rfl (Nat.le_of_ble_eq_true rfl) rfl rfl dX6_init_39 rfl ?_
  show U G 1 X 1 8 42 [(0, .ref h0)] [] (wp ++ [(h0, .inr (5, [.ref q1, .int 0, .int 0, .int 0, .int 0, .int 0, .int 0, .int 0, .int 0, .int 0, .int 0, .int 0, .int 0])), oI G q1 8])
  refine U_aload_n hX dX6_init_42 0 rfl ?_
  refine U_iconst (v := 0) hX dX6_init_43 (by decide) ?_
  refine UP_put (v := .int 0) (wl' := [(h0, .inr (5, [.ref q1, .int 0, .int 0, .int 0, .int 0, .int 0, .int 0, .int 0, .int 0, .int 0, .int 0, .int 0, .int 0])), oI G q1 8]) hX fX6_34 fw_5_7 0 rfl (Nat.le_of_ble_eq_true rfl) rfl rfl dX6_init_44 rfl ?_
  show U G 1 X 1 8 47 [(0, .ref h0)] [] (wp ++ [(h0, .inr (5, [.ref q1, .int 0, .int 0, .int 0, .int 0, .int 0, .int 0, .int 0, .int 0, .int 0, .int 0, .int 0, .int 0])), oI G q1 8])
  refine U_aload_n hX dX6_init_47 0 rfl ?_
  refine U_iconst (v := 0) hX dX6_init_48 (by decide) ?_
  refine UP_put (v := .int 0) (wl' := [(h0, .inr (5, [.ref q1, .int 0, .int 0, .int 0, .int 0, .int 0, .int 0, .int 0, .int 0, .int 0, .int 0, .int 0, .int 0])), oI G q1 8]) hX fX6_37 fw_5_8 0 rfl (Nat.le_of_ble_eq_true rfl) rfl rfl dX6_init_49 rfl ?_
  show U G 1 X 1 8 52 [(0, .ref h0)] [] (wp ++ [(h0, .inr (5, [.ref q1, .int 0, .int 0, .int 0, .int 0, .int 0, .int 0, .int 0, .int 0, .int 0, .int 0, .int 0, .int 0])), oI G q1 8])
  refine U_aload_n hX dX6_init_52 0 rfl ?_
  refine U_iconst (v := 0) hX dX6_init_53 (by decide) ?_
  refine UP_put (v := .int 0) (wl' := [(h0, .inr (5, [.ref q1, .int 0, .int 0, .int 0, .int 0, .int 0, .int 0, .int 0, .int 0, .int 0, .int 0, .int 0, .int 0])), oI G q1 8]) hX fX6_40 fw_5_9 0 rfl (Nat.le_of_ble_eq_true rfl) rfl rfl dX6_init_54 rfl ?_
  show U G 1 X 1 8 57 [(0, .ref h0)] [] (wp ++ [(h0, .inr (5, [.ref q1, .int 0, .int 0, .int 0, .int 0, .int 0, .int 0, .int 0, .int 0, .int 0, .int 0, .int 0, .int 0])), oI G q1 8])
  refine U_aload_n hX dX6_init_57 0 rfl ?_
  refine U_iconst (v := 0) hX dX6_init_58 (by decide) ?_
  refine UP_put (v := .int 0) (wl' := [(h0, .inr (5, [.ref q1, .int 0, .int 0, .int 0, .int 0, .int 0, .int 0, .int 0, .int 0, .int 0, .int 0, .int 0, .int 0])), oI G q1 8]) hX fX6_43 fw_5_10 0 rfl (Nat.le_of_ble_eq_true rfl) rfl rfl dX6_init_59 rfl ?_
  show U G 1 X 1 8 62 [(0, .ref h0)] [] (wp ++ [(h0, .inr (5, [.ref q1, .int 0, .int 0, .int 0, .int 0, .int 0, .int 0, .int 0, .int 0, .int 0, .int 0, .int 0, .int 0])), oI G q1 8])
  refine U_aload_n hX dX6_init_62 0 rfl ?_
  refine U_iconst (v := 0) hX dX6_init_63 (by decide) ?_
  refine UP_put (v := .int 0) (wl' := [(h0, .inr (5, [.ref q1, .int 0, .int 0, .int 0, .int 0, .int 0, .int 0, .int 0, .int 0, .int 0, .int 0, .int 0, .int 0])), oI G q1 8]) hX fX6_46 fw_5_11 0 rfl (Nat.le_of_ble_eq_true rfl) rfl rfl dX6_init_64 rfl ?_
  show U G 1 X 1 8 67 [(0, .ref h0)] [] (wp ++ [(h0, .inr (5, [.ref q1, .int 0, .int 0, .int 0, .int 0, .int 0, .int 0, .int 0, .int 0, .int 0, .int 0, .int 0, .int 0])), oI G q1 8])
  refine U_aload_n hX dX6_init_67 0 rfl ?_
  refine U_iconst (v := 0) hX dX6_init_68 (by decide) ?_
  refine UP_put (v := .int 0) (wl' := [(h0, .inr (5, [.ref q1, .int 0, .int 0, .int 0, .int 0, .int 0, .int 0, .int 0, .int 0, .int 0, .int 0, .int 0, .int 0])), oI G q1 8]) hX fX6_49 fw_5_12 0 rfl (Nat.le_of_ble_eq_true rfl) rfl rfl dX6_init_69 rfl ?_
  show U G 1 X 1 8 72 [(0, .ref h0)] [] (wp ++ [(h0, .inr (5, [.ref q1, .int 0, .int 0, .int 0, .int 0, .int 0, .int 0, .int 0, .int 0, .int 0, .int 0, .int 0, .int 0])), oI G q1 8])
  exact U_ret hX hC rfl (by decide) (by decide) dX6_init_72 (hR _ (hQ q1))
abbrev oX3 (h q1 : Nat) : Nat × va_E := (h, .inr (2, [.ref q1, .int 0]))
set_option maxRecDepth 100000 in
set_option maxHeartbeats 4000000 in
theorem u_X3 {G : VG} {d : Nat} {wp : va_W} {h0 : Nat} {Q : va_W → Prop} (hQ : ∀ q1 : Nat, Q (wp ++ [oX3 h0 q1, oI G q1 60])) : UCall G (d + 1) yX3_init cX3_init 1 1 60 [.ref h0] (wp ++ [(h0, .inr (2, [.null, .int 0]))]) Q := by
  intro X hX hU hI hC hR
  show U G 1 X 0 0 0 [(0, .ref h0)] [] (wp ++ [(h0, .inr (2, [.null, .int 0]))])
  refine U_aload_n hX dX3_init_0 0 rfl ?_
  refine U_obj hX ul_X3_3 uo_i uo_c (by omega) (Nat.le_of_ble_eq_true rfl) dX3_init_1 ?_
  refine U_aload_n hX dX3_init_4 0 rfl ?_
  refine U_bipush (v := 60) hX dX3_init_5 (by decide) ?_
  refine UP_newi (N := 60) hX hC ua_i (by decide) (by decide) (by decide) (by decide) (by decide) dX3_init_7 (fun q1 => ?_)
  show U G 1 X 1 60 9 [(0, .ref h0)] [.ref q1, .ref h0] (wp ++ [(h0, .inr (2, [.null, .int 0])), oI G q1 60])
  refine UP_putF (v := .ref q1) (wl' := [(h0, .inr (2, [.ref q1, .int 0])), oI G q1 60]) hX hI fX3_9 ff_2_0 0 rfl (Nat.le_of_ble_eq_true rfl) rfl rfl dX3_init_9 rfl ?_
  show U G 1 X 1 60 12 [(0, .ref h0)] [] (wp ++ [(h0, .inr (2, [.ref q1, .int 0])), oI G q1 60])
  refine U_aload_n hX dX3_init_12 0 rfl ?_
  refine U_iconst (v := 0) hX dX3_init_13 (by decide) ?_
  refine UP_put (v := .int 0) (wl' := [(h0, .inr (2, [.ref q1, .int 0])), oI G q1 60]) hX fX3_15 fw_2_1 0 rfl (Nat.le_of_ble_eq_true rfl) rfl rfl dX3_init_14 rfl ?_
  show U G 1 X 1 60 17 [(0, .ref h0)] [] (wp ++ [(h0, .inr (2, [.ref q1, .int 0])), oI G q1 60])
  exact U_ret hX hC rfl (by decide) (by decide) dX3_init_17 (hR _ (hQ q1))
abbrev oX7 (h : Nat) : Nat × va_E := (h, .inr (6, [.long 0, .long 0, .long 1, .int 0]))
set_option maxRecDepth 100000 in
set_option maxHeartbeats 4000000 in
theorem u_X7 {G : VG} {d : Nat} {wp : va_W} {h0 : Nat} {Q : va_W → Prop} (hQ : Q (wp ++ [oX7 h0])) : UCall G (d + 1) yX7_init cX7_init 1 0 0 [.ref h0] (wp ++ [(h0, .inr (6, [.long 0, .long 0, .long 0, .int 0]))]) Q := by
  intro X hX hU hI hC hR
  show U G 1 X 0 0 0 [(0, .ref h0)] [] (wp ++ [(h0, .inr (6, [.long 0, .long 0, .long 0, .int 0]))])
  refine U_aload_n hX dX7_init_0 0 rfl ?_
  refine U_obj hX ul_X7_3 uo_i uo_c (by omega) (Nat.le_of_ble_eq_true rfl) dX7_init_1 ?_
  refine U_aload_n hX dX7_init_4 0 rfl ?_
  refine U_lconst (v := 0) hX dX7_init_5 (by decide) ?_
  refine UP_put (v := .long 0) (wl' := [(h0, .inr (6, [.long 0, .long 0, .long 0, .int 0]))]) hX fX7_9 fw_6_0 0 rfl (Nat.le_of_ble_eq_true rfl) rfl rfl dX7_init_6 rfl ?_
  show U G 1 X 0 0 9 [(0, .ref h0)] [] (wp ++ [(h0, .inr (6, [.long 0, .long 0, .long 0, .int 0]))])
  refine U_aload_n hX dX7_init_9 0 rfl ?_
  refine U_lconst (v := 0) hX dX7_init_10 (by decide) ?_
  refine UP_put (v := .long 0) (wl' := [(h0, .inr (6, [.long 0, .long 0, .long 0, .int 0]))]) hX fX7_15 fw_6_1 0 rfl (Nat.le_of_ble_eq_true rfl) rfl rfl dX7_init_11 rfl ?_
  show U G 1 X 0 0 14 [(0, .ref h0)] [] (wp ++ [(h0, .inr (6, [.long 0, .long 0, .long 0, .int 0]))])
  refine U_aload_n hX dX7_init_14 0 rfl ?_
  refine U_lconst (v := 1) hX dX7_init_15 (by decide) ?_
  refine UP_put (v := .long 1) (wl' := [(h0, .inr (6, [.long 0, .long 0, .long 1, .int 0]))]) hX fX7_18 fw_6_2 0 rfl (Nat.le_of_ble_eq_true rfl) rfl rfl dX7_init_16 rfl ?_
  show U G 1 X 0 0 19 [(0, .ref h0)] [] (wp ++ [(h0, .inr (6, [.long 0, .long 0, .long 1, .int 0]))])
  refine U_aload_n hX dX7_init_19 0 rfl ?_
  refine U_iconst (v := 0) hX dX7_init_20 (by decide) ?_
  refine UP_put (v := .int 0) (wl' := [(h0, .inr (6, [.long 0, .long 0, .long 1, .int 0]))]) hX fX7_21 fw_6_3 0 rfl (Nat.le_of_ble_eq_true rfl) rfl rfl dX7_init_21 rfl ?_
  show U G 1 X 0 0 24 [(0, .ref h0)] [] (wp ++ [(h0, .inr (6, [.long 0, .long 0, .long 1, .int 0]))])
  exact U_ret hX hC rfl (by decide) (by decide) dX7_init_24 (hR _ hQ)
abbrev oX5 (h q1 q2 : Nat) : Nat × va_E := (h, .inr (4, [.ref q1, .int (-6), .ref q2]))
set_option maxRecDepth 100000 in
set_option maxHeartbeats 4000000 in
theorem u_X5 {G : VG} {d : Nat} {wp : va_W} {h0 : Nat} {Q : va_W → Prop} (hQ : ∀ q1 q2 : Nat, Q (wp ++ [oX5 h0 q1 q2, oI G q1 3, oI G q2 8])) : UCall G (d + 1) yX5_init cX5_init 1 2 11 [.ref h0] (wp ++ [(h0, .inr (4, [.null, .int 0, .null]))]) Q := by
  intro X hX hU hI hC hR
  show U G 1 X 0 0 0 [(0, .ref h0)] [] (wp ++ [(h0, .inr (4, [.null, .int 0, .null]))])
  refine U_aload_n hX dX5_init_0 0 rfl ?_
  refine U_obj hX ul_X5_3 uo_i uo_c (by omega) (Nat.le_of_ble_eq_true rfl) dX5_init_1 ?_
  refine U_aload_n hX dX5_init_4 0 rfl ?_
  refine U_iconst (v := 3) hX dX5_init_5 (by decide) ?_
  refine UP_newi (N := 3) hX hC ua_i (by decide) (by decide) (by decide) (by decide) (by decide) dX5_init_6 (fun q1 => ?_)
  show U G 1 X 1 3 8 [(0, .ref h0)] [.ref q1, .ref h0] (wp ++ [(h0, .inr (4, [.null, .int 0, .null])), oI G q1 3])
  refine UP_putF (v := .ref q1) (wl' := [(h0, .inr (4, [.ref q1, .int 0, .null])), oI G q1 3]) hX hI fX5_9 ff_4_0 0 rfl (Nat.le_of_ble_eq_true rfl) rfl rfl dX5_init_8 rfl ?_
  show U G 1 X 1 3 11 [(0, .ref h0)] [] (wp ++ [(h0, .inr (4, [.ref q1, .int 0, .null])), oI G q1 3])
  refine U_aload_n hX dX5_init_11 0 rfl ?_
  refine U_bipush (v := (-6)) hX dX5_init_12 (by decide) ?_
  refine UP_put (v := .int (-6)) (wl' := [(h0, .inr (4, [.ref q1, .int (-6), .null])), oI G q1 3]) hX fX5_15 fw_4_1 0 rfl (Nat.le_of_ble_eq_true rfl) rfl rfl dX5_init_14 rfl ?_
  show U G 1 X 1 3 17 [(0, .ref h0)] [] (wp ++ [(h0, .inr (4, [.ref q1, .int (-6), .null])), oI G q1 3])
  refine U_aload_n hX dX5_init_17 0 rfl ?_
  refine U_bipush (v := 8) hX dX5_init_18 (by decide) ?_
  refine UP_newi (N := 8) hX hC ua_i (by decide) (by decide) (by decide) (by decide) (by decide) dX5_init_20 (fun q2 => ?_)
  show U G 1 X 2 11 22 [(0, .ref h0)] [.ref q2, .ref h0] (wp ++ [(h0, .inr (4, [.ref q1, .int (-6), .null])), oI G q1 3, oI G q2 8])
  refine UP_putF (v := .ref q2) (wl' := [(h0, .inr (4, [.ref q1, .int (-6), .ref q2])), oI G q1 3, oI G q2 8]) hX hI fX5_19 ff_4_2 0 rfl (Nat.le_of_ble_eq_true rfl) rfl rfl dX5_init_22 rfl ?_
  show U G 1 X 2 11 25 [(0, .ref h0)] [] (wp ++ [(h0, .inr (4, [.ref q1, .int (-6), .ref q2])), oI G q1 3, oI G q2 8])
  exact U_ret hX hC rfl (by decide) (by decide) dX5_init_25 (hR _ (hQ q1 q2))
set_option maxRecDepth 100000 in
set_option maxHeartbeats 4000000 in
theorem u_X2_X0 {G : VG} {d : Nat} {wp : va_W} {h0 : Nat} {Q : va_W → Prop} (hQ : ∀ q1 q2 q3 : Nat, Q (wp ++ [(h0, .inr (0, [.ref q1, .ref q2, .ref q3, .int 0, .int 0, .int 0, .int 0])), oI G q1 7, oI G q2 7, oI G q3 7])) : UCall G (d + 1) yX2_init cX2_init 1 3 21 [.ref h0] (wp ++ [(h0, .inr (0, [.null, .null, .null, .int 0, .int 0, .int 0, .int 0]))]) Q := by
  intro X hX hU hI hC hR
  show U G 1 X 0 0 0 [(0, .ref h0)] [] (wp ++ [(h0, .inr (0, [.null, .null, .null, .int 0, .int 0, .int 0, .int 0]))])
  refine U_aload_n hX dX2_init_0 0 rfl ?_
  refine U_obj hX ul_X2_3 uo_i uo_c (by omega) (Nat.le_of_ble_eq_true rfl) dX2_init_1 ?_
  refine U_aload_n hX dX2_init_4 0 rfl ?_
  refine U_bipush (v := 7) hX dX2_init_5 (by decide) ?_
  refine UP_newi (N := 7) hX hC ua_i (by decide) (by decide) (by decide) (by decide) (by decide) dX2_init_7 (fun q1 => ?_)
  show U G 1 X 1 7 9 [(0, .ref h0)] [.ref q1, .ref h0] (wp ++ [(h0, .inr (0, [.null, .null, .null, .int 0, .int 0, .int 0, .int 0])), oI G q1 7])
  refine UP_putF (v := .ref q1) (wl' := [(h0, .inr (0, [.ref q1, .null, .null, .int 0, .int 0, .int 0, .int 0])), oI G q1 7]) hX hI fX2_9_0 ff_0_0 0 rfl (Nat.le_of_ble_eq_true rfl) rfl rfl dX2_init_9 rfl ?_
  show U G 1 X 1 7 12 [(0, .ref h0)] [] (wp ++ [(h0, .inr (0, [.ref q1, .null, .null, .int 0, .int 0, .int 0, .int 0])), oI G q1 7])
  refine U_aload_n hX dX2_init_12 0 rfl ?_
  refine U_bipush (v := 7) hX dX2_init_13 (by decide) ?_
  refine UP_newi (N := 7) hX hC ua_i (by decide) (by decide) (by decide) (by decide) (by decide) dX2_init_15 (fun q2 => ?_)
  show U G 1 X 2 14 17 [(0, .ref h0)] [.ref q2, .ref h0] (wp ++ [(h0, .inr (0, [.ref q1, .null, .null, .int 0, .int 0, .int 0, .int 0])), oI G q1 7, oI G q2 7])
  refine UP_putF (v := .ref q2) (wl' := [(h0, .inr (0, [.ref q1, .ref q2, .null, .int 0, .int 0, .int 0, .int 0])), oI G q1 7, oI G q2 7]) hX hI fX2_15_0 ff_0_1 0 rfl (Nat.le_of_ble_eq_true rfl) rfl rfl dX2_init_17 rfl ?_
  show U G 1 X 2 14 20 [(0, .ref h0)] [] (wp ++ [(h0, .inr (0, [.ref q1, .ref q2, .null, .int 0, .int 0, .int 0, .int 0])), oI G q1 7, oI G q2 7])
  refine U_aload_n hX dX2_init_20 0 rfl ?_
  refine U_bipush (v := 7) hX dX2_init_21 (by decide) ?_
  refine UP_newi (N := 7) hX hC ua_i (by decide) (by decide) (by decide) (by decide) (by decide) dX2_init_23 (fun q3 => ?_)
  show U G 1 X 3 21 25 [(0, .ref h0)] [.ref q3, .ref h0] (wp ++ [(h0, .inr (0, [.ref q1, .ref q2, .null, .int 0, .int 0, .int 0, .int 0])), oI G q1 7, oI G q2 7, oI G q3 7])
  refine UP_putF (v := .ref q3) (wl' := [(h0, .inr (0, [.ref q1, .ref q2, .ref q3, .int 0, .int 0, .int 0, .int 0])), oI G q1 7, oI G q2 7, oI G q3 7]) hX hI fX2_18_0 ff_0_2 0 rfl (Nat.le_of_ble_eq_true rfl) rfl rfl dX2_init_25 rfl ?_
  show U G 1 X 3 21 28 [(0, .ref h0)] [] (wp ++ [(h0, .inr (0, [.ref q1, .ref q2, .ref q3, .int 0, .int 0, .int 0, .int 0])), oI G q1 7, oI G q2 7, oI G q3 7])
  refine U_aload_n hX dX2_init_28 0 rfl ?_
  refine U_iconst (v := 0) hX dX2_init_29 (by decide) ?_
  refine UP_put (v := .int 0) (wl' := [(h0, .inr (0, [.ref q1, .ref q2, .ref q3, .int 0, .int 0, .int 0, .int 0])), oI G q1 7, oI G q2 7, oI G q3 7]) hX fX2_21_0 fw_0_3 0 rfl (Nat.le_of_ble_eq_true rfl) rfl rfl dX2_init_30 rfl ?_
  show U G 1 X 3 21 33 [(0, .ref h0)] [] (wp ++ [(h0, .inr (0, [.ref q1, .ref q2, .ref q3, .int 0, .int 0, .int 0, .int 0])), oI G q1 7, oI G q2 7, oI G q3 7])
  exact U_ret hX hC rfl (by decide) (by decide) dX2_init_33 (hR _ (hQ q1 q2 q3))
set_option maxRecDepth 100000 in
set_option maxHeartbeats 4000000 in
theorem u_X2_X1 {G : VG} {d : Nat} {wp : va_W} {h0 : Nat} {Q : va_W → Prop} (hQ : ∀ q1 q2 q3 : Nat, Q (wp ++ [(h0, .inr (1, [.ref q1, .ref q2, .ref q3, .int 0, .int 0, .int 0])), oI G q1 7, oI G q2 7, oI G q3 7])) : UCall G (d + 1) yX2_init cX2_init 1 3 21 [.ref h0] (wp ++ [(h0, .inr (1, [.null, .null, .null, .int 0, .int 0, .int 0]))]) Q := by
  intro X hX hU hI hC hR
  show U G 1 X 0 0 0 [(0, .ref h0)] [] (wp ++ [(h0, .inr (1, [.null, .null, .null, .int 0, .int 0, .int 0]))])
  refine U_aload_n hX dX2_init_0 0 rfl ?_
  refine U_obj hX ul_X2_3 uo_i uo_c (by omega) (Nat.le_of_ble_eq_true rfl) dX2_init_1 ?_
  refine U_aload_n hX dX2_init_4 0 rfl ?_
  refine U_bipush (v := 7) hX dX2_init_5 (by decide) ?_
  refine UP_newi (N := 7) hX hC ua_i (by decide) (by decide) (by decide) (by decide) (by decide) dX2_init_7 (fun q1 => ?_)
  show U G 1 X 1 7 9 [(0, .ref h0)] [.ref q1, .ref h0] (wp ++ [(h0, .inr (1, [.null, .null, .null, .int 0, .int 0, .int 0])), oI G q1 7])
  refine UP_putF (v := .ref q1) (wl' := [(h0, .inr (1, [.ref q1, .null, .null, .int 0, .int 0, .int 0])), oI G q1 7]) hX hI fX2_9_1 ff_1_0 0 rfl (Nat.le_of_ble_eq_true rfl) rfl rfl dX2_init_9 rfl ?_
  show U G 1 X 1 7 12 [(0, .ref h0)] [] (wp ++ [(h0, .inr (1, [.ref q1, .null, .null, .int 0, .int 0, .int 0])), oI G q1 7])
  refine U_aload_n hX dX2_init_12 0 rfl ?_
  refine U_bipush (v := 7) hX dX2_init_13 (by decide) ?_
  refine UP_newi (N := 7) hX hC ua_i (by decide) (by decide) (by decide) (by decide) (by decide) dX2_init_15 (fun q2 => ?_)
  show U G 1 X 2 14 17 [(0, .ref h0)] [.ref q2, .ref h0] (wp ++ [(h0, .inr (1, [.ref q1, .null, .null, .int 0, .int 0, .int 0])), oI G q1 7, oI G q2 7])
  refine UP_putF (v := .ref q2) (wl' := [(h0, .inr (1, [.ref q1, .ref q2, .null, .int 0, .int 0, .int 0])), oI G q1 7, oI G q2 7]) hX hI fX2_15_1 ff_1_1 0 rfl (Nat.le_of_ble_eq_true rfl) rfl rfl dX2_init_17 rfl ?_
  show U G 1 X 2 14 20 [(0, .ref h0)] [] (wp ++ [(h0, .inr (1, [.ref q1, .ref q2, .null, .int 0, .int 0, .int 0])), oI G q1 7, oI G q2 7])
  refine U_aload_n hX dX2_init_20 0 rfl ?_
  refine U_bipush (v := 7) hX dX2_init_21 (by decide) ?_
  refine UP_newi (N := 7) hX hC ua_i (by decide) (by decide) (by decide) (by decide) (by decide) dX2_init_23 (fun q3 => ?_)
  show U G 1 X 3 21 25 [(0, .ref h0)] [.ref q3, .ref h0] (wp ++ [(h0, .inr (1, [.ref q1, .ref q2, .null, .int 0, .int 0, .int 0])), oI G q1 7, oI G q2 7, oI G q3 7])
  refine UP_putF (v := .ref q3) (wl' := [(h0, .inr (1, [.ref q1, .ref q2, .ref q3, .int 0, .int 0, .int 0])), oI G q1 7, oI G q2 7, oI G q3 7]) hX hI fX2_18_1 ff_1_2 0 rfl (Nat.le_of_ble_eq_true rfl) rfl rfl dX2_init_25 rfl ?_
  show U G 1 X 3 21 28 [(0, .ref h0)] [] (wp ++ [(h0, .inr (1, [.ref q1, .ref q2, .ref q3, .int 0, .int 0, .int 0])), oI G q1 7, oI G q2 7, oI G q3 7])
  refine U_aload_n hX dX2_init_28 0 rfl ?_
  refine U_iconst (v := 0) hX dX2_init_29 (by decide) ?_
  refine UP_put (v := .int 0) (wl' := [(h0, .inr (1, [.ref q1, .ref q2, .ref q3, .int 0, .int 0, .int 0])), oI G q1 7, oI G q2 7, oI G q3 7]) hX fX2_21_1 fw_1_3 0 rfl (Nat.le_of_ble_eq_true rfl) rfl rfl dX2_init_30 rfl ?_
  show U G 1 X 3 21 33 [(0, .ref h0)] [] (wp ++ [(h0, .inr (1, [.ref q1, .ref q2, .ref q3, .int 0, .int 0, .int 0])), oI G q1 7, oI G q2 7, oI G q3 7])
  exact U_ret hX hC rfl (by decide) (by decide) dX2_init_33 (hR _ (hQ q1 q2 q3))
abbrev oX0 (h q1 q2 q3 : Nat) : Nat × va_E := (h, .inr (0, [.ref q1, .ref q2, .ref q3, .int 0, .int 0, .int 0, .int 0]))
set_option maxRecDepth 100000 in
set_option maxHeartbeats 4000000 in
theorem u_X0 {G : VG} {d : Nat} {wp : va_W} {h0 : Nat} {Q : va_W → Prop} (hQ : ∀ q1 q2 q3 : Nat, Q (wp ++ [oX0 h0 q1 q2 q3, oI G q1 7, oI G q2 7, oI G q3 7])) : UCall G (d + 2) yX0_init cX0_init 1 3 21 [.ref h0] (wp ++ [(h0, .inr (0, [.null, .null, .null, .int 0, .int 0, .int 0, .int 0]))]) Q := by
  intro X hX hU hI hC hR
  show U G 1 X 0 0 0 [(0, .ref h0)] [] (wp ++ [(h0, .inr (0, [.null, .null, .null, .int 0, .int 0, .int 0, .int 0]))])
  refine U_aload_n hX dX0_init_0 0 rfl ?_
  refine UP_callN (wl1 := []) (c0 := (h0, .inr (0, [.null, .null, .null, .int 0, .int 0, .int 0, .int 0]))) hX hU hC ul_X0_3 uk_X2 rfl (u_X2_X0 (fun q1 q2 q3 => ?_)) (by decide) (by decide) (Nat.le_of_ble_eq_true rfl) dX0_init_1
  rw [List.append_assoc]
  show U G 1 X 3 21 4 [(0, .ref h0)] [] (wp ++ [(h0, .inr (0, [.ref q1, .ref q2, .ref q3, .int 0, .int 0, .int 0, .int 0])), oI G q1 7, oI G q2 7, oI G q3 7])
  refine U_aload_n hX dX0_init_4 0 rfl ?_
  refine U_iconst (v := 0) hX dX0_init_5 (by decide) ?_
  refine UP_put (v := .int 0) (wl' := [(h0, .inr (0, [.ref q1, .ref q2, .ref q3, .int 0, .int 0, .int 0, .int 0])), oI G q1 7, oI G q2 7, oI G q3 7]) hX fX0_9 fw_0_4 0 rfl (Nat.le_of_ble_eq_true rfl) rfl rfl dX0_init_6 rfl ?_
  show U G 1 X 3 21 9 [(0, .ref h0)] [] (wp ++ [(h0, .inr (0, [.ref q1, .ref q2, .ref q3, .int 0, .int 0, .int 0, .int 0])), oI G q1 7, oI G q2 7, oI G q3 7])
  refine U_aload_n hX dX0_init_9 0 rfl ?_
  refine U_iconst (v := 0) hX dX0_init_10 (by decide) ?_
  refine UP_put (v := .int 0) (wl' := [(h0, .inr (0, [.ref q1, .ref q2, .ref q3, .int 0, .int 0, .int 0, .int 0])), oI G q1 7, oI G q2 7, oI G q3 7]) hX fX0_15 fw_0_5 0 rfl (Nat.le_of_ble_eq_true rfl) rfl rfl dX0_init_11 rfl ?_
  show U G 1 X 3 21 14 [(0, .ref h0)] [] (wp ++ [(h0, .inr (0, [.ref q1, .ref q2, .ref q3, .int 0, .int 0, .int 0, .int 0])), oI G q1 7, oI G q2 7, oI G q3 7])
  refine U_aload_n hX dX0_init_14 0 rfl ?_
  refine U_iconst (v := 0) hX dX0_init_15 (by decide) ?_
  refine UP_put (v := .int 0) (wl' := [(h0, .inr (0, [.ref q1, .ref q2, .ref q3, .int 0, .int 0, .int 0, .int 0])), oI G q1 7, oI G q2 7, oI G q3 7]) hX fX0_18 fw_0_6 0 rfl (Nat.le_of_ble_eq_true rfl) rfl rfl dX0_init_16 rfl ?_
  show U G 1 X 3 21 19 [(0, .ref h0)] [] (wp ++ [(h0, .inr (0, [.ref q1, .ref q2, .ref q3, .int 0, .int 0, .int 0, .int 0])), oI G q1 7, oI G q2 7, oI G q3 7])
  exact U_ret hX hC rfl (by decide) (by decide) dX0_init_19 (hR _ (hQ q1 q2 q3))
abbrev oX1 (h q1 q2 q3 : Nat) : Nat × va_E := (h, .inr (1, [.ref q1, .ref q2, .ref q3, .int 0, .int 0, .int 0]))
set_option maxRecDepth 100000 in
set_option maxHeartbeats 4000000 in
theorem u_X1 {G : VG} {d : Nat} {wp : va_W} {h0 : Nat} {Q : va_W → Prop} (hQ : ∀ q1 q2 q3 : Nat, Q (wp ++ [oX1 h0 q1 q2 q3, oI G q1 7, oI G q2 7, oI G q3 7])) : UCall G (d + 2) yX1_init cX1_init 1 3 21 [.ref h0] (wp ++ [(h0, .inr (1, [.null, .null, .null, .int 0, .int 0, .int 0]))]) Q := by
  intro X hX hU hI hC hR
  show U G 1 X 0 0 0 [(0, .ref h0)] [] (wp ++ [(h0, .inr (1, [.null, .null, .null, .int 0, .int 0, .int 0]))])
  refine U_aload_n hX dX1_init_0 0 rfl ?_
  refine UP_callN (wl1 := []) (c0 := (h0, .inr (1, [.null, .null, .null, .int 0, .int 0, .int 0]))) hX hU hC ul_X1_3 uk_X2 rfl (u_X2_X1 (fun q1 q2 q3 => ?_)) (by decide) (by decide) (Nat.le_of_ble_eq_true rfl) dX1_init_1
  rw [List.append_assoc]
  show U G 1 X 3 21 4 [(0, .ref h0)] [] (wp ++ [(h0, .inr (1, [.ref q1, .ref q2, .ref q3, .int 0, .int 0, .int 0])), oI G q1 7, oI G q2 7, oI G q3 7])
  refine U_aload_n hX dX1_init_4 0 rfl ?_
  refine U_iconst (v := 0) hX dX1_init_5 (by decide) ?_
  refine UP_put (v := .int 0) (wl' := [(h0, .inr (1, [.ref q1, .ref q2, .ref q3, .int 0, .int 0, .int 0])), oI G q1 7, oI G q2 7, oI G q3 7]) hX fX1_9 fw_1_4 0 rfl (Nat.le_of_ble_eq_true rfl) rfl rfl dX1_init_6 rfl ?_
  show U G 1 X 3 21 9 [(0, .ref h0)] [] (wp ++ [(h0, .inr (1, [.ref q1, .ref q2, .ref q3, .int 0, .int 0, .int 0])), oI G q1 7, oI G q2 7, oI G q3 7])
  refine U_aload_n hX dX1_init_9 0 rfl ?_
  refine U_iconst (v := 0) hX dX1_init_10 (by decide) ?_
  refine UP_put (v := .int 0) (wl' := [(h0, .inr (1, [.ref q1, .ref q2, .ref q3, .int 0, .int 0, .int 0])), oI G q1 7, oI G q2 7, oI G q3 7]) hX fX1_15 fw_1_5 0 rfl (Nat.le_of_ble_eq_true rfl) rfl rfl dX1_init_11 rfl ?_
  show U G 1 X 3 21 14 [(0, .ref h0)] [] (wp ++ [(h0, .inr (1, [.ref q1, .ref q2, .ref q3, .int 0, .int 0, .int 0])), oI G q1 7, oI G q2 7, oI G q3 7])
  exact U_ret hX hC rfl (by decide) (by decide) dX1_init_14 (hR _ (hQ q1 q2 q3))
abbrev oX9 (h q1 q2 q3 q4 q5 q6 q7 q8 q9 q10 q11 q12 q13 q14 q15 q16 q17 : Nat) : Nat × va_E := (h, .inr (8, [.int 2, .int 0, .ref q1, .ref q2, .ref q3, .ref q4, .int 0, .int 4, .int 1, .int 0, .int 0, .ref q5, .int 0, .ref q6, .ref q7, .int 0, .ref q8, .int 0, .int 0, .int 0, .ref q9, .ref q10, .ref q11, .ref q12, .ref q13, .int 0, .int 0, .int 0, .int 0, .int 0, .int 0, .int 0, .ref q14, .int 0, .ref q15, .ref q16, .ref q17]))
set_option maxRecDepth 100000 in
set_option maxHeartbeats 4000000 in
theorem u_X9 {G : VG} {d : Nat} {wp : va_W} {h0 : Nat} {Q : va_W → Prop} (hQ : ∀ q1 q2 q3 q4 q5 q6 q7 q8 q9 q10 q11 q12 q13 q14 q15 q16 q17 : Nat, Q (wp ++ [oX9 h0 q1 q2 q3 q4 q5 q6 q7 q8 q9 q10 q11 q12 q13 q14 q15 q16 q17, oI G q1 8, oI G q2 8, oI G q3 8, oI G q4 8, oI G q5 16, oI G q6 61, oI G q7 61, oI G q8 8, oI G q9 8, oI G q10 61, oI G q11 61, oI G q12 61, oI G q13 488, oI G q14 61, oI G q15 8, oI G q16 140, oZ G q17 2])) : UCall G (d + 1) yX9_init cX9_init 1 17 1068 [.ref h0] (wp ++ [(h0, .inr (8, [.int 0, .int 0, .null, .null, .null, .null, .int 0, .int 0, .int 0, .int 0, .int 0, .null, .int 0, .null, .null, .int 0, .null, .int 0, .int 0, .int 0, .null, .null, .null, .null, .null, .int 0, .int 0, .int 0, .int 0, .int 0, .int 0, .int 0, .null, .int 0, .null, .null, .null]))]) Q := by
  intro X hX hU hI hC hR
  show U G 1 X 0 0 0 [(0, .ref h0)] [] (wp ++ [(h0, .inr (8, [.int 0, .int 0, .null, .null, .null, .null, .int 0, .int 0, .int 0, .int 0, .int 0, .null, .int 0, .null, .null, .int 0, .null, .int 0, .int 0, .int 0, .null, .null, .null, .null, .null, .int 0, .int 0, .int 0, .int 0, .int 0, .int 0, .int 0, .null, .int 0, .null, .null, .null]))])
  refine U_aload_n hX dX9_init_0 0 rfl ?_
  refine U_obj hX ul_X9_1 uo_i uo_c (by omega) (Nat.le_of_ble_eq_true rfl) dX9_init_1 ?_
  refine U_aload_n hX dX9_init_4 0 rfl ?_
  refine U_iconst (v := 2) hX dX9_init_5 (by decide) ?_
  refine UP_put (v := .int 2) (wl' := [(h0, .inr (8, [.int 2, .int 0, .null, .null, .null, .null, .int 0, .int 0, .int 0, .int 0, .int 0, .null, .int 0, .null, .null, .int 0, .null, .int 0, .int 0, .int 0, .null, .null, .null, .null, .null, .int 0, .int 0, .int 0, .int 0, .int 0, .int 0, .int 0, .null, .int 0, .null, .null, .null]))]) hX fX9_7 fw_8_0 0 rfl (Nat.le_of_ble_eq_true rfl) rfl rfl dX9_init_6 rfl ?_
  show U G 1 X 0 0 9 [(0, .ref h0)] [] (wp ++ [(h0, .inr (8, [.int 2, .int 0, .null, .null, .null, .null, .int 0, .int 0, .int 0, .int 0, .int 0, .null, .int 0, .null, .null, .int 0, .null, .int 0, .int 0, .int 0, .null, .null, .null, .null, .null, .int 0, .int 0, .int 0, .int 0, .int 0, .int 0, .int 0, .null, .int 0, .null, .null, .null]))])
  refine U_aload_n hX dX9_init_9 0 rfl ?_
  refine U_bipush (v := 8) hX dX9_init_10 (by decide) ?_
  refine UP_newi (N := 8) hX hC ua_i (by decide) (by decide) (by decide) (by decide) (by decide) dX9_init_12 (fun q1 => ?_)
  show U G 1 X 1 8 14 [(0, .ref h0)] [.ref q1, .ref h0] (wp ++ [(h0, .inr (8, [.int 2, .int 0, .null, .null, .null, .null, .int 0, .int 0, .int 0, .int 0, .int 0, .null, .int 0, .null, .null, .int 0, .null, .int 0, .int 0, .int 0, .null, .null, .null, .null, .null, .int 0, .int 0, .int 0, .int 0, .int 0, .int 0, .int 0, .null, .int 0, .null, .null, .null])), oI G q1 8])
  refine UP_putF (v := .ref q1) (wl' := [(h0, .inr (8, [.int 2, .int 0, .ref q1, .null, .null, .null, .int 0, .int 0, .int 0, .int 0, .int 0, .null, .int 0, .null, .null, .int 0, .null, .int 0, .int 0, .int 0, .null, .null, .null, .null, .null, .int 0, .int 0, .int 0, .int 0, .int 0, .int 0, .int 0, .null, .int 0, .null, .null, .null])), oI G q1 8]) hX hI fX9_13 ff_8_2 0 rfl (Nat.le_of_ble_eq_true rfl) rfl rfl dX9_init_14 rfl ?_
  show U G 1 X 1 8 17 [(0, .ref h0)] [] (wp ++ [(h0, .inr (8, [.int 2, .int 0, .ref q1, .null, .null, .null, .int 0, .int 0, .int 0, .int 0, .int 0, .null, .int 0, .null, .null, .int 0, .null, .int 0, .int 0, .int 0, .null, .null, .null, .null, .null, .int 0, .int 0, .int 0, .int 0, .int 0, .int 0, .int 0, .null, .int 0, .null, .null, .null])), oI G q1 8])
  refine U_aload_n hX dX9_init_17 0 rfl ?_
  refine U_bipush (v := 8) hX dX9_init_18 (by decide) ?_
  refine UP_newi (N := 8) hX hC ua_i (by decide) (by decide) (by decide) (by decide) (by decide) dX9_init_20 (fun q2 => ?_)
  show U G 1 X 2 16 22 [(0, .ref h0)] [.ref q2, .ref h0] (wp ++ [(h0, .inr (8, [.int 2, .int 0, .ref q1, .null, .null, .null, .int 0, .int 0, .int 0, .int 0, .int 0, .null, .int 0, .null, .null, .int 0, .null, .int 0, .int 0, .int 0, .null, .null, .null, .null, .null, .int 0, .int 0, .int 0, .int 0, .int 0, .int 0, .int 0, .null, .int 0, .null, .null, .null])), oI G q1 8, oI G q2 8])
  refine UP_putF (v := .ref q2) (wl' := [(h0, .inr (8, [.int 2, .int 0, .ref q1, .ref q2, .null, .null, .int 0, .int 0, .int 0, .int 0, .int 0, .null, .int 0, .null, .null, .int 0, .null, .int 0, .int 0, .int 0, .null, .null, .null, .null, .null, .int 0, .int 0, .int 0, .int 0, .int 0, .int 0, .int 0, .null, .int 0, .null, .null, .null])), oI G q1 8, oI G q2 8]) hX hI fX9_17 ff_8_3 0 rfl (Nat.le_of_ble_eq_true rfl) rfl rfl dX9_init_22 rfl ?_
  show U G 1 X 2 16 25 [(0, .ref h0)] [] (wp ++ [(h0, .inr (8, [.int 2, .int 0, .ref q1, .ref q2, .null, .null, .int 0, .int 0, .int 0, .int 0, .int 0, .null, .int 0, .null, .null, .int 0, .null, .int 0, .int 0, .int 0, .null, .null, .null, .null, .null, .int 0, .int 0, .int 0, .int 0, .int 0, .int 0, .int 0, .null, .int 0, .null, .null, .null])), oI G q1 8, oI G q2 8])
  refine U_aload_n hX dX9_init_25 0 rfl ?_
  refine U_bipush (v := 8) hX dX9_init_26 (by decide) ?_
  refine UP_newi (N := 8) hX hC ua_i (by decide) (by decide) (by decide) (by decide) (by decide) dX9_init_28 (fun q3 => ?_)
  show U G 1 X 3 24 30 [(0, .ref h0)] [.ref q3, .ref h0] (wp ++ [(h0, .inr (8, [.int 2, .int 0, .ref q1, .ref q2, .null, .null, .int 0, .int 0, .int 0, .int 0, .int 0, .null, .int 0, .null, .null, .int 0, .null, .int 0, .int 0, .int 0, .null, .null, .null, .null, .null, .int 0, .int 0, .int 0, .int 0, .int 0, .int 0, .int 0, .null, .int 0, .null, .null, .null])), oI G q1 8, oI G q2 8, oI G q3 8])
  refine UP_putF (v := .ref q3) (wl' := [(h0, .inr (8, [.int 2, .int 0, .ref q1, .ref q2, .ref q3, .null, .int 0, .int 0, .int 0, .int 0, .int 0, .null, .int 0, .null, .null, .int 0, .null, .int 0, .int 0, .int 0, .null, .null, .null, .null, .null, .int 0, .int 0, .int 0, .int 0, .int 0, .int 0, .int 0, .null, .int 0, .null, .null, .null])), oI G q1 8, oI G q2 8, oI G q3 8]) hX hI fX9_20 ff_8_4 0 rfl (Nat.le_of_ble_eq_true rfl) rfl rfl dX9_init_30 rfl ?_
  show U G 1 X 3 24 33 [(0, .ref h0)] [] (wp ++ [(h0, .inr (8, [.int 2, .int 0, .ref q1, .ref q2, .ref q3, .null, .int 0, .int 0, .int 0, .int 0, .int 0, .null, .int 0, .null, .null, .int 0, .null, .int 0, .int 0, .int 0, .null, .null, .null, .null, .null, .int 0, .int 0, .int 0, .int 0, .int 0, .int 0, .int 0, .null, .int 0, .null, .null, .null])), oI G q1 8, oI G q2 8, oI G q3 8])
  refine U_aload_n hX dX9_init_33 0 rfl ?_
  refine U_bipush (v := 8) hX dX9_init_34 (by decide) ?_
  refine UP_newi (N := 8) hX hC ua_i (by decide) (by decide) (by decide) (by decide) (by decide) dX9_init_36 (fun q4 => ?_)
  show U G 1 X 4 32 38 [(0, .ref h0)] [.ref q4, .ref h0] (wp ++ [(h0, .inr (8, [.int 2, .int 0, .ref q1, .ref q2, .ref q3, .null, .int 0, .int 0, .int 0, .int 0, .int 0, .null, .int 0, .null, .null, .int 0, .null, .int 0, .int 0, .int 0, .null, .null, .null, .null, .null, .int 0, .int 0, .int 0, .int 0, .int 0, .int 0, .int 0, .null, .int 0, .null, .null, .null])), oI G q1 8, oI G q2 8, oI G q3 8, oI G q4 8])
  refine UP_putF (v := .ref q4) (wl' := [(h0, .inr (8, [.int 2, .int 0, .ref q1, .ref q2, .ref q3, .ref q4, .int 0, .int 0, .int 0, .int 0, .int 0, .null, .int 0, .null, .null, .int 0, .null, .int 0, .int 0, .int 0, .null, .null, .null, .null, .null, .int 0, .int 0, .int 0, .int 0, .int 0, .int 0, .int 0, .null, .int 0, .null, .null, .null])), oI G q1 8, oI G q2 8, oI G q3 8, oI G q4 8]) hX hI fX9_23 ff_8_5 0 rfl (Nat.le_of_ble_eq_true rfl) rfl rfl dX9_init_38 rfl ?_
  show U G 1 X 4 32 41 [(0, .ref h0)] [] (wp ++ [(h0, .inr (8, [.int 2, .int 0, .ref q1, .ref q2, .ref q3, .ref q4, .int 0, .int 0, .int 0, .int 0, .int 0, .null, .int 0, .null, .null, .int 0, .null, .int 0, .int 0, .int 0, .null, .null, .null, .null, .null, .int 0, .int 0, .int 0, .int 0, .int 0, .int 0, .int 0, .null, .int 0, .null, .null, .null])), oI G q1 8, oI G q2 8, oI G q3 8, oI G q4 8])
  refine U_aload_n hX dX9_init_41 0 rfl ?_
  refine U_iconst (v := 4) hX dX9_init_42 (by decide) ?_
  refine UP_put (v := .int 4) (wl' := [(h0, .inr (8, [.int 2, .int 0, .ref q1, .ref q2, .ref q3, .ref q4, .int 0, .int 4, .int 0, .int 0, .int 0, .null, .int 0, .null, .null, .int 0, .null, .int 0, .int 0, .int 0, .null, .null, .null, .null, .null, .int 0, .int 0, .int 0, .int 0, .int 0, .int 0, .int 0, .null, .int 0, .null, .null, .null])), oI G q1 8, oI G q2 8, oI G q3 8, oI G q4 8]) hX fX9_26 fw_8_7 0 rfl (Nat.le_of_ble_eq_true rfl) rfl rfl dX9_init_43 rfl ?_
  show U G 1 X 4 32 46 [(0, .ref h0)] [] (wp ++ [(h0, .inr (8, [.int 2, .int 0, .ref q1, .ref q2, .ref q3, .ref q4, .int 0, .int 4, .int 0, .int 0, .int 0, .null, .int 0, .null, .null, .int 0, .null, .int 0, .int 0, .int 0, .null, .null, .null, .null, .null, .int 0, .int 0, .int 0, .int 0, .int 0, .int 0, .int 0, .null, .int 0, .null, .null, .null])), oI G q1 8, oI G q2 8, oI G q3 8, oI G q4 8])
  refine U_aload_n hX dX9_init_46 0 rfl ?_
  refine U_iconst (v := 1) hX dX9_init_47 (by decide) ?_
  refine UP_put (v := .int 1) (wl' := [(h0, .inr (8, [.int 2, .int 0, .ref q1, .ref q2, .ref q3, .ref q4, .int 0, .int 4, .int 1, .int 0, .int 0, .null, .int 0, .null, .null, .int 0, .null, .int 0, .int 0, .int 0, .null, .null, .null, .null, .null, .int 0, .int 0, .int 0, .int 0, .int 0, .int 0, .int 0, .null, .int 0, .null, .null, .null])), oI G q1 8, oI G q2 8, oI G q3 8, oI G q4 8]) hX fX9_29 fw_8_8 0 rfl (Nat.le_of_ble_eq_true rfl) rfl rfl dX9_init_48 rfl ?_
  show U G 1 X 4 32 51 [(0, .ref h0)] [] (wp ++ [(h0, .inr (8, [.int 2, .int 0, .ref q1, .ref q2, .ref q3, .ref q4, .int 0, .int 4, .int 1, .int 0, .int 0, .null, .int 0, .null, .null, .int 0, .null, .int 0, .int 0, .int 0, .null, .null, .null, .null, .null, .int 0, .int 0, .int 0, .int 0, .int 0, .int 0, .int 0, .null, .int 0, .null, .null, .null])), oI G q1 8, oI G q2 8, oI G q3 8, oI G q4 8])
  refine U_aload_n hX dX9_init_51 0 rfl ?_
  refine U_bipush (v := 16) hX dX9_init_52 (by decide) ?_
  refine UP_newi (N := 16) hX hC ua_i (by decide) (by decide) (by decide) (by decide) (by decide) dX9_init_54 (fun q5 => ?_)
  show U G 1 X 5 48 56 [(0, .ref h0)] [.ref q5, .ref h0] (wp ++ [(h0, .inr (8, [.int 2, .int 0, .ref q1, .ref q2, .ref q3, .ref q4, .int 0, .int 4, .int 1, .int 0, .int 0, .null, .int 0, .null, .null, .int 0, .null, .int 0, .int 0, .int 0, .null, .null, .null, .null, .null, .int 0, .int 0, .int 0, .int 0, .int 0, .int 0, .int 0, .null, .int 0, .null, .null, .null])), oI G q1 8, oI G q2 8, oI G q3 8, oI G q4 8, oI G q5 16])
  refine UP_putF (v := .ref q5) (wl' := [(h0, .inr (8, [.int 2, .int 0, .ref q1, .ref q2, .ref q3, .ref q4, .int 0, .int 4, .int 1, .int 0, .int 0, .ref q5, .int 0, .null, .null, .int 0, .null, .int 0, .int 0, .int 0, .null, .null, .null, .null, .null, .int 0, .int 0, .int 0, .int 0, .int 0, .int 0, .int 0, .null, .int 0, .null, .null, .null])), oI G q1 8, oI G q2 8, oI G q3 8, oI G q4 8, oI G q5 16]) hX hI fX9_32 ff_8_11 0 rfl (Nat.le_of_ble_eq_true rfl) rfl rfl dX9_init_56 rfl ?_
  show U G 1 X 5 48 59 [(0, .ref h0)] [] (wp ++ [(h0, .inr (8, [.int 2, .int 0, .ref q1, .ref q2, .ref q3, .ref q4, .int 0, .int 4, .int 1, .int 0, .int 0, .ref q5, .int 0, .null, .null, .int 0, .null, .int 0, .int 0, .int 0, .null, .null, .null, .null, .null, .int 0, .int 0, .int 0, .int 0, .int 0, .int 0, .int 0, .null, .int 0, .null, .null, .null])), oI G q1 8, oI G q2 8, oI G q3 8, oI G q4 8, oI G q5 16])
  refine U_aload_n hX dX9_init_59 0 rfl ?_
  refine U_bipush (v := 61) hX dX9_init_60 (by decide) ?_
  refine UP_newi (N := 61) hX hC ua_i (by decide) (by decide) (by decide) (by decide) (by decide) dX9_init_62 (fun q6 => ?_)
  show U G 1 X 6 109 64 [(0, .ref h0)] [.ref q6, .ref h0] (wp ++ [(h0, .inr (8, [.int 2, .int 0, .ref q1, .ref q2, .ref q3, .ref q4, .int 0, .int 4, .int 1, .int 0, .int 0, .ref q5, .int 0, .null, .null, .int 0, .null, .int 0, .int 0, .int 0, .null, .null, .null, .null, .null, .int 0, .int 0, .int 0, .int 0, .int 0, .int 0, .int 0, .null, .int 0, .null, .null, .null])), oI G q1 8, oI G q2 8, oI G q3 8, oI G q4 8, oI G q5 16, oI G q6 61])
  refine UP_putF (v := .ref q6) (wl' := [(h0, .inr (8, [.int 2, .int 0, .ref q1, .ref q2, .ref q3, .ref q4, .int 0, .int 4, .int 1, .int 0, .int 0, .ref q5, .int 0, .ref q6, .null, .int 0, .null, .int 0, .int 0, .int 0, .null, .null, .null, .null, .null, .int 0, .int 0, .int 0, .int 0, .int 0, .int 0, .int 0, .null, .int 0, .null, .null, .null])), oI G q1 8, oI G q2 8, oI G q3 8, oI G q4 8, oI G q5 16, oI G q6 61]) hX hI fX9_35 ff_8_13 0 rfl (Nat.le_of_ble_eq_true rfl) rfl rfl dX9_init_64 rfl ?_
  show U G 1 X 6 109 67 [(0, .ref h0)] [] (wp ++ [(h0, .inr (8, [.int 2, .int 0, .ref q1, .ref q2, .ref q3, .ref q4, .int 0, .int 4, .int 1, .int 0, .int 0, .ref q5, .int 0, .ref q6, .null, .int 0, .null, .int 0, .int 0, .int 0, .null, .null, .null, .null, .null, .int 0, .int 0, .int 0, .int 0, .int 0, .int 0, .int 0, .null, .int 0, .null, .null, .null])), oI G q1 8, oI G q2 8, oI G q3 8, oI G q4 8, oI G q5 16, oI G q6 61])
  refine U_aload_n hX dX9_init_67 0 rfl ?_
  refine U_bipush (v := 61) hX dX9_init_68 (by decide) ?_
  refine UP_newi (N := 61) hX hC ua_i (by decide) (by decide) (by decide) (by decide) (by decide) dX9_init_70 (fun q7 => ?_)
  show U G 1 X 7 170 72 [(0, .ref h0)] [.ref q7, .ref h0] (wp ++ [(h0, .inr (8, [.int 2, .int 0, .ref q1, .ref q2, .ref q3, .ref q4, .int 0, .int 4, .int 1, .int 0, .int 0, .ref q5, .int 0, .ref q6, .null, .int 0, .null, .int 0, .int 0, .int 0, .null, .null, .null, .null, .null, .int 0, .int 0, .int 0, .int 0, .int 0, .int 0, .int 0, .null, .int 0, .null, .null, .null])), oI G q1 8, oI G q2 8, oI G q3 8, oI G q4 8, oI G q5 16, oI G q6 61, oI G q7 61])
  refine UP_putF (v := .ref q7) (wl' := [(h0, .inr (8, [.int 2, .int 0, .ref q1, .ref q2, .ref q3, .ref q4, .int 0, .int 4, .int 1, .int 0, .int 0, .ref q5, .int 0, .ref q6, .ref q7, .int 0, .null, .int 0, .int 0, .int 0, .null, .null, .null, .null, .null, .int 0, .int 0, .int 0, .int 0, .int 0, .int 0, .int 0, .null, .int 0, .null, .null, .null])), oI G q1 8, oI G q2 8, oI G q3 8, oI G q4 8, oI G q5 16, oI G q6 61, oI G q7 61]) hX hI fX9_38 ff_8_14 0 rfl (Nat.le_of_ble_eq_true rfl) rfl rfl dX9_init_72 rfl ?_
  show U G 1 X 7 170 75 [(0, .ref h0)] [] (wp ++ [(h0, .inr (8, [.int 2, .int 0, .ref q1, .ref q2, .ref q3, .ref q4, .int 0, .int 4, .int 1, .int 0, .int 0, .ref q5, .int 0, .ref q6, .ref q7, .int 0, .null, .int 0, .int 0, .int 0, .null, .null, .null, .null, .null, .int 0, .int 0, .int 0, .int 0, .int 0, .int 0, .int 0, .null, .int 0, .null, .null, .null])), oI G q1 8, oI G q2 8, oI G q3 8, oI G q4 8, oI G q5 16, oI G q6 61, oI G q7 61])
  refine U_aload_n hX dX9_init_75 0 rfl ?_
  refine U_bipush (v := 8) hX dX9_init_76 (by decide) ?_
  refine UP_newi (N := 8) hX hC ua_i (by decide) (by decide) (by decide) (by decide) (by decide) dX9_init_78 (fun q8 => ?_)
  show U G 1 X 8 178 80 [(0, .ref h0)] [.ref q8, .ref h0] (wp ++ [(h0, .inr (8, [.int 2, .int 0, .ref q1, .ref q2, .ref q3, .ref q4, .int 0, .int 4, .int 1, .int 0, .int 0, .ref q5, .int 0, .ref q6, .ref q7, .int 0, .null, .int 0, .int 0, .int 0, .null, .null, .null, .null, .null, .int 0, .int 0, .int 0, .int 0, .int 0, .int 0, .int 0, .null, .int 0, .null, .null, .null])), oI G q1 8, oI G q2 8, oI G q3 8, oI G q4 8, oI G q5 16, oI G q6 61, oI G q7 61, oI G q8 8])
  refine UP_putF (v := .ref q8) (wl' := [(h0, .inr (8, [.int 2, .int 0, .ref q1, .ref q2, .ref q3, .ref q4, .int 0, .int 4, .int 1, .int 0, .int 0, .ref q5, .int 0, .ref q6, .ref q7, .int 0, .ref q8, .int 0, .int 0, .int 0, .null, .null, .null, .null, .null, .int 0, .int 0, .int 0, .int 0, .int 0, .int 0, .int 0, .null, .int 0, .null, .null, .null])), oI G q1 8, oI G q2 8, oI G q3 8, oI G q4 8, oI G q5 16, oI G q6 61, oI G q7 61, oI G q8 8]) hX hI fX9_41 ff_8_16 0 rfl (Nat.le_of_ble_eq_true rfl) rfl rfl dX9_init_80 rfl ?_
  show U G 1 X 8 178 83 [(0, .ref h0)] [] (wp ++ [(h0, .inr (8, [.int 2, .int 0, .ref q1, .ref q2, .ref q3, .ref q4, .int 0, .int 4, .int 1, .int 0, .int 0, .ref q5, .int 0, .ref q6, .ref q7, .int 0, .ref q8, .int 0, .int 0, .int 0, .null, .null, .null, .null, .null, .int 0, .int 0, .int 0, .int 0, .int 0, .int 0, .int 0, .null, .int 0, .null, .null, .null])), oI G q1 8, oI G q2 8, oI G q3 8, oI G q4 8, oI G q5 16, oI G q6 61, oI G q7 61, oI G q8 8])
  refine U_aload_n hX dX9_init_83 0 rfl ?_
  refine U_bipush (v := 8) hX dX9_init_84 (by decide) ?_
  refine UP_newi (N := 8) hX hC ua_i (by decide) (by decide) (by decide) (by decide) (by decide) dX9_init_86 (fun q9 => ?_)
  show U G 1 X 9 186 88 [(0, .ref h0)] [.ref q9, .ref h0] (wp ++ [(h0, .inr (8, [.int 2, .int 0, .ref q1, .ref q2, .ref q3, .ref q4, .int 0, .int 4, .int 1, .int 0, .int 0, .ref q5, .int 0, .ref q6, .ref q7, .int 0, .ref q8, .int 0, .int 0, .int 0, .null, .null, .null, .null, .null, .int 0, .int 0, .int 0, .int 0, .int 0, .int 0, .int 0, .null, .int 0, .null, .null, .null])), oI G q1 8, oI G q2 8, oI G q3 8, oI G q4 8, oI G q5 16, oI G q6 61, oI G q7 61, oI G q8 8, oI G q9 8])
  refine UP_putF (v := .ref q9) (wl' := [(h0, .inr (8, [.int 2, .int 0, .ref q1, .ref q2, .ref q3, .ref q4, .int 0, .int 4, .int 1, .int 0, .int 0, .ref q5, .int 0, .ref q6, .ref q7, .int 0, .ref q8, .int 0, .int 0, .int 0, .ref q9, .null, .null, .null, .null, .int 0, .int 0, .int 0, .int 0, .int 0, .int 0, .int 0, .null, .int 0, .null, .null, .null])), oI G q1 8, oI G q2 8, oI G q3 8, oI G q4 8, oI G q5 16, oI G q6 61, oI G q7 61, oI G q8 8, oI G q9 8]) hX hI fX9_44 ff_8_20 0 rfl (Nat.le_of_ble_eq_true rfl) rfl rfl dX9_init_88 rfl ?_
  show U G 1 X 9 186 91 [(0, .ref h0)] [] (wp ++ [(h0, .inr (8, [.int 2, .int 0, .ref q1, .ref q2, .ref q3, .ref q4, .int 0, .int 4, .int 1, .int 0, .int 0, .ref q5, .int 0, .ref q6, .ref q7, .int 0, .ref q8, .int 0, .int 0, .int 0, .ref q9, .null, .null, .null, .null, .int 0, .int 0, .int 0, .int 0, .int 0, .int 0, .int 0, .null, .int 0, .null, .null, .null])), oI G q1 8, oI G q2 8, oI G q3 8, oI G q4 8, oI G q5 16, oI G q6 61, oI G q7 61, oI G q8 8, oI G q9 8])
  refine U_aload_n hX dX9_init_91 0 rfl ?_
  refine U_bipush (v := 61) hX dX9_init_92 (by decide) ?_
  refine UP_newi (N := 61) hX hC ua_i (by decide) (by decide) (by decide) (by decide) (by decide) dX9_init_94 (fun q10 => ?_)
  show U G 1 X 10 247 96 [(0, .ref h0)] [.ref q10, .ref h0] (wp ++ [(h0, .inr (8, [.int 2, .int 0, .ref q1, .ref q2, .ref q3, .ref q4, .int 0, .int 4, .int 1, .int 0, .int 0, .ref q5, .int 0, .ref q6, .ref q7, .int 0, .ref q8, .int 0, .int 0, .int 0, .ref q9, .null, .null, .null, .null, .int 0, .int 0, .int 0, .int 0, .int 0, .int 0, .int 0, .null, .int 0, .null, .null, .null])), oI G q1 8, oI G q2 8, oI G q3 8, oI G q4 8, oI G q5 16, oI G q6 61, oI G q7 61, oI G q8 8, oI G q9 8, oI G q10 61])
  refine UP_putF (v := .ref q10) (wl' := [(h0, .inr (8, [.int 2, .int 0, .ref q1, .ref q2, .ref q3, .ref q4, .int 0, .int 4, .int 1, .int 0, .int 0, .ref q5, .int 0, .ref q6, .ref q7, .int 0, .ref q8, .int 0, .int 0, .int 0, .ref q9, .ref q10, .null, .null, .null, .int 0, .int 0, .int 0, .int 0, .int 0, .int 0, .int 0, .null, .int 0, .null, .null, .null])), oI G q1 8, oI G q2 8, oI G q3 8, oI G q4 8, oI G q5 16, oI G q6 61, oI G q7 61, oI G q8 8, oI G q9 8, oI G q10 61]) hX hI fX9_47 ff_8_21 0 rfl (Nat.le_of_ble_eq_true rfl) rfl rfl dX9_init_96 rfl ?_
  show U G 1 X 10 247 99 [(0, .ref h0)] [] (wp ++ [(h0, .inr (8, [.int 2, .int 0, .ref q1, .ref q2, .ref q3, .ref q4, .int 0, .int 4, .int 1, .int 0, .int 0, .ref q5, .int 0, .ref q6, .ref q7, .int 0, .ref q8, .int 0, .int 0, .int 0, .ref q9, .ref q10, .null, .null, .null, .int 0, .int 0, .int 0, .int 0, .int 0, .int 0, .int 0, .null, .int 0, .null, .null, .null])), oI G q1 8, oI G q2 8, oI G q3 8, oI G q4 8, oI G q5 16, oI G q6 61, oI G q7 61, oI G q8 8, oI G q9 8, oI G q10 61])
  refine U_aload_n hX dX9_init_99 0 rfl ?_
  refine U_bipush (v := 61) hX dX9_init_100 (by decide) ?_
  refine UP_newi (N := 61) hX hC ua_i (by decide) (by decide) (by decide) (by decide) (by decide) dX9_init_102 (fun q11 => ?_)
  show U G 1 X 11 308 104 [(0, .ref h0)] [.ref q11, .ref h0] (wp ++ [(h0, .inr (8, [.int 2, .int 0, .ref q1, .ref q2, .ref q3, .ref q4, .int 0, .int 4, .int 1, .int 0, .int 0, .ref q5, .int 0, .ref q6, .ref q7, .int 0, .ref q8, .int 0, .int 0, .int 0, .ref q9, .ref q10, .null, .null, .null, .int 0, .int 0, .int 0, .int 0, .int 0, .int 0, .int 0, .null, .int 0, .null, .null, .null])), oI G q1 8, oI G q2 8, oI G q3 8, oI G q4 8, oI G q5 16, oI G q6 61, oI G q7 61, oI G q8 8, oI G q9 8, oI G q10 61, oI G q11 61])
  refine UP_putF (v := .ref q11) (wl' := [(h0, .inr (8, [.int 2, .int 0, .ref q1, .ref q2, .ref q3, .ref q4, .int 0, .int 4, .int 1, .int 0, .int 0, .ref q5, .int 0, .ref q6, .ref q7, .int 0, .ref q8, .int 0, .int 0, .int 0, .ref q9, .ref q10, .ref q11, .null, .null, .int 0, .int 0, .int 0, .int 0, .int 0, .int 0, .int 0, .null, .int 0, .null, .null, .null])), oI G q1 8, oI G q2 8, oI G q3 8, oI G q4 8, oI G q5 16, oI G q6 61, oI G q7 61, oI G q8 8, oI G q9 8, oI G q10 61, oI G q11 61]) hX hI fX9_50 ff_8_22 0 rfl (Nat.le_of_ble_eq_true rfl) rfl rfl dX9_init_104 rfl ?_
  show U G 1 X 11 308 107 [(0, .ref h0)] [] (wp ++ [(h0, .inr (8, [.int 2, .int 0, .ref q1, .ref q2, .ref q3, .ref q4, .int 0, .int 4, .int 1, .int 0, .int 0, .ref q5, .int 0, .ref q6, .ref q7, .int 0, .ref q8, .int 0, .int 0, .int 0, .ref q9, .ref q10, .ref q11, .null, .null, .int 0, .int 0, .int 0, .int 0, .int 0, .int 0, .int 0, .null, .int 0, .null, .null, .null])), oI G q1 8, oI G q2 8, oI G q3 8, oI G q4 8, oI G q5 16, oI G q6 61, oI G q7 61, oI G q8 8, oI G q9 8, oI G q10 61, oI G q11 61])
  refine U_aload_n hX dX9_init_107 0 rfl ?_
  refine U_bipush (v := 61) hX dX9_init_108 (by decide) ?_
  refine UP_newi (N := 61) hX hC ua_i (by decide) (by decide) (by decide) (by decide) (by decide) dX9_init_110 (fun q12 => ?_)
  show U G 1 X 12 369 112 [(0, .ref h0)] [.ref q12, .ref h0] (wp ++ [(h0, .inr (8, [.int 2, .int 0, .ref q1, .ref q2, .ref q3, .ref q4, .int 0, .int 4, .int 1, .int 0, .int 0, .ref q5, .int 0, .ref q6, .ref q7, .int 0, .ref q8, .int 0, .int 0, .int 0, .ref q9, .ref q10, .ref q11, .null, .null, .int 0, .int 0, .int 0, .int 0, .int 0, .int 0, .int 0, .null, .int 0, .null, .null, .null])), oI G q1 8, oI G q2 8, oI G q3 8, oI G q4 8, oI G q5 16, oI G q6 61, oI G q7 61, oI G q8 8, oI G q9 8, oI G q10 61, oI G q11 61, oI G q12 61])
  refine UP_putF (v := .ref q12) (wl' := [(h0, .inr (8, [.int 2, .int 0, .ref q1, .ref q2, .ref q3, .ref q4, .int 0, .int 4, .int 1, .int 0, .int 0, .ref q5, .int 0, .ref q6, .ref q7, .int 0, .ref q8, .int 0, .int 0, .int 0, .ref q9, .ref q10, .ref q11, .ref q12, .null, .int 0, .int 0, .int 0, .int 0, .int 0, .int 0, .int 0, .null, .int 0, .null, .null, .null])), oI G q1 8, oI G q2 8, oI G q3 8, oI G q4 8, oI G q5 16, oI G q6 61, oI G q7 61, oI G q8 8, oI G q9 8, oI G q10 61, oI G q11 61, oI G q12 61]) hX hI fX9_53 ff_8_23 0 rfl (Nat.le_of_ble_eq_true rfl) rfl rfl dX9_init_112 rfl ?_
  show U G 1 X 12 369 115 [(0, .ref h0)] [] (wp ++ [(h0, .inr (8, [.int 2, .int 0, .ref q1, .ref q2, .ref q3, .ref q4, .int 0, .int 4, .int 1, .int 0, .int 0, .ref q5, .int 0, .ref q6, .ref q7, .int 0, .ref q8, .int 0, .int 0, .int 0, .ref q9, .ref q10, .ref q11, .ref q12, .null, .int 0, .int 0, .int 0, .int 0, .int 0, .int 0, .int 0, .null, .int 0, .null, .null, .null])), oI G q1 8, oI G q2 8, oI G q3 8, oI G q4 8, oI G q5 16, oI G q6 61, oI G q7 61, oI G q8 8, oI G q9 8, oI G q10 61, oI G q11 61, oI G q12 61])
  refine U_aload_n hX dX9_init_115 0 rfl ?_
  refine U_sipush (v := 488) hX dX9_init_116 (by decide) ?_
  refine UP_newi (N := 488) hX hC ua_i (by decide) (by decide) (by decide) (by decide) (by decide) dX9_init_119 (fun q13 => ?_)
  show U G 1 X 13 857 121 [(0, .ref h0)] [.ref q13, .ref h0] (wp ++ [(h0, .inr (8, [.int 2, .int 0, .ref q1, .ref q2, .ref q3, .ref q4, .int 0, .int 4, .int 1, .int 0, .int 0, .ref q5, .int 0, .ref q6, .ref q7, .int 0, .ref q8, .int 0, .int 0, .int 0, .ref q9, .ref q10, .ref q11, .ref q12, .null, .int 0, .int 0, .int 0, .int 0, .int 0, .int 0, .int 0, .null, .int 0, .null, .null, .null])), oI G q1 8, oI G q2 8, oI G q3 8, oI G q4 8, oI G q5 16, oI G q6 61, oI G q7 61, oI G q8 8, oI G q9 8, oI G q10 61, oI G q11 61, oI G q12 61, oI G q13 488])
  refine UP_putF (v := .ref q13) (wl' := [(h0, .inr (8, [.int 2, .int 0, .ref q1, .ref q2, .ref q3, .ref q4, .int 0, .int 4, .int 1, .int 0, .int 0, .ref q5, .int 0, .ref q6, .ref q7, .int 0, .ref q8, .int 0, .int 0, .int 0, .ref q9, .ref q10, .ref q11, .ref q12, .ref q13, .int 0, .int 0, .int 0, .int 0, .int 0, .int 0, .int 0, .null, .int 0, .null, .null, .null])), oI G q1 8, oI G q2 8, oI G q3 8, oI G q4 8, oI G q5 16, oI G q6 61, oI G q7 61, oI G q8 8, oI G q9 8, oI G q10 61, oI G q11 61, oI G q12 61, oI G q13 488]) hX hI fX9_56 ff_8_24 0 rfl (Nat.le_of_ble_eq_true rfl) rfl rfl dX9_init_121 rfl ?_
  show U G 1 X 13 857 124 [(0, .ref h0)] [] (wp ++ [(h0, .inr (8, [.int 2, .int 0, .ref q1, .ref q2, .ref q3, .ref q4, .int 0, .int 4, .int 1, .int 0, .int 0, .ref q5, .int 0, .ref q6, .ref q7, .int 0, .ref q8, .int 0, .int 0, .int 0, .ref q9, .ref q10, .ref q11, .ref q12, .ref q13, .int 0, .int 0, .int 0, .int 0, .int 0, .int 0, .int 0, .null, .int 0, .null, .null, .null])), oI G q1 8, oI G q2 8, oI G q3 8, oI G q4 8, oI G q5 16, oI G q6 61, oI G q7 61, oI G q8 8, oI G q9 8, oI G q10 61, oI G q11 61, oI G q12 61, oI G q13 488])
  refine U_aload_n hX dX9_init_124 0 rfl ?_
  refine U_bipush (v := 61) hX dX9_init_125 (by decide) ?_
  refine UP_newi (N := 61) hX hC ua_i (by decide) (by decide) (by decide) (by decide) (by decide) dX9_init_127 (fun q14 => ?_)
  show U G 1 X 14 918 129 [(0, .ref h0)] [.ref q14, .ref h0] (wp ++ [(h0, .inr (8, [.int 2, .int 0, .ref q1, .ref q2, .ref q3, .ref q4, .int 0, .int 4, .int 1, .int 0, .int 0, .ref q5, .int 0, .ref q6, .ref q7, .int 0, .ref q8, .int 0, .int 0, .int 0, .ref q9, .ref q10, .ref q11, .ref q12, .ref q13, .int 0, .int 0, .int 0, .int 0, .int 0, .int 0, .int 0, .null, .int 0, .null, .null, .null])), oI G q1 8, oI G q2 8, oI G q3 8, oI G q4 8, oI G q5 16, oI G q6 61, oI G q7 61, oI G q8 8, oI G q9 8, oI G q10 61, oI G q11 61, oI G q12 61, oI G q13 488, oI G q14 61])
  refine UP_putF (v := .ref q14) (wl' := [(h0, .inr (8, [.int 2, .int 0, .ref q1, .ref q2, .ref q3, .ref q4, .int 0, .int 4, .int 1, .int 0, .int 0, .ref q5, .int 0, .ref q6, .ref q7, .int 0, .ref q8, .int 0, .int 0, .int 0, .ref q9, .ref q10, .ref q11, .ref q12, .ref q13, .int 0, .int 0, .int 0, .int 0, .int 0, .int 0, .int 0, .ref q14, .int 0, .null, .null, .null])), oI G q1 8, oI G q2 8, oI G q3 8, oI G q4 8, oI G q5 16, oI G q6 61, oI G q7 61, oI G q8 8, oI G q9 8, oI G q10 61, oI G q11 61, oI G q12 61, oI G q13 488, oI G q14 61]) hX hI fX9_59 ff_8_32 0 rfl (Nat.le_of_ble_eq_true rfl) rfl rfl dX9_init_129 rfl ?_
  show U G 1 X 14 918 132 [(0, .ref h0)] [] (wp ++ [(h0, .inr (8, [.int 2, .int 0, .ref q1, .ref q2, .ref q3, .ref q4, .int 0, .int 4, .int 1, .int 0, .int 0, .ref q5, .int 0, .ref q6, .ref q7, .int 0, .ref q8, .int 0, .int 0, .int 0, .ref q9, .ref q10, .ref q11, .ref q12, .ref q13, .int 0, .int 0, .int 0, .int 0, .int 0, .int 0, .int 0, .ref q14, .int 0, .null, .null, .null])), oI G q1 8, oI G q2 8, oI G q3 8, oI G q4 8, oI G q5 16, oI G q6 61, oI G q7 61, oI G q8 8, oI G q9 8, oI G q10 61, oI G q11 61, oI G q12 61, oI G q13 488, oI G q14 61])
  refine U_aload_n hX dX9_init_132 0 rfl ?_
  refine U_bipush (v := 8) hX dX9_init_133 (by decide) ?_
  refine UP_newi (N := 8) hX hC ua_i (by decide) (by decide) (by decide) (by decide) (by decide) dX9_init_135 (fun q15 => ?_)
  show U G 1 X 15 926 137 [(0, .ref h0)] [.ref q15, .ref h0] (wp ++ [(h0, .inr (8, [.int 2, .int 0, .ref q1, .ref q2, .ref q3, .ref q4, .int 0, .int 4, .int 1, .int 0, .int 0, .ref q5, .int 0, .ref q6, .ref q7, .int 0, .ref q8, .int 0, .int 0, .int 0, .ref q9, .ref q10, .ref q11, .ref q12, .ref q13, .int 0, .int 0, .int 0, .int 0, .int 0, .int 0, .int 0, .ref q14, .int 0, .null, .null, .null])), oI G q1 8, oI G q2 8, oI G q3 8, oI G q4 8, oI G q5 16, oI G q6 61, oI G q7 61, oI G q8 8, oI G q9 8, oI G q10 61, oI G q11 61, oI G q12 61, oI G q13 488, oI G q14 61, oI G q15 8])
  refine UP_putF (v := .ref q15) (wl' := [(h0, .inr (8, [.int 2, .int 0, .ref q1, .ref q2, .ref q3, .ref q4, .int 0, .int 4, .int 1, .int 0, .int 0, .ref q5, .int 0, .ref q6, .ref q7, .int 0, .ref q8, .int 0, .int 0, .int 0, .ref q9, .ref q10, .ref q11, .ref q12, .ref q13, .int 0, .int 0, .int 0, .int 0, .int 0, .int 0, .int 0, .ref q14, .int 0, .ref q15, .null, .null])), oI G q1 8, oI G q2 8, oI G q3 8, oI G q4 8, oI G q5 16, oI G q6 61, oI G q7 61, oI G q8 8, oI G q9 8, oI G q10 61, oI G q11 61, oI G q12 61, oI G q13 488, oI G q14 61, oI G q15 8]) hX hI fX9_62 ff_8_34 0 rfl (Nat.le_of_ble_eq_true rfl) rfl rfl dX9_init_137 rfl ?_
  show U G 1 X 15 926 140 [(0, .ref h0)] [] (wp ++ [(h0, .inr (8, [.int 2, .int 0, .ref q1, .ref q2, .ref q3, .ref q4, .int 0, .int 4, .int 1, .int 0, .int 0, .ref q5, .int 0, .ref q6, .ref q7, .int 0, .ref q8, .int 0, .int 0, .int 0, .ref q9, .ref q10, .ref q11, .ref q12, .ref q13, .int 0, .int 0, .int 0, .int 0, .int 0, .int 0, .int 0, .ref q14, .int 0, .ref q15, .null, .null])), oI G q1 8, oI G q2 8, oI G q3 8, oI G q4 8, oI G q5 16, oI G q6 61, oI G q7 61, oI G q8 8, oI G q9 8, oI G q10 61, oI G q11 61, oI G q12 61, oI G q13 488, oI G q14 61, oI G q15 8])
  refine U_aload_n hX dX9_init_140 0 rfl ?_
  refine U_sipush (v := 140) hX dX9_init_141 (by decide) ?_
  refine UP_newi (N := 140) hX hC ua_i (by decide) (by decide) (by decide) (by decide) (by decide) dX9_init_144 (fun q16 => ?_)
  show U G 1 X 16 1066 146 [(0, .ref h0)] [.ref q16, .ref h0] (wp ++ [(h0, .inr (8, [.int 2, .int 0, .ref q1, .ref q2, .ref q3, .ref q4, .int 0, .int 4, .int 1, .int 0, .int 0, .ref q5, .int 0, .ref q6, .ref q7, .int 0, .ref q8, .int 0, .int 0, .int 0, .ref q9, .ref q10, .ref q11, .ref q12, .ref q13, .int 0, .int 0, .int 0, .int 0, .int 0, .int 0, .int 0, .ref q14, .int 0, .ref q15, .null, .null])), oI G q1 8, oI G q2 8, oI G q3 8, oI G q4 8, oI G q5 16, oI G q6 61, oI G q7 61, oI G q8 8, oI G q9 8, oI G q10 61, oI G q11 61, oI G q12 61, oI G q13 488, oI G q14 61, oI G q15 8, oI G q16 140])
  refine UP_putF (v := .ref q16) (wl' := [(h0, .inr (8, [.int 2, .int 0, .ref q1, .ref q2, .ref q3, .ref q4, .int 0, .int 4, .int 1, .int 0, .int 0, .ref q5, .int 0, .ref q6, .ref q7, .int 0, .ref q8, .int 0, .int 0, .int 0, .ref q9, .ref q10, .ref q11, .ref q12, .ref q13, .int 0, .int 0, .int 0, .int 0, .int 0, .int 0, .int 0, .ref q14, .int 0, .ref q15, .ref q16, .null])), oI G q1 8, oI G q2 8, oI G q3 8, oI G q4 8, oI G q5 16, oI G q6 61, oI G q7 61, oI G q8 8, oI G q9 8, oI G q10 61, oI G q11 61, oI G q12 61, oI G q13 488, oI G q14 61, oI G q15 8, oI G q16 140]) hX hI fX9_65 ff_8_35 0 rfl (Nat.le_of_ble_eq_true rfl) rfl rfl dX9_init_146 rfl ?_
  show U G 1 X 16 1066 149 [(0, .ref h0)] [] (wp ++ [(h0, .inr (8, [.int 2, .int 0, .ref q1, .ref q2, .ref q3, .ref q4, .int 0, .int 4, .int 1, .int 0, .int 0, .ref q5, .int 0, .ref q6, .ref q7, .int 0, .ref q8, .int 0, .int 0, .int 0, .ref q9, .ref q10, .ref q11, .ref q12, .ref q13, .int 0, .int 0, .int 0, .int 0, .int 0, .int 0, .int 0, .ref q14, .int 0, .ref q15, .ref q16, .null])), oI G q1 8, oI G q2 8, oI G q3 8, oI G q4 8, oI G q5 16, oI G q6 61, oI G q7 61, oI G q8 8, oI G q9 8, oI G q10 61, oI G q11 61, oI G q12 61, oI G q13 488, oI G q14 61, oI G q15 8, oI G q16 140])
  refine U_aload_n hX dX9_init_149 0 rfl ?_
  refine U_iconst (v := 2) hX dX9_init_150 (by decide) ?_
  refine UP_newz (N := 2) hX hC ua_z (by decide) (by decide) (by decide) (by decide) (by decide) dX9_init_151 (fun q17 => ?_)
  show U G 1 X 17 1068 153 [(0, .ref h0)] [.ref q17, .ref h0] (wp ++ [(h0, .inr (8, [.int 2, .int 0, .ref q1, .ref q2, .ref q3, .ref q4, .int 0, .int 4, .int 1, .int 0, .int 0, .ref q5, .int 0, .ref q6, .ref q7, .int 0, .ref q8, .int 0, .int 0, .int 0, .ref q9, .ref q10, .ref q11, .ref q12, .ref q13, .int 0, .int 0, .int 0, .int 0, .int 0, .int 0, .int 0, .ref q14, .int 0, .ref q15, .ref q16, .null])), oI G q1 8, oI G q2 8, oI G q3 8, oI G q4 8, oI G q5 16, oI G q6 61, oI G q7 61, oI G q8 8, oI G q9 8, oI G q10 61, oI G q11 61, oI G q12 61, oI G q13 488, oI G q14 61, oI G q15 8, oI G q16 140, oZ G q17 2])
  refine UP_putF (v := .ref q17) (wl' := [(h0, .inr (8, [.int 2, .int 0, .ref q1, .ref q2, .ref q3, .ref q4, .int 0, .int 4, .int 1, .int 0, .int 0, .ref q5, .int 0, .ref q6, .ref q7, .int 0, .ref q8, .int 0, .int 0, .int 0, .ref q9, .ref q10, .ref q11, .ref q12, .ref q13, .int 0, .int 0, .int 0, .int 0, .int 0, .int 0, .int 0, .ref q14, .int 0, .ref q15, .ref q16, .ref q17])), oI G q1 8, oI G q2 8, oI G q3 8, oI G q4 8, oI G q5 16, oI G q6 61, oI G q7 61, oI G q8 8, oI G q9 8, oI G q10 61, oI G q11 61, oI G q12 61, oI G q13 488, oI G q14 61, oI G q15 8, oI G q16 140, oZ G q17 2]) hX hI fX9_68 ff_8_36 0 rfl (Nat.le_of_ble_eq_true rfl) rfl rfl dX9_init_153 rfl ?_
  show U G 1 X 17 1068 156 [(0, .ref h0)] [] (wp ++ [(h0, .inr (8, [.int 2, .int 0, .ref q1, .ref q2, .ref q3, .ref q4, .int 0, .int 4, .int 1, .int 0, .int 0, .ref q5, .int 0, .ref q6, .ref q7, .int 0, .ref q8, .int 0, .int 0, .int 0, .ref q9, .ref q10, .ref q11, .ref q12, .ref q13, .int 0, .int 0, .int 0, .int 0, .int 0, .int 0, .int 0, .ref q14, .int 0, .ref q15, .ref q16, .ref q17])), oI G q1 8, oI G q2 8, oI G q3 8, oI G q4 8, oI G q5 16, oI G q6 61, oI G q7 61, oI G q8 8, oI G q9 8, oI G q10 61, oI G q11 61, oI G q12 61, oI G q13 488, oI G q14 61, oI G q15 8, oI G q16 140, oZ G q17 2])
  refine U_aload_n hX dX9_init_156 0 rfl ?_
  refine U_iconst (v := 0) hX dX9_init_157 (by decide) ?_
  refine UP_put (v := .int 0) (wl' := [(h0, .inr (8, [.int 2, .int 0, .ref q1, .ref q2, .ref q3, .ref q4, .int 0, .int 4, .int 1, .int 0, .int 0, .ref q5, .int 0, .ref q6, .ref q7, .int 0, .ref q8, .int 0, .int 0, .int 0, .ref q9, .ref q10, .ref q11, .ref q12, .ref q13, .int 0, .int 0, .int 0, .int 0, .int 0, .int 0, .int 0, .ref q14, .int 0, .ref q15, .ref q16, .ref q17])), oI G q1 8, oI G q2 8, oI G q3 8, oI G q4 8, oI G q5 16, oI G q6 61, oI G q7 61, oI G q8 8, oI G q9 8, oI G q10 61, oI G q11 61, oI G q12 61, oI G q13 488, oI G q14 61, oI G q15 8, oI G q16 140, oZ G q17 2]) hX fX9_72 fw_8_1 0 rfl (Nat.le_of_ble_eq_true rfl) rfl rfl dX9_init_158 rfl ?_
  show U G 1 X 17 1068 161 [(0, .ref h0)] [] (wp ++ [(h0, .inr (8, [.int 2, .int 0, .ref q1, .ref q2, .ref q3, .ref q4, .int 0, .int 4, .int 1, .int 0, .int 0, .ref q5, .int 0, .ref q6, .ref q7, .int 0, .ref q8, .int 0, .int 0, .int 0, .ref q9, .ref q10, .ref q11, .ref q12, .ref q13, .int 0, .int 0, .int 0, .int 0, .int 0, .int 0, .int 0, .ref q14, .int 0, .ref q15, .ref q16, .ref q17])), oI G q1 8, oI G q2 8, oI G q3 8, oI G q4 8, oI G q5 16, oI G q6 61, oI G q7 61, oI G q8 8, oI G q9 8, oI G q10 61, oI G q11 61, oI G q12 61, oI G q13 488, oI G q14 61, oI G q15 8, oI G q16 140, oZ G q17 2])
  exact U_ret hX hC rfl (by decide) (by decide) dX9_init_161 (hR _ (hQ q1 q2 q3 q4 q5 q6 q7 q8 q9 q10 q11 q12 q13 q14 q15 q16 q17))
