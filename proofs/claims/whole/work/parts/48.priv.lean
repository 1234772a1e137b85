theorem pq_link : Jvm.Cond.methodLink "NodTax$Orders" (47 : Nat) ({ cls := "NodTax$Orders", name := "goOn", desc := "(LNodTax$Parish;[LNodTax$Walk;I)V" } : Jvm.MethodName) ∈ lw_tbl := List.mem_of_getElem? (i := 550) (by decide +kernel)
theorem pq_same : Jvm.Cond.sameMethod "NodTax$Orders" "NodTax$Orders" "goOn" "(LNodTax$Parish;[LNodTax$Walk;I)V" ∈ lw_tbl := List.mem_of_getElem? (i := 1117) (by decide +kernel)
theorem pq_inst : Jvm.Cond.instanceMethod ({ cls := "NodTax$Orders", name := "goOn", desc := "(LNodTax$Parish;[LNodTax$Walk;I)V" } : Jvm.MethodName) ∈ lw_tbl := List.mem_of_getElem? (i := 552) (by decide +kernel)
theorem pq_code : Jvm.Cond.code ({ cls := "NodTax$Orders", name := "goOn", desc := "(LNodTax$Parish;[LNodTax$Walk;I)V" } : Jvm.MethodName) prog_4_method_5_code (6 : Nat) (Option.none : Option Jvm.ClassFile.FieldType) ∈ lw_tbl := List.mem_of_getElem? (i := 553) (by decide +kernel)
theorem sel_priv {C : String} {x y z : MethodName} {s : State} {args : Array Value} (hy : y.cls ≠ "java/lang/invoke/MethodHandle" ∧ y.cls ≠ "java/lang/invoke/VarHandle") (hz : (Cond.selects C x z).before args s = true) (hcls : z.cls = y.cls) (hpriv : (Cond.privateMethod y).before args s = true) (hinst : (Cond.instanceMethod y).before args s = true) : (Cond.selects C y y).before args s = true := by
  obtain ⟨c, r2, m2, hc, -, q3, -, kP, hkP, hkPi⟩ := Cond.selects_spec hz
  obtain ⟨mk, methM, hnamed, hmethM, -, -⟩ := Cond.instanceMethod_spec hinst
  have hfound : s.methodFound? y.cls y.name y.desc = some mk := State.methodFound?_of_named hnamed hy
  have h1 := findClass_of_methodNamed hnamed
  have h2 := findClass_of_methodNamed q3
  rw [hcls, h1] at h2
  have hk : mk.cls = m2.cls := Option.some.inj h2
  have hsel : selectMethod {} s.vm c mk = .method mk := selectMethod_private hmethM (Cond.privateMethod_at hpriv mk methM hnamed hmethM)
  simp only [Cond.before, Cond.holds, Cond.value, hc, hfound, hnamed, hsel, hk, hkP]
  simp
  exact hkPi
theorem pq_more {w : Cond} (h : w ∈ lw_more) : w ∈ lw_tbl := List.mem_append_right _ (List.mem_append_right _ h)
theorem mX2_47_0 : vMU RX2 47 0 RX0 RX2 yX2_goOn yX2_goOn cX2_goOn 6 none 3 := ⟨pq_link, pq_same, pq_more List.mem_cons_self, pq_inst, mq_48, pq_code, ⟨by decide +kernel, by decide +kernel, by decide +kernel⟩, by decide +kernel, by decide, by decide, rfl, Or.inl rfl⟩
theorem mX2_47_1 : vMU RX2 47 1 RX1 RX2 yX2_goOn yX2_goOn cX2_goOn 6 none 3 := ⟨pq_link, pq_same, pq_more (List.mem_cons_of_mem _ List.mem_cons_self), pq_inst, mq_48, pq_code, ⟨by decide +kernel, by decide +kernel, by decide +kernel⟩, by decide +kernel, by decide, by decide, rfl, Or.inl rfl⟩
