-- words of refsay
theorem q_1510 : (Jvm.Cond.fieldLink "SnowRecorderModel" (373 : Nat) "SnowRecorderModel" "lined" "I") ∈ AW := AW_m7 70 (by decide +kernel) (by decide +kernel)
theorem q_1854 : (Jvm.Cond.methodLink "SnowRecorderModel" (376 : Nat) ({ cls := "SnowRecorderModel", name := "says", desc := "(I)V" } : Jvm.MethodName)) ∈ AW := AW_m8 174 (by decide +kernel) (by decide +kernel)
theorem q_1856 : (Jvm.Cond.instanceMethod ({ cls := "SnowRecorderModel", name := "says", desc := "(I)V" } : Jvm.MethodName)) ∈ AW := AW_m8 176 (by decide +kernel) (by decide +kernel)
theorem q_1857 : (Jvm.Cond.code ({ cls := "SnowRecorderModel", name := "says", desc := "(I)V" } : Jvm.MethodName) prog_12_method_73_code (2 : Nat) (Option.none : Option Jvm.ClassFile.FieldType)) ∈ AW := AW_m8 177 (by decide +kernel) (by decide +kernel)
theorem s_80 : Cond.selects "SnowRecorderModel" ({ cls := "SnowRecorderModel", name := "says", desc := "(I)V" } : Jvm.MethodName) ({ cls := "SnowRecorderModel", name := "says", desc := "(I)V" } : Jvm.MethodName) ∈ AW := AW_m 80 (by decide +kernel) (by decide +kernel)
theorem hd_yX10_says : yX10_says.cls ≠ "java/lang/invoke/MethodHandle" ∧ yX10_says.cls ≠ "java/lang/invoke/VarHandle" ∧ (parseMethodDescriptor yX10_says.desc).map (fun d => d.parameters.length) = some 1 := by decide +kernel
theorem mv_yX10_says : zWv yX10_says cX10_says 2 none := ⟨q_1856, s_80, q_15, q_1857⟩
