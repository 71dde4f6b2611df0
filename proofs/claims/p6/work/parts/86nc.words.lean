-- words of yslope
theorem q_1506 : (Jvm.Cond.fieldLink "SnowRecorderModel" (288 : Nat) "SnowRecorderModel" "slopes1" "I") ∈ AW := AW_m7 66 (by decide +kernel) (by decide +kernel)
theorem q_1686 : (Jvm.Cond.methodLink "SnowRecorderModel" (291 : Nat) ({ cls := "SnowRecorderModel", name := "number", desc := "(II)I" } : Jvm.MethodName)) ∈ AW := AW_m8 6 (by decide +kernel) (by decide +kernel)
theorem q_1688 : (Jvm.Cond.instanceMethod ({ cls := "SnowRecorderModel", name := "number", desc := "(II)I" } : Jvm.MethodName)) ∈ AW := AW_m8 8 (by decide +kernel) (by decide +kernel)
theorem q_1689 : (Jvm.Cond.code ({ cls := "SnowRecorderModel", name := "number", desc := "(II)I" } : Jvm.MethodName) prog_12_method_50_code (4 : Nat) (Option.some Jvm.ClassFile.FieldType.int)) ∈ AW := AW_m8 9 (by decide +kernel) (by decide +kernel)
theorem s_47 : Cond.selects "SnowRecorderModel" ({ cls := "SnowRecorderModel", name := "number", desc := "(II)I" } : Jvm.MethodName) ({ cls := "SnowRecorderModel", name := "number", desc := "(II)I" } : Jvm.MethodName) ∈ AW := AW_m 47 (by decide +kernel) (by decide +kernel)
theorem hd_yX10_number : yX10_number.cls ≠ "java/lang/invoke/MethodHandle" ∧ yX10_number.cls ≠ "java/lang/invoke/VarHandle" ∧ (parseMethodDescriptor yX10_number.desc).map (fun d => d.parameters.length) = some 2 := by decide +kernel
theorem mv_yX10_number : zWv yX10_number cX10_number 4 (some .int) := ⟨q_1688, s_47, q_15, q_1689⟩
