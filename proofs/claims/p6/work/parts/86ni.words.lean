-- words of yhour
theorem q_1507 : (Jvm.Cond.fieldLink "SnowRecorderModel" (305 : Nat) "SnowRecorderModel" "hours1" "I") ∈ AW := AW_m7 67 (by decide +kernel) (by decide +kernel)
theorem q_1709 : (Jvm.Cond.methodLink "SnowRecorderModel" (308 : Nat) ({ cls := "SnowRecorderModel", name := "is", desc := "(I)Z" } : Jvm.MethodName)) ∈ AW := AW_m8 29 (by decide +kernel) (by decide +kernel)
theorem q_1711 : (Jvm.Cond.instanceMethod ({ cls := "SnowRecorderModel", name := "is", desc := "(I)Z" } : Jvm.MethodName)) ∈ AW := AW_m8 31 (by decide +kernel) (by decide +kernel)
theorem q_1712 : (Jvm.Cond.code ({ cls := "SnowRecorderModel", name := "is", desc := "(I)Z" } : Jvm.MethodName) prog_12_method_51_code (2 : Nat) (Option.some Jvm.ClassFile.FieldType.boolean)) ∈ AW := AW_m8 32 (by decide +kernel) (by decide +kernel)
theorem s_52 : Cond.selects "SnowRecorderModel" ({ cls := "SnowRecorderModel", name := "is", desc := "(I)Z" } : Jvm.MethodName) ({ cls := "SnowRecorderModel", name := "is", desc := "(I)Z" } : Jvm.MethodName) ∈ AW := AW_m 52 (by decide +kernel) (by decide +kernel)
theorem hd_yX10_is : yX10_is.cls ≠ "java/lang/invoke/MethodHandle" ∧ yX10_is.cls ≠ "java/lang/invoke/VarHandle" ∧ (parseMethodDescriptor yX10_is.desc).map (fun d => d.parameters.length) = some 1 := by decide +kernel
theorem mv_yX10_is : zWv yX10_is cX10_is 2 (some .boolean) := ⟨q_1711, s_52, q_15, q_1712⟩
