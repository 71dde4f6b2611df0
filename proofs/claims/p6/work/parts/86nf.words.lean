-- words of ylayer
theorem q_1508 : (Jvm.Cond.fieldLink "SnowRecorderModel" (302 : Nat) "SnowRecorderModel" "names1" "I") ∈ AW := AW_m7 68 (by decide +kernel) (by decide +kernel)
theorem q_1697 : (Jvm.Cond.methodLink "SnowRecorderModel" (294 : Nat) ({ cls := "SnowRecorderModel", name := "isKind", desc := "()Z" } : Jvm.MethodName)) ∈ AW := AW_m8 17 (by decide +kernel) (by decide +kernel)
theorem q_1699 : (Jvm.Cond.instanceMethod ({ cls := "SnowRecorderModel", name := "isKind", desc := "()Z" } : Jvm.MethodName)) ∈ AW := AW_m8 19 (by decide +kernel) (by decide +kernel)
theorem q_1700 : (Jvm.Cond.code ({ cls := "SnowRecorderModel", name := "isKind", desc := "()Z" } : Jvm.MethodName) prog_12_method_52_code (1 : Nat) (Option.some Jvm.ClassFile.FieldType.boolean)) ∈ AW := AW_m8 20 (by decide +kernel) (by decide +kernel)
theorem q_1701 : (Jvm.Cond.methodLink "SnowRecorderModel" (298 : Nat) ({ cls := "SnowRecorderModel", name := "kindHere", desc := "()I" } : Jvm.MethodName)) ∈ AW := AW_m8 21 (by decide +kernel) (by decide +kernel)
theorem q_1703 : (Jvm.Cond.instanceMethod ({ cls := "SnowRecorderModel", name := "kindHere", desc := "()I" } : Jvm.MethodName)) ∈ AW := AW_m8 23 (by decide +kernel) (by decide +kernel)
theorem q_1704 : (Jvm.Cond.code ({ cls := "SnowRecorderModel", name := "kindHere", desc := "()I" } : Jvm.MethodName) prog_12_method_53_code (1 : Nat) (Option.some Jvm.ClassFile.FieldType.int)) ∈ AW := AW_m8 24 (by decide +kernel) (by decide +kernel)
theorem s_49 : Cond.selects "SnowRecorderModel" ({ cls := "SnowRecorderModel", name := "isKind", desc := "()Z" } : Jvm.MethodName) ({ cls := "SnowRecorderModel", name := "isKind", desc := "()Z" } : Jvm.MethodName) ∈ AW := AW_m 49 (by decide +kernel) (by decide +kernel)
theorem s_50 : Cond.selects "SnowRecorderModel" ({ cls := "SnowRecorderModel", name := "kindHere", desc := "()I" } : Jvm.MethodName) ({ cls := "SnowRecorderModel", name := "kindHere", desc := "()I" } : Jvm.MethodName) ∈ AW := AW_m 50 (by decide +kernel) (by decide +kernel)
theorem hd_yX10_isKind : yX10_isKind.cls ≠ "java/lang/invoke/MethodHandle" ∧ yX10_isKind.cls ≠ "java/lang/invoke/VarHandle" ∧ (parseMethodDescriptor yX10_isKind.desc).map (fun d => d.parameters.length) = some 0 := by decide +kernel
theorem hd_yX10_kindHere : yX10_kindHere.cls ≠ "java/lang/invoke/MethodHandle" ∧ yX10_kindHere.cls ≠ "java/lang/invoke/VarHandle" ∧ (parseMethodDescriptor yX10_kindHere.desc).map (fun d => d.parameters.length) = some 0 := by decide +kernel
theorem mv_yX10_isKind : zWv yX10_isKind cX10_isKind 1 (some .boolean) := ⟨q_1699, s_49, q_15, q_1700⟩
theorem mv_yX10_kindHere : zWv yX10_kindHere cX10_kindHere 1 (some .int) := ⟨q_1703, s_50, q_15, q_1704⟩
