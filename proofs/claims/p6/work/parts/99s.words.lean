-- words of refsnow
theorem q_1674 : (Jvm.Cond.methodLink "SnowRecorderModel" (327 : Nat) ({ cls := "SnowRecorderModel", name := "clause1", desc := "()V" } : Jvm.MethodName)) ∈ AW := AW_m7 234 (by decide +kernel) (by decide +kernel)
theorem q_1676 : (Jvm.Cond.instanceMethod ({ cls := "SnowRecorderModel", name := "clause1", desc := "()V" } : Jvm.MethodName)) ∈ AW := AW_m7 236 (by decide +kernel) (by decide +kernel)
theorem q_1677 : (Jvm.Cond.code ({ cls := "SnowRecorderModel", name := "clause1", desc := "()V" } : Jvm.MethodName) prog_12_method_58_code (2 : Nat) (Option.none : Option Jvm.ClassFile.FieldType)) ∈ AW := AW_m7 237 (by decide +kernel) (by decide +kernel)
theorem q_1717 : (Jvm.Cond.methodLink "SnowRecorderModel" (330 : Nat) ({ cls := "SnowRecorderModel", name := "becomes", desc := "()V" } : Jvm.MethodName)) ∈ AW := AW_m8 37 (by decide +kernel) (by decide +kernel)
theorem q_1719 : (Jvm.Cond.instanceMethod ({ cls := "SnowRecorderModel", name := "becomes", desc := "()V" } : Jvm.MethodName)) ∈ AW := AW_m8 39 (by decide +kernel) (by decide +kernel)
theorem q_1720 : (Jvm.Cond.code ({ cls := "SnowRecorderModel", name := "becomes", desc := "()V" } : Jvm.MethodName) prog_12_method_61_code (3 : Nat) (Option.none : Option Jvm.ClassFile.FieldType)) ∈ AW := AW_m8 40 (by decide +kernel) (by decide +kernel)
theorem s_44 : Cond.selects "SnowRecorderModel" ({ cls := "SnowRecorderModel", name := "clause1", desc := "()V" } : Jvm.MethodName) ({ cls := "SnowRecorderModel", name := "clause1", desc := "()V" } : Jvm.MethodName) ∈ AW := AW_m 44 (by decide +kernel) (by decide +kernel)
theorem s_54 : Cond.selects "SnowRecorderModel" ({ cls := "SnowRecorderModel", name := "becomes", desc := "()V" } : Jvm.MethodName) ({ cls := "SnowRecorderModel", name := "becomes", desc := "()V" } : Jvm.MethodName) ∈ AW := AW_m 54 (by decide +kernel) (by decide +kernel)
theorem hd_yX10_becomes : yX10_becomes.cls ≠ "java/lang/invoke/MethodHandle" ∧ yX10_becomes.cls ≠ "java/lang/invoke/VarHandle" ∧ (parseMethodDescriptor yX10_becomes.desc).map (fun d => d.parameters.length) = some 0 := by decide +kernel
theorem hd_yX10_clause1 : yX10_clause1.cls ≠ "java/lang/invoke/MethodHandle" ∧ yX10_clause1.cls ≠ "java/lang/invoke/VarHandle" ∧ (parseMethodDescriptor yX10_clause1.desc).map (fun d => d.parameters.length) = some 0 := by decide +kernel
theorem mv_yX10_becomes : zWv yX10_becomes cX10_becomes 3 none := ⟨q_1719, s_54, q_15, q_1720⟩
theorem mv_yX10_clause1 : zWv yX10_clause1 cX10_clause1 2 none := ⟨q_1676, s_44, q_15, q_1677⟩
