-- words of yclause1
theorem q_1678 : (Jvm.Cond.methodLink "SnowRecorderModel" (311 : Nat) ({ cls := "SnowRecorderModel", name := "slope1", desc := "()V" } : Jvm.MethodName)) ∈ AW := AW_m7 238 (by decide +kernel) (by decide +kernel)
theorem q_1680 : (Jvm.Cond.instanceMethod ({ cls := "SnowRecorderModel", name := "slope1", desc := "()V" } : Jvm.MethodName)) ∈ AW := AW_m8 0 (by decide +kernel) (by decide +kernel)
theorem q_1681 : (Jvm.Cond.code ({ cls := "SnowRecorderModel", name := "slope1", desc := "()V" } : Jvm.MethodName) prog_12_method_54_code (1 : Nat) (Option.none : Option Jvm.ClassFile.FieldType)) ∈ AW := AW_m8 1 (by decide +kernel) (by decide +kernel)
theorem q_1693 : (Jvm.Cond.methodLink "SnowRecorderModel" (314 : Nat) ({ cls := "SnowRecorderModel", name := "layer1", desc := "()V" } : Jvm.MethodName)) ∈ AW := AW_m8 13 (by decide +kernel) (by decide +kernel)
theorem q_1695 : (Jvm.Cond.instanceMethod ({ cls := "SnowRecorderModel", name := "layer1", desc := "()V" } : Jvm.MethodName)) ∈ AW := AW_m8 15 (by decide +kernel) (by decide +kernel)
theorem q_1696 : (Jvm.Cond.code ({ cls := "SnowRecorderModel", name := "layer1", desc := "()V" } : Jvm.MethodName) prog_12_method_55_code (3 : Nat) (Option.none : Option Jvm.ClassFile.FieldType)) ∈ AW := AW_m8 16 (by decide +kernel) (by decide +kernel)
theorem q_1705 : (Jvm.Cond.methodLink "SnowRecorderModel" (316 : Nat) ({ cls := "SnowRecorderModel", name := "hour1", desc := "()V" } : Jvm.MethodName)) ∈ AW := AW_m8 25 (by decide +kernel) (by decide +kernel)
theorem q_1707 : (Jvm.Cond.instanceMethod ({ cls := "SnowRecorderModel", name := "hour1", desc := "()V" } : Jvm.MethodName)) ∈ AW := AW_m8 27 (by decide +kernel) (by decide +kernel)
theorem q_1708 : (Jvm.Cond.code ({ cls := "SnowRecorderModel", name := "hour1", desc := "()V" } : Jvm.MethodName) prog_12_method_56_code (3 : Nat) (Option.none : Option Jvm.ClassFile.FieldType)) ∈ AW := AW_m8 28 (by decide +kernel) (by decide +kernel)
theorem q_1713 : (Jvm.Cond.methodLink "SnowRecorderModel" (319 : Nat) ({ cls := "SnowRecorderModel", name := "table1", desc := "()V" } : Jvm.MethodName)) ∈ AW := AW_m8 33 (by decide +kernel) (by decide +kernel)
theorem q_1715 : (Jvm.Cond.instanceMethod ({ cls := "SnowRecorderModel", name := "table1", desc := "()V" } : Jvm.MethodName)) ∈ AW := AW_m8 35 (by decide +kernel) (by decide +kernel)
theorem q_1716 : (Jvm.Cond.code ({ cls := "SnowRecorderModel", name := "table1", desc := "()V" } : Jvm.MethodName) prog_12_method_57_code (3 : Nat) (Option.none : Option Jvm.ClassFile.FieldType)) ∈ AW := AW_m8 36 (by decide +kernel) (by decide +kernel)
theorem s_45 : Cond.selects "SnowRecorderModel" ({ cls := "SnowRecorderModel", name := "slope1", desc := "()V" } : Jvm.MethodName) ({ cls := "SnowRecorderModel", name := "slope1", desc := "()V" } : Jvm.MethodName) ∈ AW := AW_m 45 (by decide +kernel) (by decide +kernel)
theorem s_48 : Cond.selects "SnowRecorderModel" ({ cls := "SnowRecorderModel", name := "layer1", desc := "()V" } : Jvm.MethodName) ({ cls := "SnowRecorderModel", name := "layer1", desc := "()V" } : Jvm.MethodName) ∈ AW := AW_m 48 (by decide +kernel) (by decide +kernel)
theorem s_51 : Cond.selects "SnowRecorderModel" ({ cls := "SnowRecorderModel", name := "hour1", desc := "()V" } : Jvm.MethodName) ({ cls := "SnowRecorderModel", name := "hour1", desc := "()V" } : Jvm.MethodName) ∈ AW := AW_m 51 (by decide +kernel) (by decide +kernel)
theorem s_53 : Cond.selects "SnowRecorderModel" ({ cls := "SnowRecorderModel", name := "table1", desc := "()V" } : Jvm.MethodName) ({ cls := "SnowRecorderModel", name := "table1", desc := "()V" } : Jvm.MethodName) ∈ AW := AW_m 53 (by decide +kernel) (by decide +kernel)
theorem hd_yX10_table1 : yX10_table1.cls ≠ "java/lang/invoke/MethodHandle" ∧ yX10_table1.cls ≠ "java/lang/invoke/VarHandle" ∧ (parseMethodDescriptor yX10_table1.desc).map (fun d => d.parameters.length) = some 0 := by decide +kernel
theorem hd_yX10_hour1 : yX10_hour1.cls ≠ "java/lang/invoke/MethodHandle" ∧ yX10_hour1.cls ≠ "java/lang/invoke/VarHandle" ∧ (parseMethodDescriptor yX10_hour1.desc).map (fun d => d.parameters.length) = some 0 := by decide +kernel
theorem hd_yX10_layer1 : yX10_layer1.cls ≠ "java/lang/invoke/MethodHandle" ∧ yX10_layer1.cls ≠ "java/lang/invoke/VarHandle" ∧ (parseMethodDescriptor yX10_layer1.desc).map (fun d => d.parameters.length) = some 0 := by decide +kernel
theorem hd_yX10_slope1 : yX10_slope1.cls ≠ "java/lang/invoke/MethodHandle" ∧ yX10_slope1.cls ≠ "java/lang/invoke/VarHandle" ∧ (parseMethodDescriptor yX10_slope1.desc).map (fun d => d.parameters.length) = some 0 := by decide +kernel
theorem mv_yX10_table1 : zWv yX10_table1 cX10_table1 3 none := ⟨q_1715, s_53, q_15, q_1716⟩
theorem mv_yX10_hour1 : zWv yX10_hour1 cX10_hour1 3 none := ⟨q_1707, s_51, q_15, q_1708⟩
theorem mv_yX10_layer1 : zWv yX10_layer1 cX10_layer1 3 none := ⟨q_1695, s_48, q_15, q_1696⟩
theorem mv_yX10_slope1 : zWv yX10_slope1 cX10_slope1 1 none := ⟨q_1680, s_45, q_15, q_1681⟩
