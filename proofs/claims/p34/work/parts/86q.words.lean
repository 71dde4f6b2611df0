-- words of yclause1
theorem q_1674 : (Jvm.Cond.methodLink "SnowRecorderModel" (311 : Nat) ({ cls := "SnowRecorderModel", name := "slope1", desc := "()V" } : Jvm.MethodName)) ∈ AW := AW_m 1793 (by decide +kernel) (by decide +kernel)
theorem q_1676 : (Jvm.Cond.instanceMethod ({ cls := "SnowRecorderModel", name := "slope1", desc := "()V" } : Jvm.MethodName)) ∈ AW := AW_m 1795 (by decide +kernel) (by decide +kernel)
theorem q_1677 : (Jvm.Cond.code ({ cls := "SnowRecorderModel", name := "slope1", desc := "()V" } : Jvm.MethodName) prog_12_method_54_code (1 : Nat) (Option.none : Option Jvm.ClassFile.FieldType)) ∈ AW := AW_m 1796 (by decide +kernel) (by decide +kernel)
theorem q_1689 : (Jvm.Cond.methodLink "SnowRecorderModel" (314 : Nat) ({ cls := "SnowRecorderModel", name := "layer1", desc := "()V" } : Jvm.MethodName)) ∈ AW := AW_m 1808 (by decide +kernel) (by decide +kernel)
theorem q_1691 : (Jvm.Cond.instanceMethod ({ cls := "SnowRecorderModel", name := "layer1", desc := "()V" } : Jvm.MethodName)) ∈ AW := AW_m 1810 (by decide +kernel) (by decide +kernel)
theorem q_1692 : (Jvm.Cond.code ({ cls := "SnowRecorderModel", name := "layer1", desc := "()V" } : Jvm.MethodName) prog_12_method_55_code (3 : Nat) (Option.none : Option Jvm.ClassFile.FieldType)) ∈ AW := AW_m 1811 (by decide +kernel) (by decide +kernel)
theorem q_1701 : (Jvm.Cond.methodLink "SnowRecorderModel" (316 : Nat) ({ cls := "SnowRecorderModel", name := "hour1", desc := "()V" } : Jvm.MethodName)) ∈ AW := AW_m 1820 (by decide +kernel) (by decide +kernel)
theorem q_1703 : (Jvm.Cond.instanceMethod ({ cls := "SnowRecorderModel", name := "hour1", desc := "()V" } : Jvm.MethodName)) ∈ AW := AW_m 1822 (by decide +kernel) (by decide +kernel)
theorem q_1704 : (Jvm.Cond.code ({ cls := "SnowRecorderModel", name := "hour1", desc := "()V" } : Jvm.MethodName) prog_12_method_56_code (3 : Nat) (Option.none : Option Jvm.ClassFile.FieldType)) ∈ AW := AW_m 1823 (by decide +kernel) (by decide +kernel)
theorem q_1709 : (Jvm.Cond.methodLink "SnowRecorderModel" (319 : Nat) ({ cls := "SnowRecorderModel", name := "table1", desc := "()V" } : Jvm.MethodName)) ∈ AW := AW_m 1828 (by decide +kernel) (by decide +kernel)
theorem q_1711 : (Jvm.Cond.instanceMethod ({ cls := "SnowRecorderModel", name := "table1", desc := "()V" } : Jvm.MethodName)) ∈ AW := AW_m 1830 (by decide +kernel) (by decide +kernel)
theorem q_1712 : (Jvm.Cond.code ({ cls := "SnowRecorderModel", name := "table1", desc := "()V" } : Jvm.MethodName) prog_12_method_57_code (3 : Nat) (Option.none : Option Jvm.ClassFile.FieldType)) ∈ AW := AW_m 1831 (by decide +kernel) (by decide +kernel)
theorem s_45 : Cond.selects "SnowRecorderModel" ({ cls := "SnowRecorderModel", name := "slope1", desc := "()V" } : Jvm.MethodName) ({ cls := "SnowRecorderModel", name := "slope1", desc := "()V" } : Jvm.MethodName) ∈ AW := AW_m 45 (by decide +kernel) (by decide +kernel)
theorem s_48 : Cond.selects "SnowRecorderModel" ({ cls := "SnowRecorderModel", name := "layer1", desc := "()V" } : Jvm.MethodName) ({ cls := "SnowRecorderModel", name := "layer1", desc := "()V" } : Jvm.MethodName) ∈ AW := AW_m 48 (by decide +kernel) (by decide +kernel)
theorem s_51 : Cond.selects "SnowRecorderModel" ({ cls := "SnowRecorderModel", name := "hour1", desc := "()V" } : Jvm.MethodName) ({ cls := "SnowRecorderModel", name := "hour1", desc := "()V" } : Jvm.MethodName) ∈ AW := AW_m 51 (by decide +kernel) (by decide +kernel)
theorem s_53 : Cond.selects "SnowRecorderModel" ({ cls := "SnowRecorderModel", name := "table1", desc := "()V" } : Jvm.MethodName) ({ cls := "SnowRecorderModel", name := "table1", desc := "()V" } : Jvm.MethodName) ∈ AW := AW_m 53 (by decide +kernel) (by decide +kernel)
theorem hd_yX10_table1 : yX10_table1.cls ≠ "java/lang/invoke/MethodHandle" ∧ yX10_table1.cls ≠ "java/lang/invoke/VarHandle" ∧ (parseMethodDescriptor yX10_table1.desc).map (fun d => d.parameters.length) = some 0 := by decide +kernel
theorem hd_yX10_hour1 : yX10_hour1.cls ≠ "java/lang/invoke/MethodHandle" ∧ yX10_hour1.cls ≠ "java/lang/invoke/VarHandle" ∧ (parseMethodDescriptor yX10_hour1.desc).map (fun d => d.parameters.length) = some 0 := by decide +kernel
theorem hd_yX10_layer1 : yX10_layer1.cls ≠ "java/lang/invoke/MethodHandle" ∧ yX10_layer1.cls ≠ "java/lang/invoke/VarHandle" ∧ (parseMethodDescriptor yX10_layer1.desc).map (fun d => d.parameters.length) = some 0 := by decide +kernel
theorem hd_yX10_slope1 : yX10_slope1.cls ≠ "java/lang/invoke/MethodHandle" ∧ yX10_slope1.cls ≠ "java/lang/invoke/VarHandle" ∧ (parseMethodDescriptor yX10_slope1.desc).map (fun d => d.parameters.length) = some 0 := by decide +kernel
theorem mv_yX10_table1 : zWv yX10_table1 cX10_table1 3 none := ⟨q_1711, s_53, q_15, q_1712⟩
theorem mv_yX10_hour1 : zWv yX10_hour1 cX10_hour1 3 none := ⟨q_1703, s_51, q_15, q_1704⟩
theorem mv_yX10_layer1 : zWv yX10_layer1 cX10_layer1 3 none := ⟨q_1691, s_48, q_15, q_1692⟩
theorem mv_yX10_slope1 : zWv yX10_slope1 cX10_slope1 1 none := ⟨q_1676, s_45, q_15, q_1677⟩
