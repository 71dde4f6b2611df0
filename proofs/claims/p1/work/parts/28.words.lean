-- words of count
theorem q_174 : (Jvm.Cond.fieldLink "SnowRecorder" (121 : Nat) "SnowRecorder$World" "time" "I") ∈ AW := AW_m 293 (by decide +kernel) (by decide +kernel)
theorem q_180 : (Jvm.Cond.fieldLink "SnowRecorder" (134 : Nat) "SnowRecorder$World" "taken" "I") ∈ AW := AW_m 299 (by decide +kernel) (by decide +kernel)
theorem q_182 : (Jvm.Cond.fieldLink "SnowRecorder" (137 : Nat) "SnowRecorder$World" "slid" "I") ∈ AW := AW_m 301 (by decide +kernel) (by decide +kernel)
theorem q_184 : (Jvm.Cond.fieldLink "SnowRecorder" (140 : Nat) "SnowRecorder$World" "slides" "I") ∈ AW := AW_m 303 (by decide +kernel) (by decide +kernel)
theorem q_878 : (Jvm.Cond.methodLink "SnowRecorder" (124 : Nat) ({ cls := "SnowRecorder$World", name := "layers", desc := "()I" } : Jvm.MethodName)) ∈ AW := AW_m 997 (by decide +kernel) (by decide +kernel)
theorem q_879 : (Jvm.Cond.instanceMethod ({ cls := "SnowRecorder$World", name := "layers", desc := "()I" } : Jvm.MethodName)) ∈ AW := AW_m 998 (by decide +kernel) (by decide +kernel)
theorem q_880 : (Jvm.Cond.selects "SnowRecorder$World" ({ cls := "SnowRecorder$World", name := "layers", desc := "()I" } : Jvm.MethodName) ({ cls := "SnowRecorder$World", name := "layers", desc := "()I" } : Jvm.MethodName)) ∈ AW := AW_m 999 (by decide +kernel) (by decide +kernel)
theorem q_881 : (Jvm.Cond.code ({ cls := "SnowRecorder$World", name := "layers", desc := "()I" } : Jvm.MethodName) prog_10_method_4_code (3 : Nat) (Option.some Jvm.ClassFile.FieldType.int)) ∈ AW := AW_m 1000 (by decide +kernel) (by decide +kernel)
theorem q_882 : (Jvm.Cond.methodLink "SnowRecorder" (131 : Nat) ({ cls := "SnowRecorder$World", name := "runoff", desc := "()I" } : Jvm.MethodName)) ∈ AW := AW_m 1001 (by decide +kernel) (by decide +kernel)
theorem q_883 : (Jvm.Cond.instanceMethod ({ cls := "SnowRecorder$World", name := "runoff", desc := "()I" } : Jvm.MethodName)) ∈ AW := AW_m 1002 (by decide +kernel) (by decide +kernel)
theorem q_884 : (Jvm.Cond.selects "SnowRecorder$World" ({ cls := "SnowRecorder$World", name := "runoff", desc := "()I" } : Jvm.MethodName) ({ cls := "SnowRecorder$World", name := "runoff", desc := "()I" } : Jvm.MethodName)) ∈ AW := AW_m 1003 (by decide +kernel) (by decide +kernel)
theorem q_885 : (Jvm.Cond.code ({ cls := "SnowRecorder$World", name := "runoff", desc := "()I" } : Jvm.MethodName) prog_10_method_5_code (3 : Nat) (Option.some Jvm.ClassFile.FieldType.int)) ∈ AW := AW_m 1004 (by decide +kernel) (by decide +kernel)
theorem q_886 : (Jvm.Cond.methodLink "SnowRecorder" (143 : Nat) ({ cls := "SnowRecorder$World", name := "sum", desc := "(I)I" } : Jvm.MethodName)) ∈ AW := AW_m 1005 (by decide +kernel) (by decide +kernel)
theorem q_887 : (Jvm.Cond.instanceMethod ({ cls := "SnowRecorder$World", name := "sum", desc := "(I)I" } : Jvm.MethodName)) ∈ AW := AW_m 1006 (by decide +kernel) (by decide +kernel)
theorem q_888 : (Jvm.Cond.selects "SnowRecorder$World" ({ cls := "SnowRecorder$World", name := "sum", desc := "(I)I" } : Jvm.MethodName) ({ cls := "SnowRecorder$World", name := "sum", desc := "(I)I" } : Jvm.MethodName)) ∈ AW := AW_m 1007 (by decide +kernel) (by decide +kernel)
theorem q_889 : (Jvm.Cond.code ({ cls := "SnowRecorder$World", name := "sum", desc := "(I)I" } : Jvm.MethodName) prog_10_method_6_code (4 : Nat) (Option.some Jvm.ClassFile.FieldType.int)) ∈ AW := AW_m 1008 (by decide +kernel) (by decide +kernel)
theorem q_894 : (Jvm.Cond.methodLink "SnowRecorder" (147 : Nat) ({ cls := "SnowRecorder", name := "worst", desc := "()I" } : Jvm.MethodName)) ∈ AW := AW_m 1013 (by decide +kernel) (by decide +kernel)
theorem q_896 : (Jvm.Cond.instanceMethod ({ cls := "SnowRecorder", name := "worst", desc := "()I" } : Jvm.MethodName)) ∈ AW := AW_m 1015 (by decide +kernel) (by decide +kernel)
theorem q_897 : (Jvm.Cond.code ({ cls := "SnowRecorder", name := "worst", desc := "()I" } : Jvm.MethodName) prog_1_method_44_code (5 : Nat) (Option.some Jvm.ClassFile.FieldType.int)) ∈ AW := AW_m 1016 (by decide +kernel) (by decide +kernel)
theorem s_22 : Cond.selects "SnowRecorder" ({ cls := "SnowRecorder", name := "worst", desc := "()I" } : Jvm.MethodName) ({ cls := "SnowRecorder", name := "worst", desc := "()I" } : Jvm.MethodName) ∈ AW := AW_m 22 (by decide +kernel) (by decide +kernel)
theorem hd_yX8_layers : yX8_layers.cls ≠ "java/lang/invoke/MethodHandle" ∧ yX8_layers.cls ≠ "java/lang/invoke/VarHandle" ∧ (parseMethodDescriptor yX8_layers.desc).map (fun d => d.parameters.length) = some 0 := by decide +kernel
theorem hd_yX8_runoff : yX8_runoff.cls ≠ "java/lang/invoke/MethodHandle" ∧ yX8_runoff.cls ≠ "java/lang/invoke/VarHandle" ∧ (parseMethodDescriptor yX8_runoff.desc).map (fun d => d.parameters.length) = some 0 := by decide +kernel
theorem hd_yX8_sum : yX8_sum.cls ≠ "java/lang/invoke/MethodHandle" ∧ yX8_sum.cls ≠ "java/lang/invoke/VarHandle" ∧ (parseMethodDescriptor yX8_sum.desc).map (fun d => d.parameters.length) = some 1 := by decide +kernel
theorem hd_yX9_worst : yX9_worst.cls ≠ "java/lang/invoke/MethodHandle" ∧ yX9_worst.cls ≠ "java/lang/invoke/VarHandle" ∧ (parseMethodDescriptor yX9_worst.desc).map (fun d => d.parameters.length) = some 0 := by decide +kernel
theorem mv_yX8_layers : zWv yX8_layers cX8_layers 3 (some .int) := ⟨q_879, q_880, q_5, q_881⟩
theorem mv_yX8_runoff : zWv yX8_runoff cX8_runoff 3 (some .int) := ⟨q_883, q_884, q_5, q_885⟩
theorem mv_yX8_sum : zWv yX8_sum cX8_sum 4 (some .int) := ⟨q_887, q_888, q_5, q_889⟩
theorem mv_yX9_worst : zWv yX9_worst cX9_worst 5 (some .int) := ⟨q_896, s_22, q_1, q_897⟩
