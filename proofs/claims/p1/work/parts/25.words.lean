-- words of feed
theorem q_156 : (Jvm.Cond.fieldLink "SnowRecorder$World" (44 : Nat) "SnowRecorder$Pack" "size" "I") ∈ AW := AW_m 275 (by decide +kernel) (by decide +kernel)
theorem q_160 : (Jvm.Cond.fieldLink "SnowRecorder$World" (47 : Nat) "SnowRecorder$Pack" "runoff" "I") ∈ AW := AW_m 279 (by decide +kernel) (by decide +kernel)
theorem q_396 : (Jvm.Cond.methodLink "SnowRecorder" (82 : Nat) ({ cls := "SnowRecorder", name := "putBytes", desc := "(I)V" } : Jvm.MethodName)) ∈ AW := AW_m 515 (by decide +kernel) (by decide +kernel)
theorem q_398 : (Jvm.Cond.instanceMethod ({ cls := "SnowRecorder", name := "putBytes", desc := "(I)V" } : Jvm.MethodName)) ∈ AW := AW_m 517 (by decide +kernel) (by decide +kernel)
theorem q_399 : (Jvm.Cond.code ({ cls := "SnowRecorder", name := "putBytes", desc := "(I)V" } : Jvm.MethodName) prog_1_method_35_code (3 : Nat) (Option.none : Option Jvm.ClassFile.FieldType)) ∈ AW := AW_m 518 (by decide +kernel) (by decide +kernel)
theorem q_890 : (Jvm.Cond.methodLink "SnowRecorder$World" (50 : Nat) ({ cls := "SnowRecorder$Pack", name := "sum", desc := "(I)I" } : Jvm.MethodName)) ∈ AW := AW_m 1009 (by decide +kernel) (by decide +kernel)
theorem q_891 : (Jvm.Cond.instanceMethod ({ cls := "SnowRecorder$Pack", name := "sum", desc := "(I)I" } : Jvm.MethodName)) ∈ AW := AW_m 1010 (by decide +kernel) (by decide +kernel)
theorem q_892 : (Jvm.Cond.selects "SnowRecorder$Pack" ({ cls := "SnowRecorder$Pack", name := "sum", desc := "(I)I" } : Jvm.MethodName) ({ cls := "SnowRecorder$Pack", name := "sum", desc := "(I)I" } : Jvm.MethodName)) ∈ AW := AW_m 1011 (by decide +kernel) (by decide +kernel)
theorem q_893 : (Jvm.Cond.code ({ cls := "SnowRecorder$Pack", name := "sum", desc := "(I)I" } : Jvm.MethodName) prog_5_method_4_code (4 : Nat) (Option.some Jvm.ClassFile.FieldType.int)) ∈ AW := AW_m 1012 (by decide +kernel) (by decide +kernel)
theorem s_0 : Cond.selects "SnowRecorder" ({ cls := "SnowRecorder", name := "putBytes", desc := "(I)V" } : Jvm.MethodName) ({ cls := "SnowRecorder", name := "putBytes", desc := "(I)V" } : Jvm.MethodName) ∈ AW := AW_m 0 (by decide +kernel) (by decide +kernel)
theorem hd_yX9_putBytes : yX9_putBytes.cls ≠ "java/lang/invoke/MethodHandle" ∧ yX9_putBytes.cls ≠ "java/lang/invoke/VarHandle" ∧ (parseMethodDescriptor yX9_putBytes.desc).map (fun d => d.parameters.length) = some 1 := by decide +kernel
theorem hd_yX3_sum : yX3_sum.cls ≠ "java/lang/invoke/MethodHandle" ∧ yX3_sum.cls ≠ "java/lang/invoke/VarHandle" ∧ (parseMethodDescriptor yX3_sum.desc).map (fun d => d.parameters.length) = some 1 := by decide +kernel
theorem mv_yX9_putBytes : zWv yX9_putBytes cX9_putBytes 3 none := ⟨q_398, s_0, q_1, q_399⟩
theorem mv_yX3_sum : zWv yX3_sum cX3_sum 4 (some .int) := ⟨q_891, q_892, q_6, q_893⟩
