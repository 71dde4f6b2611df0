-- words of throws
theorem q_1 : (Jvm.Cond.initialized "SnowRecorder") ∈ AW := AW_m 120 (by decide +kernel) (by decide +kernel)
theorem q_1316 : (Jvm.Cond.methodLink "SnowRecorder" (338 : Nat) ({ cls := "SnowRecorder", name := "needPit", desc := "(I)V" } : Jvm.MethodName)) ∈ AW := AW_m 1435 (by decide +kernel) (by decide +kernel)
theorem q_1318 : (Jvm.Cond.instanceMethod ({ cls := "SnowRecorder", name := "needPit", desc := "(I)V" } : Jvm.MethodName)) ∈ AW := AW_m 1437 (by decide +kernel) (by decide +kernel)
theorem q_1319 : (Jvm.Cond.code ({ cls := "SnowRecorder", name := "needPit", desc := "(I)V" } : Jvm.MethodName) prog_1_method_41_code (2 : Nat) (Option.none : Option Jvm.ClassFile.FieldType)) ∈ AW := AW_m 1438 (by decide +kernel) (by decide +kernel)
theorem q_177 : (Jvm.Cond.fieldLink "SnowRecorder" (128 : Nat) "SnowRecorder$World" "names" "I") ∈ AW := AW_m 296 (by decide +kernel) (by decide +kernel)
theorem q_186 : (Jvm.Cond.fieldLink "SnowRecorder" (150 : Nat) "SnowRecorder$World" "pits" "I") ∈ AW := AW_m 305 (by decide +kernel) (by decide +kernel)
theorem q_24 : (Jvm.Cond.initialized "java/util/NoSuchElementException") ∈ AW := AW_m 143 (by decide +kernel) (by decide +kernel)
theorem q_258 : (Jvm.Cond.fieldLink "SnowRecorder" (112 : Nat) "SnowRecorder$State" "now" "LSnowRecorder$World;") ∈ AW := AW_m 377 (by decide +kernel) (by decide +kernel)
theorem q_537 : (Jvm.Cond.methodLink "SnowRecorder" (268 : Nat) ({ cls := "SnowRecorder", name := "isSlope", desc := "(I)Z" } : Jvm.MethodName)) ∈ AW := AW_m 656 (by decide +kernel) (by decide +kernel)
theorem q_539 : (Jvm.Cond.instanceMethod ({ cls := "SnowRecorder", name := "isSlope", desc := "(I)Z" } : Jvm.MethodName)) ∈ AW := AW_m 658 (by decide +kernel) (by decide +kernel)
theorem q_540 : (Jvm.Cond.code ({ cls := "SnowRecorder", name := "isSlope", desc := "(I)Z" } : Jvm.MethodName) prog_1_method_37_code (2 : Nat) (Option.some Jvm.ClassFile.FieldType.boolean)) ∈ AW := AW_m 659 (by decide +kernel) (by decide +kernel)
theorem q_90 : (Jvm.Cond.fieldLink "SnowRecorder" (115 : Nat) "SnowRecorder$Plan" "slopes" "I") ∈ AW := AW_m 209 (by decide +kernel) (by decide +kernel)
theorem q_904 : (Jvm.Cond.classLink "SnowRecorder" (165 : Nat) "java/util/NoSuchElementException") ∈ AW := AW_m 1023 (by decide +kernel) (by decide +kernel)
theorem q_93 : (Jvm.Cond.fieldLink "SnowRecorder" (118 : Nat) "SnowRecorder$Plan" "hours" "I") ∈ AW := AW_m 212 (by decide +kernel) (by decide +kernel)
theorem q_936 : (Jvm.Cond.methodLink "SnowRecorder" (183 : Nat) ({ cls := "SnowRecorder", name := "packOf", desc := "(I)LSnowRecorder$Pack;" } : Jvm.MethodName)) ∈ AW := AW_m 1055 (by decide +kernel) (by decide +kernel)
theorem q_938 : (Jvm.Cond.instanceMethod ({ cls := "SnowRecorder", name := "packOf", desc := "(I)LSnowRecorder$Pack;" } : Jvm.MethodName)) ∈ AW := AW_m 1057 (by decide +kernel) (by decide +kernel)
theorem q_939 : (Jvm.Cond.code ({ cls := "SnowRecorder", name := "packOf", desc := "(I)LSnowRecorder$Pack;" } : Jvm.MethodName) prog_1_method_39_code (2 : Nat) (Option.some (Jvm.ClassFile.FieldType.object "SnowRecorder$Pack"))) ∈ AW := AW_m 1058 (by decide +kernel) (by decide +kernel)
theorem q_940 : (Jvm.Cond.methodLink "SnowRecorder" (300 : Nat) ({ cls := "SnowRecorder", name := "needSlope", desc := "(I)V" } : Jvm.MethodName)) ∈ AW := AW_m 1059 (by decide +kernel) (by decide +kernel)
theorem q_942 : (Jvm.Cond.instanceMethod ({ cls := "SnowRecorder", name := "needSlope", desc := "(I)V" } : Jvm.MethodName)) ∈ AW := AW_m 1061 (by decide +kernel) (by decide +kernel)
theorem q_943 : (Jvm.Cond.code ({ cls := "SnowRecorder", name := "needSlope", desc := "(I)V" } : Jvm.MethodName) prog_1_method_38_code (2 : Nat) (Option.none : Option Jvm.ClassFile.FieldType)) ∈ AW := AW_m 1062 (by decide +kernel) (by decide +kernel)
theorem s_23 : Cond.selects "SnowRecorder" ({ cls := "SnowRecorder", name := "packOf", desc := "(I)LSnowRecorder$Pack;" } : Jvm.MethodName) ({ cls := "SnowRecorder", name := "packOf", desc := "(I)LSnowRecorder$Pack;" } : Jvm.MethodName) ∈ AW := AW_m 23 (by decide +kernel) (by decide +kernel)
theorem s_24 : Cond.selects "SnowRecorder" ({ cls := "SnowRecorder", name := "needSlope", desc := "(I)V" } : Jvm.MethodName) ({ cls := "SnowRecorder", name := "needSlope", desc := "(I)V" } : Jvm.MethodName) ∈ AW := AW_m 24 (by decide +kernel) (by decide +kernel)
theorem s_29 : Cond.selects "SnowRecorder" ({ cls := "SnowRecorder", name := "needPit", desc := "(I)V" } : Jvm.MethodName) ({ cls := "SnowRecorder", name := "needPit", desc := "(I)V" } : Jvm.MethodName) ∈ AW := AW_m 29 (by decide +kernel) (by decide +kernel)
theorem s_5 : Cond.selects "SnowRecorder" ({ cls := "SnowRecorder", name := "isSlope", desc := "(I)Z" } : Jvm.MethodName) ({ cls := "SnowRecorder", name := "isSlope", desc := "(I)Z" } : Jvm.MethodName) ∈ AW := AW_m 5 (by decide +kernel) (by decide +kernel)
theorem hd_yX9_isSlope : yX9_isSlope.cls ≠ "java/lang/invoke/MethodHandle" ∧ yX9_isSlope.cls ≠ "java/lang/invoke/VarHandle" ∧ (parseMethodDescriptor yX9_isSlope.desc).map (fun d => d.parameters.length) = some 1 := by decide +kernel
theorem hd_yX9_needSlope : yX9_needSlope.cls ≠ "java/lang/invoke/MethodHandle" ∧ yX9_needSlope.cls ≠ "java/lang/invoke/VarHandle" ∧ (parseMethodDescriptor yX9_needSlope.desc).map (fun d => d.parameters.length) = some 1 := by decide +kernel
theorem hd_yX9_packOf : yX9_packOf.cls ≠ "java/lang/invoke/MethodHandle" ∧ yX9_packOf.cls ≠ "java/lang/invoke/VarHandle" ∧ (parseMethodDescriptor yX9_packOf.desc).map (fun d => d.parameters.length) = some 1 := by decide +kernel
theorem hd_yX9_needPit : yX9_needPit.cls ≠ "java/lang/invoke/MethodHandle" ∧ yX9_needPit.cls ≠ "java/lang/invoke/VarHandle" ∧ (parseMethodDescriptor yX9_needPit.desc).map (fun d => d.parameters.length) = some 1 := by decide +kernel
theorem mv_yX9_isSlope : zWv yX9_isSlope cX9_isSlope 2 (some .boolean) := ⟨q_539, s_5, q_1, q_540⟩
theorem mv_yX9_needSlope : zWv yX9_needSlope cX9_needSlope 2 none := ⟨q_942, s_24, q_1, q_943⟩
theorem mv_yX9_packOf : zWv yX9_packOf cX9_packOf 2 (some (.object "SnowRecorder$Pack")) := ⟨q_938, s_23, q_1, q_939⟩
theorem mv_yX9_needPit : zWv yX9_needPit cX9_needPit 2 none := ⟨q_1318, s_29, q_1, q_1319⟩
