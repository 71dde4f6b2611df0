-- words of rec0
theorem q_1266 : (Jvm.Cond.methodLink "SnowRecorder" (424 : Nat) ({ cls := "java/lang/Math", name := "min", desc := "(II)I" } : Jvm.MethodName)) ∈ AW := AW_m6 66 (by decide +kernel) (by decide +kernel)
theorem q_1440 : (Jvm.Cond.constant "SnowRecorder" (466 : Nat) (1103515245 : Int32)) ∈ AW := AW_m7 0 (by decide +kernel) (by decide +kernel)
theorem q_158 : (Jvm.Cond.fieldLink "SnowRecorder" (193 : Nat) "SnowRecorder$Pack" "size" "I") ∈ AW := AW_m1 158 (by decide +kernel) (by decide +kernel)
theorem q_186 : (Jvm.Cond.fieldLink "SnowRecorder" (150 : Nat) "SnowRecorder$World" "pits" "I") ∈ AW := AW_m1 186 (by decide +kernel) (by decide +kernel)
theorem q_19 : (Jvm.Cond.initialized "java/lang/IllegalArgumentException") ∈ AW := AW_m1 19 (by decide +kernel) (by decide +kernel)
theorem q_191 : (Jvm.Cond.fieldLink "SnowRecorder" (280 : Nat) "SnowRecorder$World" "packs" "[LSnowRecorder$Pack;") ∈ AW := AW_m1 191 (by decide +kernel) (by decide +kernel)
theorem q_24 : (Jvm.Cond.initialized "java/util/NoSuchElementException") ∈ AW := AW_m1 24 (by decide +kernel) (by decide +kernel)
theorem q_258 : (Jvm.Cond.fieldLink "SnowRecorder" (112 : Nat) "SnowRecorder$State" "now" "LSnowRecorder$World;") ∈ AW := AW_m2 18 (by decide +kernel) (by decide +kernel)
theorem q_537 : (Jvm.Cond.methodLink "SnowRecorder" (268 : Nat) ({ cls := "SnowRecorder", name := "isSlope", desc := "(I)Z" } : Jvm.MethodName)) ∈ AW := AW_m3 57 (by decide +kernel) (by decide +kernel)
theorem q_539 : (Jvm.Cond.instanceMethod ({ cls := "SnowRecorder", name := "isSlope", desc := "(I)Z" } : Jvm.MethodName)) ∈ AW := AW_m3 59 (by decide +kernel) (by decide +kernel)
theorem q_540 : (Jvm.Cond.code ({ cls := "SnowRecorder", name := "isSlope", desc := "(I)Z" } : Jvm.MethodName) prog_1_method_37_code (2 : Nat) (Option.some Jvm.ClassFile.FieldType.boolean)) ∈ AW := AW_m3 60 (by decide +kernel) (by decide +kernel)
theorem q_658 : (Jvm.Cond.classLink "SnowRecorder" (86 : Nat) "java/lang/IllegalArgumentException") ∈ AW := AW_m3 178 (by decide +kernel) (by decide +kernel)
theorem q_90 : (Jvm.Cond.fieldLink "SnowRecorder" (115 : Nat) "SnowRecorder$Plan" "slopes" "I") ∈ AW := AW_m1 90 (by decide +kernel) (by decide +kernel)
theorem q_904 : (Jvm.Cond.classLink "SnowRecorder" (165 : Nat) "java/util/NoSuchElementException") ∈ AW := AW_m4 184 (by decide +kernel) (by decide +kernel)
theorem q_940 : (Jvm.Cond.methodLink "SnowRecorder" (300 : Nat) ({ cls := "SnowRecorder", name := "needSlope", desc := "(I)V" } : Jvm.MethodName)) ∈ AW := AW_m4 220 (by decide +kernel) (by decide +kernel)
theorem q_942 : (Jvm.Cond.instanceMethod ({ cls := "SnowRecorder", name := "needSlope", desc := "(I)V" } : Jvm.MethodName)) ∈ AW := AW_m4 222 (by decide +kernel) (by decide +kernel)
theorem q_943 : (Jvm.Cond.code ({ cls := "SnowRecorder", name := "needSlope", desc := "(I)V" } : Jvm.MethodName) prog_1_method_38_code (2 : Nat) (Option.none : Option Jvm.ClassFile.FieldType)) ∈ AW := AW_m4 223 (by decide +kernel) (by decide +kernel)
theorem s_24 : Cond.selects "SnowRecorder" ({ cls := "SnowRecorder", name := "needSlope", desc := "(I)V" } : Jvm.MethodName) ({ cls := "SnowRecorder", name := "needSlope", desc := "(I)V" } : Jvm.MethodName) ∈ AW := AW_m 24 (by decide +kernel) (by decide +kernel)
theorem s_5 : Cond.selects "SnowRecorder" ({ cls := "SnowRecorder", name := "isSlope", desc := "(I)Z" } : Jvm.MethodName) ({ cls := "SnowRecorder", name := "isSlope", desc := "(I)Z" } : Jvm.MethodName) ∈ AW := AW_m 5 (by decide +kernel) (by decide +kernel)
theorem hd_yX9_isSlope : yX9_isSlope.cls ≠ "java/lang/invoke/MethodHandle" ∧ yX9_isSlope.cls ≠ "java/lang/invoke/VarHandle" ∧ (parseMethodDescriptor yX9_isSlope.desc).map (fun d => d.parameters.length) = some 1 := by decide +kernel
theorem hd_yX9_needSlope : yX9_needSlope.cls ≠ "java/lang/invoke/MethodHandle" ∧ yX9_needSlope.cls ≠ "java/lang/invoke/VarHandle" ∧ (parseMethodDescriptor yX9_needSlope.desc).map (fun d => d.parameters.length) = some 1 := by decide +kernel
theorem mv_yX9_isSlope : zWv yX9_isSlope cX9_isSlope 2 (some .boolean) := ⟨q_539, s_5, q_1, q_540⟩
theorem mv_yX9_needSlope : zWv yX9_needSlope cX9_needSlope 2 none := ⟨q_942, s_24, q_1, q_943⟩
