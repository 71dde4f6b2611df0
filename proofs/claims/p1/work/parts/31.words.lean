-- words of hour
theorem q_439 : (Jvm.Cond.methodLink "SnowRecorder$World" (58 : Nat) ({ cls := "SnowRecorder$Plan", name := "airAt", desc := "(I)I" } : Jvm.MethodName)) ∈ AW := AW_m 558 (by decide +kernel) (by decide +kernel)
theorem q_440 : (Jvm.Cond.instanceMethod ({ cls := "SnowRecorder$Plan", name := "airAt", desc := "(I)I" } : Jvm.MethodName)) ∈ AW := AW_m 559 (by decide +kernel) (by decide +kernel)
theorem q_441 : (Jvm.Cond.selects "SnowRecorder$Plan" ({ cls := "SnowRecorder$Plan", name := "airAt", desc := "(I)I" } : Jvm.MethodName) ({ cls := "SnowRecorder$Plan", name := "airAt", desc := "(I)I" } : Jvm.MethodName)) ∈ AW := AW_m 560 (by decide +kernel) (by decide +kernel)
theorem q_442 : (Jvm.Cond.code ({ cls := "SnowRecorder$Plan", name := "airAt", desc := "(I)I" } : Jvm.MethodName) prog_7_method_6_code (2 : Nat) (Option.some Jvm.ClassFile.FieldType.int)) ∈ AW := AW_m 561 (by decide +kernel) (by decide +kernel)
theorem q_446 : (Jvm.Cond.methodLink "SnowRecorder$World" (63 : Nat) ({ cls := "SnowRecorder$Plan", name := "fallAt", desc := "(I)I" } : Jvm.MethodName)) ∈ AW := AW_m 565 (by decide +kernel) (by decide +kernel)
theorem q_447 : (Jvm.Cond.instanceMethod ({ cls := "SnowRecorder$Plan", name := "fallAt", desc := "(I)I" } : Jvm.MethodName)) ∈ AW := AW_m 566 (by decide +kernel) (by decide +kernel)
theorem q_448 : (Jvm.Cond.selects "SnowRecorder$Plan" ({ cls := "SnowRecorder$Plan", name := "fallAt", desc := "(I)I" } : Jvm.MethodName) ({ cls := "SnowRecorder$Plan", name := "fallAt", desc := "(I)I" } : Jvm.MethodName)) ∈ AW := AW_m 567 (by decide +kernel) (by decide +kernel)
theorem q_449 : (Jvm.Cond.code ({ cls := "SnowRecorder$Plan", name := "fallAt", desc := "(I)I" } : Jvm.MethodName) prog_7_method_7_code (2 : Nat) (Option.some Jvm.ClassFile.FieldType.int)) ∈ AW := AW_m 568 (by decide +kernel) (by decide +kernel)
theorem q_450 : (Jvm.Cond.methodLink "SnowRecorder$World" (66 : Nat) ({ cls := "SnowRecorder$Plan", name := "muchAt", desc := "(I)I" } : Jvm.MethodName)) ∈ AW := AW_m 569 (by decide +kernel) (by decide +kernel)
theorem q_451 : (Jvm.Cond.instanceMethod ({ cls := "SnowRecorder$Plan", name := "muchAt", desc := "(I)I" } : Jvm.MethodName)) ∈ AW := AW_m 570 (by decide +kernel) (by decide +kernel)
theorem q_452 : (Jvm.Cond.selects "SnowRecorder$Plan" ({ cls := "SnowRecorder$Plan", name := "muchAt", desc := "(I)I" } : Jvm.MethodName) ({ cls := "SnowRecorder$Plan", name := "muchAt", desc := "(I)I" } : Jvm.MethodName)) ∈ AW := AW_m 571 (by decide +kernel) (by decide +kernel)
theorem q_453 : (Jvm.Cond.code ({ cls := "SnowRecorder$Plan", name := "muchAt", desc := "(I)I" } : Jvm.MethodName) prog_7_method_8_code (2 : Nat) (Option.some Jvm.ClassFile.FieldType.int)) ∈ AW := AW_m 572 (by decide +kernel) (by decide +kernel)
theorem q_733 : (Jvm.Cond.methodLink "SnowRecorder$Plan" (48 : Nat) ({ cls := "java/lang/System", name := "arraycopy", desc := "(Ljava/lang/Object;ILjava/lang/Object;II)V" } : Jvm.MethodName)) ∈ AW := AW_m 852 (by decide +kernel) (by decide +kernel)
theorem q_91 : (Jvm.Cond.fieldLink "SnowRecorder$World" (69 : Nat) "SnowRecorder$Plan" "slopes" "I") ∈ AW := AW_m 210 (by decide +kernel) (by decide +kernel)
theorem hd_yX5_airAt : yX5_airAt.cls ≠ "java/lang/invoke/MethodHandle" ∧ yX5_airAt.cls ≠ "java/lang/invoke/VarHandle" ∧ (parseMethodDescriptor yX5_airAt.desc).map (fun d => d.parameters.length) = some 1 := by decide +kernel
theorem hd_yX5_fallAt : yX5_fallAt.cls ≠ "java/lang/invoke/MethodHandle" ∧ yX5_fallAt.cls ≠ "java/lang/invoke/VarHandle" ∧ (parseMethodDescriptor yX5_fallAt.desc).map (fun d => d.parameters.length) = some 1 := by decide +kernel
theorem hd_yX5_muchAt : yX5_muchAt.cls ≠ "java/lang/invoke/MethodHandle" ∧ yX5_muchAt.cls ≠ "java/lang/invoke/VarHandle" ∧ (parseMethodDescriptor yX5_muchAt.desc).map (fun d => d.parameters.length) = some 1 := by decide +kernel
theorem mv_yX5_airAt : zWv yX5_airAt cX5_airAt 2 (some .int) := ⟨q_440, q_441, q_3, q_442⟩
theorem mv_yX5_fallAt : zWv yX5_fallAt cX5_fallAt 2 (some .int) := ⟨q_447, q_448, q_3, q_449⟩
theorem mv_yX5_muchAt : zWv yX5_muchAt cX5_muchAt 2 (some .int) := ⟨q_451, q_452, q_3, q_453⟩
