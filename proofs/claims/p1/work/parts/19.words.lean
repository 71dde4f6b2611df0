-- words of plain
theorem q_218 : (Jvm.Cond.fieldLink "SnowRecorder" (160 : Nat) "SnowRecorder$Notes" "size" "I") ∈ AW := AW_m 337 (by decide +kernel) (by decide +kernel)
theorem q_261 : (Jvm.Cond.fieldLink "SnowRecorder" (153 : Nat) "SnowRecorder$State" "acts" "I") ∈ AW := AW_m 380 (by decide +kernel) (by decide +kernel)
theorem q_265 : (Jvm.Cond.fieldLink "SnowRecorder" (156 : Nat) "SnowRecorder$State" "notes" "LSnowRecorder$Notes;") ∈ AW := AW_m 384 (by decide +kernel) (by decide +kernel)
theorem q_267 : (Jvm.Cond.fieldLink "SnowRecorder" (100 : Nat) "SnowRecorder$State" "refused" "[I") ∈ AW := AW_m 386 (by decide +kernel) (by decide +kernel)
theorem q_408 : (Jvm.Cond.methodLink "SnowRecorder" (255 : Nat) ({ cls := "SnowRecorder", name := "refuse", desc := "(I)I" } : Jvm.MethodName)) ∈ AW := AW_m 527 (by decide +kernel) (by decide +kernel)
theorem q_410 : (Jvm.Cond.instanceMethod ({ cls := "SnowRecorder", name := "refuse", desc := "(I)I" } : Jvm.MethodName)) ∈ AW := AW_m 529 (by decide +kernel) (by decide +kernel)
theorem q_411 : (Jvm.Cond.code ({ cls := "SnowRecorder", name := "refuse", desc := "(I)I" } : Jvm.MethodName) prog_1_method_36_code (2 : Nat) (Option.some Jvm.ClassFile.FieldType.int)) ∈ AW := AW_m 530 (by decide +kernel) (by decide +kernel)
theorem s_1 : Cond.selects "SnowRecorder" ({ cls := "SnowRecorder", name := "refuse", desc := "(I)I" } : Jvm.MethodName) ({ cls := "SnowRecorder", name := "refuse", desc := "(I)I" } : Jvm.MethodName) ∈ AW := AW_m 1 (by decide +kernel) (by decide +kernel)
theorem hd_yX9_refuse : yX9_refuse.cls ≠ "java/lang/invoke/MethodHandle" ∧ yX9_refuse.cls ≠ "java/lang/invoke/VarHandle" ∧ (parseMethodDescriptor yX9_refuse.desc).map (fun d => d.parameters.length) = some 1 := by decide +kernel
theorem mv_yX9_refuse : zWv yX9_refuse cX9_refuse 2 (some .int) := ⟨q_410, s_1, q_1, q_411⟩
