-- words of refpit
theorem q_1514 : (Jvm.Cond.fieldLink "SnowRecorderModel" (430 : Nat) "SnowRecorderModel" "ones" "I") ∈ AW := AW_m7 74 (by decide +kernel) (by decide +kernel)
theorem q_1515 : (Jvm.Cond.fieldLink "SnowRecorderModel" (433 : Nat) "SnowRecorderModel" "others" "I") ∈ AW := AW_m7 75 (by decide +kernel) (by decide +kernel)
theorem q_2031 : (Jvm.Cond.methodLink "SnowRecorderModel" (421 : Nat) ({ cls := "SnowRecorderModel", name := "isPit", desc := "(I)Z" } : Jvm.MethodName)) ∈ AW := AW_m9 111 (by decide +kernel) (by decide +kernel)
theorem q_2033 : (Jvm.Cond.instanceMethod ({ cls := "SnowRecorderModel", name := "isPit", desc := "(I)Z" } : Jvm.MethodName)) ∈ AW := AW_m9 113 (by decide +kernel) (by decide +kernel)
theorem q_2034 : (Jvm.Cond.code ({ cls := "SnowRecorderModel", name := "isPit", desc := "(I)Z" } : Jvm.MethodName) prog_12_method_101_code (2 : Nat) (Option.some Jvm.ClassFile.FieldType.boolean)) ∈ AW := AW_m9 114 (by decide +kernel) (by decide +kernel)
theorem q_2035 : (Jvm.Cond.methodLink "SnowRecorderModel" (424 : Nat) ({ cls := "SnowRecorderModel", name := "pitMany", desc := "(I)I" } : Jvm.MethodName)) ∈ AW := AW_m9 115 (by decide +kernel) (by decide +kernel)
theorem q_2037 : (Jvm.Cond.instanceMethod ({ cls := "SnowRecorderModel", name := "pitMany", desc := "(I)I" } : Jvm.MethodName)) ∈ AW := AW_m9 117 (by decide +kernel) (by decide +kernel)
theorem q_2038 : (Jvm.Cond.code ({ cls := "SnowRecorderModel", name := "pitMany", desc := "(I)I" } : Jvm.MethodName) prog_12_method_102_code (2 : Nat) (Option.some Jvm.ClassFile.FieldType.int)) ∈ AW := AW_m9 118 (by decide +kernel) (by decide +kernel)
theorem q_2047 : (Jvm.Cond.methodLink "SnowRecorderModel" (427 : Nat) ({ cls := "SnowRecorderModel", name := "inPit", desc := "(III)I" } : Jvm.MethodName)) ∈ AW := AW_m9 127 (by decide +kernel) (by decide +kernel)
theorem q_2049 : (Jvm.Cond.instanceMethod ({ cls := "SnowRecorderModel", name := "inPit", desc := "(III)I" } : Jvm.MethodName)) ∈ AW := AW_m9 129 (by decide +kernel) (by decide +kernel)
theorem q_2050 : (Jvm.Cond.code ({ cls := "SnowRecorderModel", name := "inPit", desc := "(III)I" } : Jvm.MethodName) prog_12_method_103_code (4 : Nat) (Option.some Jvm.ClassFile.FieldType.int)) ∈ AW := AW_m9 130 (by decide +kernel) (by decide +kernel)
theorem s_107 : Cond.selects "SnowRecorderModel" ({ cls := "SnowRecorderModel", name := "isPit", desc := "(I)Z" } : Jvm.MethodName) ({ cls := "SnowRecorderModel", name := "isPit", desc := "(I)Z" } : Jvm.MethodName) ∈ AW := AW_m 107 (by decide +kernel) (by decide +kernel)
theorem s_108 : Cond.selects "SnowRecorderModel" ({ cls := "SnowRecorderModel", name := "pitMany", desc := "(I)I" } : Jvm.MethodName) ({ cls := "SnowRecorderModel", name := "pitMany", desc := "(I)I" } : Jvm.MethodName) ∈ AW := AW_m 108 (by decide +kernel) (by decide +kernel)
theorem s_110 : Cond.selects "SnowRecorderModel" ({ cls := "SnowRecorderModel", name := "inPit", desc := "(III)I" } : Jvm.MethodName) ({ cls := "SnowRecorderModel", name := "inPit", desc := "(III)I" } : Jvm.MethodName) ∈ AW := AW_m 110 (by decide +kernel) (by decide +kernel)
theorem hd_yX10_isPit : yX10_isPit.cls ≠ "java/lang/invoke/MethodHandle" ∧ yX10_isPit.cls ≠ "java/lang/invoke/VarHandle" ∧ (parseMethodDescriptor yX10_isPit.desc).map (fun d => d.parameters.length) = some 1 := by decide +kernel
theorem hd_yX10_pitMany : yX10_pitMany.cls ≠ "java/lang/invoke/MethodHandle" ∧ yX10_pitMany.cls ≠ "java/lang/invoke/VarHandle" ∧ (parseMethodDescriptor yX10_pitMany.desc).map (fun d => d.parameters.length) = some 1 := by decide +kernel
theorem hd_yX10_inPit : yX10_inPit.cls ≠ "java/lang/invoke/MethodHandle" ∧ yX10_inPit.cls ≠ "java/lang/invoke/VarHandle" ∧ (parseMethodDescriptor yX10_inPit.desc).map (fun d => d.parameters.length) = some 3 := by decide +kernel
theorem mv_yX10_isPit : zWv yX10_isPit cX10_isPit 2 (some .boolean) := ⟨q_2033, s_107, q_15, q_2034⟩
theorem mv_yX10_pitMany : zWv yX10_pitMany cX10_pitMany 2 (some .int) := ⟨q_2037, s_108, q_15, q_2038⟩
theorem mv_yX10_inPit : zWv yX10_inPit cX10_inPit 4 (some .int) := ⟨q_2049, s_110, q_15, q_2050⟩
