-- words of mh
theorem q_1471 : (Jvm.Cond.fieldLink "SnowRecorderModel" (110 : Nat) "SnowRecorderModel" "thrown" "I") ∈ AW := AW_m 1590 (by decide +kernel) (by decide +kernel)
theorem q_1472 : (Jvm.Cond.fieldLink "SnowRecorderModel" (198 : Nat) "SnowRecorderModel" "slopes" "I") ∈ AW := AW_m 1591 (by decide +kernel) (by decide +kernel)
theorem q_1652 : (Jvm.Cond.methodLink "SnowRecorderModel" (324 : Nat) ({ cls := "SnowRecorderModel", name := "right", desc := "(ZI)Z" } : Jvm.MethodName)) ∈ AW := AW_m 1771 (by decide +kernel) (by decide +kernel)
theorem q_1654 : (Jvm.Cond.instanceMethod ({ cls := "SnowRecorderModel", name := "right", desc := "(ZI)Z" } : Jvm.MethodName)) ∈ AW := AW_m 1773 (by decide +kernel) (by decide +kernel)
theorem q_1655 : (Jvm.Cond.code ({ cls := "SnowRecorderModel", name := "right", desc := "(ZI)Z" } : Jvm.MethodName) prog_12_method_4_code (3 : Nat) (Option.some Jvm.ClassFile.FieldType.boolean)) ∈ AW := AW_m 1774 (by decide +kernel) (by decide +kernel)
theorem q_1690 : (Jvm.Cond.methodLink "SnowRecorderModel" (281 : Nat) ({ cls := "SnowRecorderModel", name := "within", desc := "(III)Z" } : Jvm.MethodName)) ∈ AW := AW_m 1809 (by decide +kernel) (by decide +kernel)
theorem q_1691 : (Jvm.Cond.static ({ cls := "SnowRecorderModel", name := "within", desc := "(III)Z" } : Jvm.MethodName)) ∈ AW := AW_m 1810 (by decide +kernel) (by decide +kernel)
theorem q_1692 : (Jvm.Cond.code ({ cls := "SnowRecorderModel", name := "within", desc := "(III)Z" } : Jvm.MethodName) prog_12_method_5_code (3 : Nat) (Option.some Jvm.ClassFile.FieldType.boolean)) ∈ AW := AW_m 1811 (by decide +kernel) (by decide +kernel)
theorem q_1807 : (Jvm.Cond.methodLink "SnowRecorderModel" (360 : Nat) ({ cls := "SnowRecorderModel", name := "isSlope", desc := "(I)Z" } : Jvm.MethodName)) ∈ AW := AW_m 1926 (by decide +kernel) (by decide +kernel)
theorem q_1809 : (Jvm.Cond.instanceMethod ({ cls := "SnowRecorderModel", name := "isSlope", desc := "(I)Z" } : Jvm.MethodName)) ∈ AW := AW_m 1928 (by decide +kernel) (by decide +kernel)
theorem q_1810 : (Jvm.Cond.code ({ cls := "SnowRecorderModel", name := "isSlope", desc := "(I)Z" } : Jvm.MethodName) prog_12_method_69_code (2 : Nat) (Option.some Jvm.ClassFile.FieldType.boolean)) ∈ AW := AW_m 1929 (by decide +kernel) (by decide +kernel)
theorem s_40 : Cond.selects "SnowRecorderModel" ({ cls := "SnowRecorderModel", name := "right", desc := "(ZI)Z" } : Jvm.MethodName) ({ cls := "SnowRecorderModel", name := "right", desc := "(ZI)Z" } : Jvm.MethodName) ∈ AW := AW_m 40 (by decide +kernel) (by decide +kernel)
theorem s_71 : Cond.selects "SnowRecorderModel" ({ cls := "SnowRecorderModel", name := "isSlope", desc := "(I)Z" } : Jvm.MethodName) ({ cls := "SnowRecorderModel", name := "isSlope", desc := "(I)Z" } : Jvm.MethodName) ∈ AW := AW_m 71 (by decide +kernel) (by decide +kernel)
theorem hd_yX10_within : yX10_within.cls ≠ "java/lang/invoke/MethodHandle" ∧ yX10_within.cls ≠ "java/lang/invoke/VarHandle" ∧ (parseMethodDescriptor yX10_within.desc).map (fun d => d.parameters.length) = some 3 := by decide +kernel
theorem hd_yX10_right : yX10_right.cls ≠ "java/lang/invoke/MethodHandle" ∧ yX10_right.cls ≠ "java/lang/invoke/VarHandle" ∧ (parseMethodDescriptor yX10_right.desc).map (fun d => d.parameters.length) = some 2 := by decide +kernel
theorem hd_yX10_isSlope : yX10_isSlope.cls ≠ "java/lang/invoke/MethodHandle" ∧ yX10_isSlope.cls ≠ "java/lang/invoke/VarHandle" ∧ (parseMethodDescriptor yX10_isSlope.desc).map (fun d => d.parameters.length) = some 1 := by decide +kernel
theorem ms_yX10_within : zWs yX10_within cX10_within 3 (some .boolean) := ⟨q_1691, q_15, q_1692⟩
theorem mv_yX10_right : zWv yX10_right cX10_right 3 (some .boolean) := ⟨q_1654, s_40, q_15, q_1655⟩
theorem mv_yX10_isSlope : zWv yX10_isSlope cX10_isSlope 2 (some .boolean) := ⟨q_1809, s_71, q_15, q_1810⟩
