-- words of refs
theorem q_1471 : (Jvm.Cond.fieldLink "SnowRecorderModel" (110 : Nat) "SnowRecorderModel" "thrown" "I") ∈ AW := AW_m7 31 (by decide +kernel) (by decide +kernel)
theorem q_1474 : (Jvm.Cond.fieldLink "SnowRecorderModel" (342 : Nat) "SnowRecorderModel" "acts" "I") ∈ AW := AW_m7 34 (by decide +kernel) (by decide +kernel)
theorem q_1475 : (Jvm.Cond.fieldLink "SnowRecorderModel" (339 : Nat) "SnowRecorderModel" "firstAct" "I") ∈ AW := AW_m7 35 (by decide +kernel) (by decide +kernel)
theorem q_1652 : (Jvm.Cond.methodLink "SnowRecorderModel" (324 : Nat) ({ cls := "SnowRecorderModel", name := "right", desc := "(ZI)Z" } : Jvm.MethodName)) ∈ AW := AW_m7 212 (by decide +kernel) (by decide +kernel)
theorem q_1654 : (Jvm.Cond.instanceMethod ({ cls := "SnowRecorderModel", name := "right", desc := "(ZI)Z" } : Jvm.MethodName)) ∈ AW := AW_m7 214 (by decide +kernel) (by decide +kernel)
theorem q_1655 : (Jvm.Cond.code ({ cls := "SnowRecorderModel", name := "right", desc := "(ZI)Z" } : Jvm.MethodName) prog_12_method_4_code (3 : Nat) (Option.some Jvm.ClassFile.FieldType.boolean)) ∈ AW := AW_m7 215 (by decide +kernel) (by decide +kernel)
theorem q_1807 : (Jvm.Cond.methodLink "SnowRecorderModel" (360 : Nat) ({ cls := "SnowRecorderModel", name := "isSlope", desc := "(I)Z" } : Jvm.MethodName)) ∈ AW := AW_m8 127 (by decide +kernel) (by decide +kernel)
theorem q_1809 : (Jvm.Cond.instanceMethod ({ cls := "SnowRecorderModel", name := "isSlope", desc := "(I)Z" } : Jvm.MethodName)) ∈ AW := AW_m8 129 (by decide +kernel) (by decide +kernel)
theorem q_1810 : (Jvm.Cond.code ({ cls := "SnowRecorderModel", name := "isSlope", desc := "(I)Z" } : Jvm.MethodName) prog_12_method_69_code (2 : Nat) (Option.some Jvm.ClassFile.FieldType.boolean)) ∈ AW := AW_m8 130 (by decide +kernel) (by decide +kernel)
theorem q_1811 : (Jvm.Cond.methodLink "SnowRecorderModel" (363 : Nat) ({ cls := "SnowRecorderModel", name := "weakest", desc := "(II)I" } : Jvm.MethodName)) ∈ AW := AW_m8 131 (by decide +kernel) (by decide +kernel)
theorem q_1813 : (Jvm.Cond.instanceMethod ({ cls := "SnowRecorderModel", name := "weakest", desc := "(II)I" } : Jvm.MethodName)) ∈ AW := AW_m8 133 (by decide +kernel) (by decide +kernel)
theorem q_1814 : (Jvm.Cond.code ({ cls := "SnowRecorderModel", name := "weakest", desc := "(II)I" } : Jvm.MethodName) prog_12_method_41_code (3 : Nat) (Option.some Jvm.ClassFile.FieldType.int)) ∈ AW := AW_m8 134 (by decide +kernel) (by decide +kernel)
theorem q_1878 : (Jvm.Cond.methodLink "SnowRecorderModel" (388 : Nat) ({ cls := "SnowRecorderModel", name := "keptAt", desc := "(II)I" } : Jvm.MethodName)) ∈ AW := AW_m8 198 (by decide +kernel) (by decide +kernel)
theorem q_1879 : (Jvm.Cond.static ({ cls := "SnowRecorderModel", name := "keptAt", desc := "(II)I" } : Jvm.MethodName)) ∈ AW := AW_m8 199 (by decide +kernel) (by decide +kernel)
theorem q_1880 : (Jvm.Cond.code ({ cls := "SnowRecorderModel", name := "keptAt", desc := "(II)I" } : Jvm.MethodName) prog_12_method_78_code (2 : Nat) (Option.some Jvm.ClassFile.FieldType.int)) ∈ AW := AW_m8 200 (by decide +kernel) (by decide +kernel)
theorem q_1881 : (Jvm.Cond.methodLink "SnowRecorderModel" (391 : Nat) ({ cls := "SnowRecorderModel", name := "copies", desc := "(III)V" } : Jvm.MethodName)) ∈ AW := AW_m8 201 (by decide +kernel) (by decide +kernel)
theorem q_1883 : (Jvm.Cond.instanceMethod ({ cls := "SnowRecorderModel", name := "copies", desc := "(III)V" } : Jvm.MethodName)) ∈ AW := AW_m8 203 (by decide +kernel) (by decide +kernel)
theorem q_1884 : (Jvm.Cond.code ({ cls := "SnowRecorderModel", name := "copies", desc := "(III)V" } : Jvm.MethodName) prog_12_method_9_code (5 : Nat) (Option.none : Option Jvm.ClassFile.FieldType)) ∈ AW := AW_m8 204 (by decide +kernel) (by decide +kernel)
theorem s_40 : Cond.selects "SnowRecorderModel" ({ cls := "SnowRecorderModel", name := "right", desc := "(ZI)Z" } : Jvm.MethodName) ({ cls := "SnowRecorderModel", name := "right", desc := "(ZI)Z" } : Jvm.MethodName) ∈ AW := AW_m 40 (by decide +kernel) (by decide +kernel)
theorem s_71 : Cond.selects "SnowRecorderModel" ({ cls := "SnowRecorderModel", name := "isSlope", desc := "(I)Z" } : Jvm.MethodName) ({ cls := "SnowRecorderModel", name := "isSlope", desc := "(I)Z" } : Jvm.MethodName) ∈ AW := AW_m 71 (by decide +kernel) (by decide +kernel)
theorem s_72 : Cond.selects "SnowRecorderModel" ({ cls := "SnowRecorderModel", name := "weakest", desc := "(II)I" } : Jvm.MethodName) ({ cls := "SnowRecorderModel", name := "weakest", desc := "(II)I" } : Jvm.MethodName) ∈ AW := AW_m 72 (by decide +kernel) (by decide +kernel)
theorem s_85 : Cond.selects "SnowRecorderModel" ({ cls := "SnowRecorderModel", name := "copies", desc := "(III)V" } : Jvm.MethodName) ({ cls := "SnowRecorderModel", name := "copies", desc := "(III)V" } : Jvm.MethodName) ∈ AW := AW_m 85 (by decide +kernel) (by decide +kernel)
theorem hd_yX10_right : yX10_right.cls ≠ "java/lang/invoke/MethodHandle" ∧ yX10_right.cls ≠ "java/lang/invoke/VarHandle" ∧ (parseMethodDescriptor yX10_right.desc).map (fun d => d.parameters.length) = some 2 := by decide +kernel
theorem hd_yX10_isSlope : yX10_isSlope.cls ≠ "java/lang/invoke/MethodHandle" ∧ yX10_isSlope.cls ≠ "java/lang/invoke/VarHandle" ∧ (parseMethodDescriptor yX10_isSlope.desc).map (fun d => d.parameters.length) = some 1 := by decide +kernel
theorem hd_yX10_keptAt : yX10_keptAt.cls ≠ "java/lang/invoke/MethodHandle" ∧ yX10_keptAt.cls ≠ "java/lang/invoke/VarHandle" ∧ (parseMethodDescriptor yX10_keptAt.desc).map (fun d => d.parameters.length) = some 2 := by decide +kernel
theorem hd_yX10_copies : yX10_copies.cls ≠ "java/lang/invoke/MethodHandle" ∧ yX10_copies.cls ≠ "java/lang/invoke/VarHandle" ∧ (parseMethodDescriptor yX10_copies.desc).map (fun d => d.parameters.length) = some 3 := by decide +kernel
theorem hd_yX10_weakest : yX10_weakest.cls ≠ "java/lang/invoke/MethodHandle" ∧ yX10_weakest.cls ≠ "java/lang/invoke/VarHandle" ∧ (parseMethodDescriptor yX10_weakest.desc).map (fun d => d.parameters.length) = some 2 := by decide +kernel
theorem mv_yX10_right : zWv yX10_right cX10_right 3 (some .boolean) := ⟨q_1654, s_40, q_15, q_1655⟩
theorem mv_yX10_isSlope : zWv yX10_isSlope cX10_isSlope 2 (some .boolean) := ⟨q_1809, s_71, q_15, q_1810⟩
theorem ms_yX10_keptAt : zWs yX10_keptAt cX10_keptAt 2 (some .int) := ⟨q_1879, q_15, q_1880⟩
theorem mv_yX10_copies : zWv yX10_copies cX10_copies 5 none := ⟨q_1883, s_85, q_15, q_1884⟩
theorem mv_yX10_weakest : zWv yX10_weakest cX10_weakest 3 (some .int) := ⟨q_1813, s_72, q_15, q_1814⟩
