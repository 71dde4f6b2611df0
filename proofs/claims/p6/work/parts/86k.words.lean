-- words of yread
theorem q_1491 : (Jvm.Cond.fieldLink "SnowRecorderModel" (251 : Nat) "SnowRecorderModel" "next" "I") ∈ AW := AW_m7 51 (by decide +kernel) (by decide +kernel)
theorem q_1492 : (Jvm.Cond.fieldLink "SnowRecorderModel" (254 : Nat) "SnowRecorderModel" "place" "I") ∈ AW := AW_m7 52 (by decide +kernel) (by decide +kernel)
theorem q_1494 : (Jvm.Cond.fieldLink "SnowRecorderModel" (263 : Nat) "SnowRecorderModel" "sort" "I") ∈ AW := AW_m7 54 (by decide +kernel) (by decide +kernel)
theorem q_1495 : (Jvm.Cond.fieldLink "SnowRecorderModel" (260 : Nat) "SnowRecorderModel" "value" "I") ∈ AW := AW_m7 55 (by decide +kernel) (by decide +kernel)
theorem q_1496 : (Jvm.Cond.fieldLink "SnowRecorderModel" (257 : Nat) "SnowRecorderModel" "word" "I") ∈ AW := AW_m7 56 (by decide +kernel) (by decide +kernel)
theorem q_1497 : (Jvm.Cond.fieldLink "SnowRecorderModel" (274 : Nat) "SnowRecorderModel" "bad" "I") ∈ AW := AW_m7 57 (by decide +kernel) (by decide +kernel)
theorem q_1656 : (Jvm.Cond.methodLink "SnowRecorderModel" (285 : Nat) ({ cls := "SnowRecorderModel", name := "go", desc := "()V" } : Jvm.MethodName)) ∈ AW := AW_m7 216 (by decide +kernel) (by decide +kernel)
theorem q_1658 : (Jvm.Cond.instanceMethod ({ cls := "SnowRecorderModel", name := "go", desc := "()V" } : Jvm.MethodName)) ∈ AW := AW_m7 218 (by decide +kernel) (by decide +kernel)
theorem q_1659 : (Jvm.Cond.code ({ cls := "SnowRecorderModel", name := "go", desc := "()V" } : Jvm.MethodName) prog_12_method_48_code (2 : Nat) (Option.none : Option Jvm.ClassFile.FieldType)) ∈ AW := AW_m7 219 (by decide +kernel) (by decide +kernel)
theorem q_1660 : (Jvm.Cond.methodLink "SnowRecorderModel" (248 : Nat) ({ cls := "SnowRecorderModel", name := "byteAt", desc := "(I)I" } : Jvm.MethodName)) ∈ AW := AW_m7 220 (by decide +kernel) (by decide +kernel)
theorem q_1662 : (Jvm.Cond.instanceMethod ({ cls := "SnowRecorderModel", name := "byteAt", desc := "(I)I" } : Jvm.MethodName)) ∈ AW := AW_m7 222 (by decide +kernel) (by decide +kernel)
theorem q_1663 : (Jvm.Cond.code ({ cls := "SnowRecorderModel", name := "byteAt", desc := "(I)I" } : Jvm.MethodName) prog_12_method_46_code (2 : Nat) (Option.some Jvm.ClassFile.FieldType.int)) ∈ AW := AW_m7 223 (by decide +kernel) (by decide +kernel)
theorem q_1664 : (Jvm.Cond.methodLink "SnowRecorderModel" (266 : Nat) ({ cls := "SnowRecorderModel", name := "isLetter", desc := "(I)Z" } : Jvm.MethodName)) ∈ AW := AW_m7 224 (by decide +kernel) (by decide +kernel)
theorem q_1665 : (Jvm.Cond.static ({ cls := "SnowRecorderModel", name := "isLetter", desc := "(I)Z" } : Jvm.MethodName)) ∈ AW := AW_m7 225 (by decide +kernel) (by decide +kernel)
theorem q_1666 : (Jvm.Cond.code ({ cls := "SnowRecorderModel", name := "isLetter", desc := "(I)Z" } : Jvm.MethodName) prog_12_method_45_code (1 : Nat) (Option.some Jvm.ClassFile.FieldType.boolean)) ∈ AW := AW_m7 226 (by decide +kernel) (by decide +kernel)
theorem q_1667 : (Jvm.Cond.methodLink "SnowRecorderModel" (270 : Nat) ({ cls := "SnowRecorderModel", name := "wordFrom", desc := "(II)I" } : Jvm.MethodName)) ∈ AW := AW_m7 227 (by decide +kernel) (by decide +kernel)
theorem q_1669 : (Jvm.Cond.instanceMethod ({ cls := "SnowRecorderModel", name := "wordFrom", desc := "(II)I" } : Jvm.MethodName)) ∈ AW := AW_m7 229 (by decide +kernel) (by decide +kernel)
theorem q_1670 : (Jvm.Cond.code ({ cls := "SnowRecorderModel", name := "wordFrom", desc := "(II)I" } : Jvm.MethodName) prog_12_method_47_code (7 : Nat) (Option.some Jvm.ClassFile.FieldType.int)) ∈ AW := AW_m7 230 (by decide +kernel) (by decide +kernel)
theorem q_1671 : (Jvm.Cond.fieldLink "SnowRecorderModel" (244 : Nat) "SnowRecorderModel" "KNOWN" "[B") ∈ AW := AW_m7 231 (by decide +kernel) (by decide +kernel)
theorem q_1673 : (Jvm.Cond.constant "SnowRecorderModel" (273 : Nat) (99999 : Int32)) ∈ AW := AW_m7 233 (by decide +kernel) (by decide +kernel)
theorem q_1682 : (Jvm.Cond.methodLink "SnowRecorderModel" (277 : Nat) ({ cls := "SnowRecorderModel", name := "wants", desc := "(ZI)Z" } : Jvm.MethodName)) ∈ AW := AW_m8 2 (by decide +kernel) (by decide +kernel)
theorem q_1684 : (Jvm.Cond.instanceMethod ({ cls := "SnowRecorderModel", name := "wants", desc := "(ZI)Z" } : Jvm.MethodName)) ∈ AW := AW_m8 4 (by decide +kernel) (by decide +kernel)
theorem q_1685 : (Jvm.Cond.code ({ cls := "SnowRecorderModel", name := "wants", desc := "(ZI)Z" } : Jvm.MethodName) prog_12_method_49_code (3 : Nat) (Option.some Jvm.ClassFile.FieldType.boolean)) ∈ AW := AW_m8 5 (by decide +kernel) (by decide +kernel)
theorem q_1690 : (Jvm.Cond.methodLink "SnowRecorderModel" (281 : Nat) ({ cls := "SnowRecorderModel", name := "within", desc := "(III)Z" } : Jvm.MethodName)) ∈ AW := AW_m8 10 (by decide +kernel) (by decide +kernel)
theorem q_1691 : (Jvm.Cond.static ({ cls := "SnowRecorderModel", name := "within", desc := "(III)Z" } : Jvm.MethodName)) ∈ AW := AW_m8 11 (by decide +kernel) (by decide +kernel)
theorem q_1692 : (Jvm.Cond.code ({ cls := "SnowRecorderModel", name := "within", desc := "(III)Z" } : Jvm.MethodName) prog_12_method_5_code (3 : Nat) (Option.some Jvm.ClassFile.FieldType.boolean)) ∈ AW := AW_m8 12 (by decide +kernel) (by decide +kernel)
theorem s_41 : Cond.selects "SnowRecorderModel" ({ cls := "SnowRecorderModel", name := "go", desc := "()V" } : Jvm.MethodName) ({ cls := "SnowRecorderModel", name := "go", desc := "()V" } : Jvm.MethodName) ∈ AW := AW_m 41 (by decide +kernel) (by decide +kernel)
theorem s_42 : Cond.selects "SnowRecorderModel" ({ cls := "SnowRecorderModel", name := "byteAt", desc := "(I)I" } : Jvm.MethodName) ({ cls := "SnowRecorderModel", name := "byteAt", desc := "(I)I" } : Jvm.MethodName) ∈ AW := AW_m 42 (by decide +kernel) (by decide +kernel)
theorem s_43 : Cond.selects "SnowRecorderModel" ({ cls := "SnowRecorderModel", name := "wordFrom", desc := "(II)I" } : Jvm.MethodName) ({ cls := "SnowRecorderModel", name := "wordFrom", desc := "(II)I" } : Jvm.MethodName) ∈ AW := AW_m 43 (by decide +kernel) (by decide +kernel)
theorem s_46 : Cond.selects "SnowRecorderModel" ({ cls := "SnowRecorderModel", name := "wants", desc := "(ZI)Z" } : Jvm.MethodName) ({ cls := "SnowRecorderModel", name := "wants", desc := "(ZI)Z" } : Jvm.MethodName) ∈ AW := AW_m 46 (by decide +kernel) (by decide +kernel)
theorem hd_yX10_byteAt : yX10_byteAt.cls ≠ "java/lang/invoke/MethodHandle" ∧ yX10_byteAt.cls ≠ "java/lang/invoke/VarHandle" ∧ (parseMethodDescriptor yX10_byteAt.desc).map (fun d => d.parameters.length) = some 1 := by decide +kernel
theorem hd_yX10_isLetter : yX10_isLetter.cls ≠ "java/lang/invoke/MethodHandle" ∧ yX10_isLetter.cls ≠ "java/lang/invoke/VarHandle" ∧ (parseMethodDescriptor yX10_isLetter.desc).map (fun d => d.parameters.length) = some 1 := by decide +kernel
theorem hd_yX10_wordFrom : yX10_wordFrom.cls ≠ "java/lang/invoke/MethodHandle" ∧ yX10_wordFrom.cls ≠ "java/lang/invoke/VarHandle" ∧ (parseMethodDescriptor yX10_wordFrom.desc).map (fun d => d.parameters.length) = some 2 := by decide +kernel
theorem hd_yX10_wants : yX10_wants.cls ≠ "java/lang/invoke/MethodHandle" ∧ yX10_wants.cls ≠ "java/lang/invoke/VarHandle" ∧ (parseMethodDescriptor yX10_wants.desc).map (fun d => d.parameters.length) = some 2 := by decide +kernel
theorem hd_yX10_within : yX10_within.cls ≠ "java/lang/invoke/MethodHandle" ∧ yX10_within.cls ≠ "java/lang/invoke/VarHandle" ∧ (parseMethodDescriptor yX10_within.desc).map (fun d => d.parameters.length) = some 3 := by decide +kernel
theorem hd_yX10_go : yX10_go.cls ≠ "java/lang/invoke/MethodHandle" ∧ yX10_go.cls ≠ "java/lang/invoke/VarHandle" ∧ (parseMethodDescriptor yX10_go.desc).map (fun d => d.parameters.length) = some 0 := by decide +kernel
theorem mv_yX10_byteAt : zWv yX10_byteAt cX10_byteAt 2 (some .int) := ⟨q_1662, s_42, q_15, q_1663⟩
theorem ms_yX10_isLetter : zWs yX10_isLetter cX10_isLetter 1 (some .boolean) := ⟨q_1665, q_15, q_1666⟩
theorem mv_yX10_wordFrom : zWv yX10_wordFrom cX10_wordFrom 7 (some .int) := ⟨q_1669, s_43, q_15, q_1670⟩
theorem mv_yX10_wants : zWv yX10_wants cX10_wants 3 (some .boolean) := ⟨q_1684, s_46, q_15, q_1685⟩
theorem ms_yX10_within : zWs yX10_within cX10_within 3 (some .boolean) := ⟨q_1691, q_15, q_1692⟩
theorem mv_yX10_go : zWv yX10_go cX10_go 2 none := ⟨q_1658, s_41, q_15, q_1659⟩
