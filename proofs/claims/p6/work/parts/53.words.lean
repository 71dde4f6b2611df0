-- words of str
theorem q_1166 : (Jvm.Cond.fieldLink "java/lang/String" (9 : Nat) "java/lang/String" "value" "[B") ∈ AW := AW_m5 206 (by decide +kernel) (by decide +kernel)
theorem q_1167 : (Jvm.Cond.fieldLink "java/lang/String" (15 : Nat) "java/lang/String" "coder" "B") ∈ AW := AW_m5 207 (by decide +kernel) (by decide +kernel)
theorem q_13 : (Jvm.Cond.initialized "java/lang/String") ∈ AW := AW_m1 13 (by decide +kernel) (by decide +kernel)
theorem q_22 : (Jvm.Cond.initialized "java/lang/StringLatin1") ∈ AW := AW_m1 22 (by decide +kernel) (by decide +kernel)
theorem q_23 : (Jvm.Cond.initialized "jdk/internal/util/Preconditions") ∈ AW := AW_m1 23 (by decide +kernel) (by decide +kernel)
theorem q_762 : (Jvm.Cond.methodLink "java/lang/String" (335 : Nat) ({ cls := "java/lang/String", name := "coder", desc := "()B" } : Jvm.MethodName)) ∈ AW := AW_m4 42 (by decide +kernel) (by decide +kernel)
theorem q_763 : (Jvm.Cond.instanceMethod ({ cls := "java/lang/String", name := "coder", desc := "()B" } : Jvm.MethodName)) ∈ AW := AW_m4 43 (by decide +kernel) (by decide +kernel)
theorem q_764 : (Jvm.Cond.selects "java/lang/String" ({ cls := "java/lang/String", name := "coder", desc := "()B" } : Jvm.MethodName) ({ cls := "java/lang/String", name := "coder", desc := "()B" } : Jvm.MethodName)) ∈ AW := AW_m4 44 (by decide +kernel) (by decide +kernel)
theorem q_765 : (Jvm.Cond.code ({ cls := "java/lang/String", name := "coder", desc := "()B" } : Jvm.MethodName) prog_25_method_152_code (1 : Nat) (Option.some Jvm.ClassFile.FieldType.byte)) ∈ AW := AW_m4 45 (by decide +kernel) (by decide +kernel)
theorem q_766 : (Jvm.Cond.fieldLink "java/lang/String" (38 : Nat) "java/lang/String" "COMPACT_STRINGS" "Z") ∈ AW := AW_m4 46 (by decide +kernel) (by decide +kernel)
theorem q_771 : (Jvm.Cond.methodLink "java/lang/String" (492 : Nat) ({ cls := "java/lang/String", name := "isLatin1", desc := "()Z" } : Jvm.MethodName)) ∈ AW := AW_m4 51 (by decide +kernel) (by decide +kernel)
theorem q_772 : (Jvm.Cond.instanceMethod ({ cls := "java/lang/String", name := "isLatin1", desc := "()Z" } : Jvm.MethodName)) ∈ AW := AW_m4 52 (by decide +kernel) (by decide +kernel)
theorem q_773 : (Jvm.Cond.selects "java/lang/String" ({ cls := "java/lang/String", name := "isLatin1", desc := "()Z" } : Jvm.MethodName) ({ cls := "java/lang/String", name := "isLatin1", desc := "()Z" } : Jvm.MethodName)) ∈ AW := AW_m4 53 (by decide +kernel) (by decide +kernel)
theorem q_774 : (Jvm.Cond.code ({ cls := "java/lang/String", name := "isLatin1", desc := "()Z" } : Jvm.MethodName) prog_25_method_154_code (1 : Nat) (Option.some Jvm.ClassFile.FieldType.boolean)) ∈ AW := AW_m4 54 (by decide +kernel) (by decide +kernel)
theorem q_775 : (Jvm.Cond.methodLink "java/lang/String" (495 : Nat) ({ cls := "java/lang/StringLatin1", name := "charAt", desc := "([BI)C" } : Jvm.MethodName)) ∈ AW := AW_m4 55 (by decide +kernel) (by decide +kernel)
theorem q_776 : (Jvm.Cond.static ({ cls := "java/lang/StringLatin1", name := "charAt", desc := "([BI)C" } : Jvm.MethodName)) ∈ AW := AW_m4 56 (by decide +kernel) (by decide +kernel)
theorem q_777 : (Jvm.Cond.code ({ cls := "java/lang/StringLatin1", name := "charAt", desc := "([BI)C" } : Jvm.MethodName) prog_27_method_2_code (2 : Nat) (Option.some Jvm.ClassFile.FieldType.char)) ∈ AW := AW_m4 57 (by decide +kernel) (by decide +kernel)
theorem q_778 : (Jvm.Cond.methodLink "java/lang/StringLatin1" (9 : Nat) ({ cls := "java/lang/String", name := "checkIndex", desc := "(II)V" } : Jvm.MethodName)) ∈ AW := AW_m4 58 (by decide +kernel) (by decide +kernel)
theorem q_779 : (Jvm.Cond.static ({ cls := "java/lang/String", name := "checkIndex", desc := "(II)V" } : Jvm.MethodName)) ∈ AW := AW_m4 59 (by decide +kernel) (by decide +kernel)
theorem q_780 : (Jvm.Cond.code ({ cls := "java/lang/String", name := "checkIndex", desc := "(II)V" } : Jvm.MethodName) prog_25_method_155_code (2 : Nat) (Option.none : Option Jvm.ClassFile.FieldType)) ∈ AW := AW_m4 60 (by decide +kernel) (by decide +kernel)
theorem q_781 : (Jvm.Cond.fieldLink "java/lang/String" (1053 : Nat) "jdk/internal/util/Preconditions" "SIOOBE_FORMATTER" "Ljava/util/function/BiFunction;") ∈ AW := AW_m4 61 (by decide +kernel) (by decide +kernel)
theorem q_783 : (Jvm.Cond.methodLink "java/lang/String" (1059 : Nat) ({ cls := "jdk/internal/util/Preconditions", name := "checkIndex", desc := "(IILjava/util/function/BiFunction;)I" } : Jvm.MethodName)) ∈ AW := AW_m4 63 (by decide +kernel) (by decide +kernel)
theorem q_784 : (Jvm.Cond.static ({ cls := "jdk/internal/util/Preconditions", name := "checkIndex", desc := "(IILjava/util/function/BiFunction;)I" } : Jvm.MethodName)) ∈ AW := AW_m4 64 (by decide +kernel) (by decide +kernel)
theorem q_785 : (Jvm.Cond.code ({ cls := "jdk/internal/util/Preconditions", name := "checkIndex", desc := "(IILjava/util/function/BiFunction;)I" } : Jvm.MethodName) prog_36_method_11_code (3 : Nat) (Option.some Jvm.ClassFile.FieldType.int)) ∈ AW := AW_m4 65 (by decide +kernel) (by decide +kernel)
theorem hd_yJ0_coder_7d493 : yJ0_coder_7d493.cls ≠ "java/lang/invoke/MethodHandle" ∧ yJ0_coder_7d493.cls ≠ "java/lang/invoke/VarHandle" ∧ (parseMethodDescriptor yJ0_coder_7d493.desc).map (fun d => d.parameters.length) = some 0 := by decide +kernel
theorem hd_yJ3_checkIndex_8e157 : yJ3_checkIndex_8e157.cls ≠ "java/lang/invoke/MethodHandle" ∧ yJ3_checkIndex_8e157.cls ≠ "java/lang/invoke/VarHandle" ∧ (parseMethodDescriptor yJ3_checkIndex_8e157.desc).map (fun d => d.parameters.length) = some 3 := by decide +kernel
theorem hd_yJ0_checkIndex_df160 : yJ0_checkIndex_df160.cls ≠ "java/lang/invoke/MethodHandle" ∧ yJ0_checkIndex_df160.cls ≠ "java/lang/invoke/VarHandle" ∧ (parseMethodDescriptor yJ0_checkIndex_df160.desc).map (fun d => d.parameters.length) = some 2 := by decide +kernel
theorem hd_yJ0_isLatin1_aae02 : yJ0_isLatin1_aae02.cls ≠ "java/lang/invoke/MethodHandle" ∧ yJ0_isLatin1_aae02.cls ≠ "java/lang/invoke/VarHandle" ∧ (parseMethodDescriptor yJ0_isLatin1_aae02.desc).map (fun d => d.parameters.length) = some 0 := by decide +kernel
theorem hd_yJ1_charAt_3b067 : yJ1_charAt_3b067.cls ≠ "java/lang/invoke/MethodHandle" ∧ yJ1_charAt_3b067.cls ≠ "java/lang/invoke/VarHandle" ∧ (parseMethodDescriptor yJ1_charAt_3b067.desc).map (fun d => d.parameters.length) = some 2 := by decide +kernel
theorem mv_yJ0_coder_7d493 : zWv yJ0_coder_7d493 cJ0_coder_7d493 1 (some .byte) := ⟨q_763, q_764, q_13, q_765⟩
theorem ms_yJ3_checkIndex_8e157 : zWs yJ3_checkIndex_8e157 cJ3_checkIndex_8e157 3 (some .int) := ⟨q_784, q_23, q_785⟩
theorem ms_yJ0_checkIndex_df160 : zWs yJ0_checkIndex_df160 cJ0_checkIndex_df160 2 none := ⟨q_779, q_13, q_780⟩
theorem mv_yJ0_isLatin1_aae02 : zWv yJ0_isLatin1_aae02 cJ0_isLatin1_aae02 1 (some .boolean) := ⟨q_772, q_773, q_13, q_774⟩
theorem ms_yJ1_charAt_3b067 : zWs yJ1_charAt_3b067 cJ1_charAt_3b067 2 (some .char) := ⟨q_776, q_22, q_777⟩
