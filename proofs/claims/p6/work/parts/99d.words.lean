-- words of refnote
theorem q_1518 : (Jvm.Cond.fieldLink "SnowRecorderModel" (459 : Nat) "SnowRecorderModel" "its" "I") ∈ AW := AW_m7 78 (by decide +kernel) (by decide +kernel)
theorem q_2075 : (Jvm.Cond.methodLink "SnowRecorderModel" (450 : Nat) ({ cls := "SnowRecorderModel", name := "isNoted", desc := "()Z" } : Jvm.MethodName)) ∈ AW := AW_m9 155 (by decide +kernel) (by decide +kernel)
theorem q_2077 : (Jvm.Cond.instanceMethod ({ cls := "SnowRecorderModel", name := "isNoted", desc := "()Z" } : Jvm.MethodName)) ∈ AW := AW_m9 157 (by decide +kernel) (by decide +kernel)
theorem q_2078 : (Jvm.Cond.code ({ cls := "SnowRecorderModel", name := "isNoted", desc := "()Z" } : Jvm.MethodName) prog_12_method_112_code (4 : Nat) (Option.some Jvm.ClassFile.FieldType.boolean)) ∈ AW := AW_m9 158 (by decide +kernel) (by decide +kernel)
theorem q_2079 : (Jvm.Cond.methodLink "SnowRecorderModel" (453 : Nat) ({ cls := "SnowRecorderModel", name := "isGuess", desc := "(II)Z" } : Jvm.MethodName)) ∈ AW := AW_m9 159 (by decide +kernel) (by decide +kernel)
theorem q_2081 : (Jvm.Cond.instanceMethod ({ cls := "SnowRecorderModel", name := "isGuess", desc := "(II)Z" } : Jvm.MethodName)) ∈ AW := AW_m9 161 (by decide +kernel) (by decide +kernel)
theorem q_2082 : (Jvm.Cond.code ({ cls := "SnowRecorderModel", name := "isGuess", desc := "(II)Z" } : Jvm.MethodName) prog_12_method_113_code (4 : Nat) (Option.some Jvm.ClassFile.FieldType.boolean)) ∈ AW := AW_m9 162 (by decide +kernel) (by decide +kernel)
theorem q_2087 : (Jvm.Cond.methodLink "SnowRecorderModel" (456 : Nat) ({ cls := "SnowRecorderModel", name := "unlike", desc := "(II)I" } : Jvm.MethodName)) ∈ AW := AW_m9 167 (by decide +kernel) (by decide +kernel)
theorem q_2089 : (Jvm.Cond.instanceMethod ({ cls := "SnowRecorderModel", name := "unlike", desc := "(II)I" } : Jvm.MethodName)) ∈ AW := AW_m9 169 (by decide +kernel) (by decide +kernel)
theorem q_2090 : (Jvm.Cond.code ({ cls := "SnowRecorderModel", name := "unlike", desc := "(II)I" } : Jvm.MethodName) prog_12_method_115_code (7 : Nat) (Option.some Jvm.ClassFile.FieldType.int)) ∈ AW := AW_m9 170 (by decide +kernel) (by decide +kernel)
theorem q_2103 : (Jvm.Cond.methodLink "SnowRecorderModel" (466 : Nat) ({ cls := "SnowRecorderModel", name := "year", desc := "()V" } : Jvm.MethodName)) ∈ AW := AW_m9 183 (by decide +kernel) (by decide +kernel)
theorem q_2105 : (Jvm.Cond.instanceMethod ({ cls := "SnowRecorderModel", name := "year", desc := "()V" } : Jvm.MethodName)) ∈ AW := AW_m9 185 (by decide +kernel) (by decide +kernel)
theorem q_2106 : (Jvm.Cond.code ({ cls := "SnowRecorderModel", name := "year", desc := "()V" } : Jvm.MethodName) prog_12_method_120_code (3 : Nat) (Option.none : Option Jvm.ClassFile.FieldType)) ∈ AW := AW_m9 186 (by decide +kernel) (by decide +kernel)
theorem q_2107 : (Jvm.Cond.methodLink "SnowRecorderModel" (463 : Nat) ({ cls := "SnowRecorderModel", name := "draw", desc := "(I)I" } : Jvm.MethodName)) ∈ AW := AW_m9 187 (by decide +kernel) (by decide +kernel)
theorem q_2109 : (Jvm.Cond.instanceMethod ({ cls := "SnowRecorderModel", name := "draw", desc := "(I)I" } : Jvm.MethodName)) ∈ AW := AW_m9 189 (by decide +kernel) (by decide +kernel)
theorem q_2110 : (Jvm.Cond.code ({ cls := "SnowRecorderModel", name := "draw", desc := "(I)I" } : Jvm.MethodName) prog_12_method_119_code (2 : Nat) (Option.some Jvm.ClassFile.FieldType.int)) ∈ AW := AW_m9 190 (by decide +kernel) (by decide +kernel)
theorem q_2111 : (Jvm.Cond.constant "SnowRecorderModel" (462 : Nat) (1103515245 : Int32)) ∈ AW := AW_m9 191 (by decide +kernel) (by decide +kernel)
theorem s_114 : Cond.selects "SnowRecorderModel" ({ cls := "SnowRecorderModel", name := "isNoted", desc := "()Z" } : Jvm.MethodName) ({ cls := "SnowRecorderModel", name := "isNoted", desc := "()Z" } : Jvm.MethodName) ∈ AW := AW_m 114 (by decide +kernel) (by decide +kernel)
theorem s_115 : Cond.selects "SnowRecorderModel" ({ cls := "SnowRecorderModel", name := "isGuess", desc := "(II)Z" } : Jvm.MethodName) ({ cls := "SnowRecorderModel", name := "isGuess", desc := "(II)Z" } : Jvm.MethodName) ∈ AW := AW_m 115 (by decide +kernel) (by decide +kernel)
theorem s_116 : Cond.selects "SnowRecorderModel" ({ cls := "SnowRecorderModel", name := "unlike", desc := "(II)I" } : Jvm.MethodName) ({ cls := "SnowRecorderModel", name := "unlike", desc := "(II)I" } : Jvm.MethodName) ∈ AW := AW_m 116 (by decide +kernel) (by decide +kernel)
theorem s_117 : Cond.selects "SnowRecorderModel" ({ cls := "SnowRecorderModel", name := "year", desc := "()V" } : Jvm.MethodName) ({ cls := "SnowRecorderModel", name := "year", desc := "()V" } : Jvm.MethodName) ∈ AW := AW_m 117 (by decide +kernel) (by decide +kernel)
theorem s_118 : Cond.selects "SnowRecorderModel" ({ cls := "SnowRecorderModel", name := "draw", desc := "(I)I" } : Jvm.MethodName) ({ cls := "SnowRecorderModel", name := "draw", desc := "(I)I" } : Jvm.MethodName) ∈ AW := AW_m 118 (by decide +kernel) (by decide +kernel)
theorem hd_yX10_draw : yX10_draw.cls ≠ "java/lang/invoke/MethodHandle" ∧ yX10_draw.cls ≠ "java/lang/invoke/VarHandle" ∧ (parseMethodDescriptor yX10_draw.desc).map (fun d => d.parameters.length) = some 1 := by decide +kernel
theorem hd_yX10_year : yX10_year.cls ≠ "java/lang/invoke/MethodHandle" ∧ yX10_year.cls ≠ "java/lang/invoke/VarHandle" ∧ (parseMethodDescriptor yX10_year.desc).map (fun d => d.parameters.length) = some 0 := by decide +kernel
theorem hd_yX10_isNoted : yX10_isNoted.cls ≠ "java/lang/invoke/MethodHandle" ∧ yX10_isNoted.cls ≠ "java/lang/invoke/VarHandle" ∧ (parseMethodDescriptor yX10_isNoted.desc).map (fun d => d.parameters.length) = some 0 := by decide +kernel
theorem hd_yX10_isGuess : yX10_isGuess.cls ≠ "java/lang/invoke/MethodHandle" ∧ yX10_isGuess.cls ≠ "java/lang/invoke/VarHandle" ∧ (parseMethodDescriptor yX10_isGuess.desc).map (fun d => d.parameters.length) = some 2 := by decide +kernel
theorem hd_yX10_unlike : yX10_unlike.cls ≠ "java/lang/invoke/MethodHandle" ∧ yX10_unlike.cls ≠ "java/lang/invoke/VarHandle" ∧ (parseMethodDescriptor yX10_unlike.desc).map (fun d => d.parameters.length) = some 2 := by decide +kernel
theorem mv_yX10_draw : zWv yX10_draw cX10_draw 2 (some .int) := ⟨q_2109, s_118, q_15, q_2110⟩
theorem mv_yX10_year : zWv yX10_year cX10_year 3 none := ⟨q_2105, s_117, q_15, q_2106⟩
theorem mv_yX10_isNoted : zWv yX10_isNoted cX10_isNoted 4 (some .boolean) := ⟨q_2077, s_114, q_15, q_2078⟩
theorem mv_yX10_isGuess : zWv yX10_isGuess cX10_isGuess 4 (some .boolean) := ⟨q_2081, s_115, q_15, q_2082⟩
theorem mv_yX10_unlike : zWv yX10_unlike cX10_unlike 7 (some .int) := ⟨q_2089, s_116, q_15, q_2090⟩
