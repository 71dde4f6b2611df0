-- words of world
theorem q_1252 : (Jvm.Cond.methodLink "SnowRecorder$World" (54 : Nat) ({ cls := "SnowRecorder$Pack", name := "has", desc := "(I)Z" } : Jvm.MethodName)) ∈ AW := AW_m6 52 (by decide +kernel) (by decide +kernel)
theorem q_156 : (Jvm.Cond.fieldLink "SnowRecorder$World" (44 : Nat) "SnowRecorder$Pack" "size" "I") ∈ AW := AW_m1 156 (by decide +kernel) (by decide +kernel)
theorem q_160 : (Jvm.Cond.fieldLink "SnowRecorder$World" (47 : Nat) "SnowRecorder$Pack" "runoff" "I") ∈ AW := AW_m1 160 (by decide +kernel) (by decide +kernel)
theorem q_443 : (Jvm.Cond.methodLink "SnowRecorder$Plan" (60 : Nat) ({ cls := "java/lang/Math", name := "floorMod", desc := "(II)I" } : Jvm.MethodName)) ∈ AW := AW_m2 203 (by decide +kernel) (by decide +kernel)
theorem q_444 : (Jvm.Cond.static ({ cls := "java/lang/Math", name := "floorMod", desc := "(II)I" } : Jvm.MethodName)) ∈ AW := AW_m2 204 (by decide +kernel) (by decide +kernel)
theorem q_445 : (Jvm.Cond.code ({ cls := "java/lang/Math", name := "floorMod", desc := "(II)I" } : Jvm.MethodName) prog_22_method_50_code (3 : Nat) (Option.some Jvm.ClassFile.FieldType.int)) ∈ AW := AW_m2 205 (by decide +kernel) (by decide +kernel)
theorem q_890 : (Jvm.Cond.methodLink "SnowRecorder$World" (50 : Nat) ({ cls := "SnowRecorder$Pack", name := "sum", desc := "(I)I" } : Jvm.MethodName)) ∈ AW := AW_m4 170 (by decide +kernel) (by decide +kernel)
theorem q_891 : (Jvm.Cond.instanceMethod ({ cls := "SnowRecorder$Pack", name := "sum", desc := "(I)I" } : Jvm.MethodName)) ∈ AW := AW_m4 171 (by decide +kernel) (by decide +kernel)
theorem q_892 : (Jvm.Cond.selects "SnowRecorder$Pack" ({ cls := "SnowRecorder$Pack", name := "sum", desc := "(I)I" } : Jvm.MethodName) ({ cls := "SnowRecorder$Pack", name := "sum", desc := "(I)I" } : Jvm.MethodName)) ∈ AW := AW_m4 172 (by decide +kernel) (by decide +kernel)
theorem q_893 : (Jvm.Cond.code ({ cls := "SnowRecorder$Pack", name := "sum", desc := "(I)I" } : Jvm.MethodName) prog_5_method_4_code (4 : Nat) (Option.some Jvm.ClassFile.FieldType.int)) ∈ AW := AW_m4 173 (by decide +kernel) (by decide +kernel)
theorem hd_yJ9_floorMod_7cf53 : yJ9_floorMod_7cf53.cls ≠ "java/lang/invoke/MethodHandle" ∧ yJ9_floorMod_7cf53.cls ≠ "java/lang/invoke/VarHandle" ∧ (parseMethodDescriptor yJ9_floorMod_7cf53.desc).map (fun d => d.parameters.length) = some 2 := by decide +kernel
theorem hd_yX3_sum : yX3_sum.cls ≠ "java/lang/invoke/MethodHandle" ∧ yX3_sum.cls ≠ "java/lang/invoke/VarHandle" ∧ (parseMethodDescriptor yX3_sum.desc).map (fun d => d.parameters.length) = some 1 := by decide +kernel
theorem ms_yJ9_floorMod_7cf53 : zWs yJ9_floorMod_7cf53 cJ9_floorMod_7cf53 3 (some .int) := ⟨q_444, q_20, q_445⟩
theorem mv_yX3_sum : zWv yX3_sum cX3_sum 4 (some .int) := ⟨q_891, q_892, q_6, q_893⟩
