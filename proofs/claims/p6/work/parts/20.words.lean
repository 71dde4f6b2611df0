-- words of packm
theorem q_21 : (Jvm.Cond.initialized "java/lang/System") ∈ AW := AW_m1 21 (by decide +kernel) (by decide +kernel)
theorem q_428 : (Jvm.Cond.methodLink "SnowRecorder$Pack" (22 : Nat) ({ cls := "java/lang/System", name := "arraycopy", desc := "(Ljava/lang/Object;ILjava/lang/Object;II)V" } : Jvm.MethodName)) ∈ AW := AW_m2 188 (by decide +kernel) (by decide +kernel)
theorem q_429 : (Jvm.Cond.static ({ cls := "java/lang/System", name := "arraycopy", desc := "(Ljava/lang/Object;ILjava/lang/Object;II)V" } : Jvm.MethodName)) ∈ AW := AW_m2 189 (by decide +kernel) (by decide +kernel)
theorem q_430 : (Jvm.Cond.native ({ cls := "java/lang/System", name := "arraycopy", desc := "(Ljava/lang/Object;ILjava/lang/Object;II)V" } : Jvm.MethodName)) ∈ AW := AW_m2 190 (by decide +kernel) (by decide +kernel)
theorem q_459 : (Jvm.Cond.instanceMethod ({ cls := "SnowRecorder$Pack", name := "wet", desc := "(II)V" } : Jvm.MethodName)) ∈ AW := AW_m2 219 (by decide +kernel) (by decide +kernel)
theorem q_460 : (Jvm.Cond.selects "SnowRecorder$Pack" ({ cls := "SnowRecorder$Pack", name := "wet", desc := "(II)V" } : Jvm.MethodName) ({ cls := "SnowRecorder$Pack", name := "wet", desc := "(II)V" } : Jvm.MethodName)) ∈ AW := AW_m2 220 (by decide +kernel) (by decide +kernel)
theorem q_461 : (Jvm.Cond.code ({ cls := "SnowRecorder$Pack", name := "wet", desc := "(II)V" } : Jvm.MethodName) prog_5_method_12_code (3 : Nat) (Option.none : Option Jvm.ClassFile.FieldType)) ∈ AW := AW_m2 221 (by decide +kernel) (by decide +kernel)
theorem q_469 : (Jvm.Cond.methodLink "SnowRecorder$Pack" (40 : Nat) ({ cls := "java/lang/Math", name := "max", desc := "(II)I" } : Jvm.MethodName)) ∈ AW := AW_m2 229 (by decide +kernel) (by decide +kernel)
theorem q_470 : (Jvm.Cond.static ({ cls := "java/lang/Math", name := "max", desc := "(II)I" } : Jvm.MethodName)) ∈ AW := AW_m2 230 (by decide +kernel) (by decide +kernel)
theorem q_471 : (Jvm.Cond.code ({ cls := "java/lang/Math", name := "max", desc := "(II)I" } : Jvm.MethodName) prog_22_method_65_code (2 : Nat) (Option.some Jvm.ClassFile.FieldType.int)) ∈ AW := AW_m2 231 (by decide +kernel) (by decide +kernel)
theorem q_484 : (Jvm.Cond.methodLink "SnowRecorder$Pack" (49 : Nat) ({ cls := "SnowRecorder$Pack", name := "wet", desc := "(II)V" } : Jvm.MethodName)) ∈ AW := AW_m3 4 (by decide +kernel) (by decide +kernel)
theorem q_497 : (Jvm.Cond.methodLink "SnowRecorder$Pack" (53 : Nat) ({ cls := "SnowRecorder$Pack", name := "freeze", desc := "(I)V" } : Jvm.MethodName)) ∈ AW := AW_m3 17 (by decide +kernel) (by decide +kernel)
theorem q_499 : (Jvm.Cond.instanceMethod ({ cls := "SnowRecorder$Pack", name := "freeze", desc := "(I)V" } : Jvm.MethodName)) ∈ AW := AW_m3 19 (by decide +kernel) (by decide +kernel)
theorem q_500 : (Jvm.Cond.code ({ cls := "SnowRecorder$Pack", name := "freeze", desc := "(I)V" } : Jvm.MethodName) prog_5_method_17_code (5 : Nat) (Option.none : Option Jvm.ClassFile.FieldType)) ∈ AW := AW_m3 20 (by decide +kernel) (by decide +kernel)
theorem q_514 : (Jvm.Cond.methodLink "SnowRecorder$Pack" (64 : Nat) ({ cls := "java/lang/Math", name := "max", desc := "(JJ)J" } : Jvm.MethodName)) ∈ AW := AW_m3 34 (by decide +kernel) (by decide +kernel)
theorem q_515 : (Jvm.Cond.static ({ cls := "java/lang/Math", name := "max", desc := "(JJ)J" } : Jvm.MethodName)) ∈ AW := AW_m3 35 (by decide +kernel) (by decide +kernel)
theorem q_516 : (Jvm.Cond.code ({ cls := "java/lang/Math", name := "max", desc := "(JJ)J" } : Jvm.MethodName) prog_22_method_66_code (4 : Nat) (Option.some Jvm.ClassFile.FieldType.long)) ∈ AW := AW_m3 36 (by decide +kernel) (by decide +kernel)
theorem q_521 : (Jvm.Cond.methodLink "SnowRecorder$Pack" (67 : Nat) ({ cls := "SnowRecorder$Pack", name := "grade", desc := "(II)I" } : Jvm.MethodName)) ∈ AW := AW_m3 41 (by decide +kernel) (by decide +kernel)
theorem q_522 : (Jvm.Cond.instanceMethod ({ cls := "SnowRecorder$Pack", name := "grade", desc := "(II)I" } : Jvm.MethodName)) ∈ AW := AW_m3 42 (by decide +kernel) (by decide +kernel)
theorem q_523 : (Jvm.Cond.selects "SnowRecorder$Pack" ({ cls := "SnowRecorder$Pack", name := "grade", desc := "(II)I" } : Jvm.MethodName) ({ cls := "SnowRecorder$Pack", name := "grade", desc := "(II)I" } : Jvm.MethodName)) ∈ AW := AW_m3 43 (by decide +kernel) (by decide +kernel)
theorem q_524 : (Jvm.Cond.code ({ cls := "SnowRecorder$Pack", name := "grade", desc := "(II)I" } : Jvm.MethodName) prog_5_method_21_code (5 : Nat) (Option.some Jvm.ClassFile.FieldType.int)) ∈ AW := AW_m3 44 (by decide +kernel) (by decide +kernel)
theorem q_529 : (Jvm.Cond.methodLink "SnowRecorder$Pack" (70 : Nat) ({ cls := "SnowRecorder$Pack", name := "nextKind", desc := "(II)I" } : Jvm.MethodName)) ∈ AW := AW_m3 49 (by decide +kernel) (by decide +kernel)
theorem q_531 : (Jvm.Cond.instanceMethod ({ cls := "SnowRecorder$Pack", name := "nextKind", desc := "(II)I" } : Jvm.MethodName)) ∈ AW := AW_m3 51 (by decide +kernel) (by decide +kernel)
theorem q_532 : (Jvm.Cond.code ({ cls := "SnowRecorder$Pack", name := "nextKind", desc := "(II)I" } : Jvm.MethodName) prog_5_method_20_code (5 : Nat) (Option.some Jvm.ClassFile.FieldType.int)) ∈ AW := AW_m3 52 (by decide +kernel) (by decide +kernel)
theorem s_3 : Cond.selects "SnowRecorder$Pack" ({ cls := "SnowRecorder$Pack", name := "freeze", desc := "(I)V" } : Jvm.MethodName) ({ cls := "SnowRecorder$Pack", name := "freeze", desc := "(I)V" } : Jvm.MethodName) ∈ AW := AW_m 3 (by decide +kernel) (by decide +kernel)
theorem s_4 : Cond.selects "SnowRecorder$Pack" ({ cls := "SnowRecorder$Pack", name := "nextKind", desc := "(II)I" } : Jvm.MethodName) ({ cls := "SnowRecorder$Pack", name := "nextKind", desc := "(II)I" } : Jvm.MethodName) ∈ AW := AW_m 4 (by decide +kernel) (by decide +kernel)
theorem hd_yX3_wet : yX3_wet.cls ≠ "java/lang/invoke/MethodHandle" ∧ yX3_wet.cls ≠ "java/lang/invoke/VarHandle" ∧ (parseMethodDescriptor yX3_wet.desc).map (fun d => d.parameters.length) = some 2 := by decide +kernel
theorem hd_yX3_freeze : yX3_freeze.cls ≠ "java/lang/invoke/MethodHandle" ∧ yX3_freeze.cls ≠ "java/lang/invoke/VarHandle" ∧ (parseMethodDescriptor yX3_freeze.desc).map (fun d => d.parameters.length) = some 1 := by decide +kernel
theorem hd_yX3_grade : yX3_grade.cls ≠ "java/lang/invoke/MethodHandle" ∧ yX3_grade.cls ≠ "java/lang/invoke/VarHandle" ∧ (parseMethodDescriptor yX3_grade.desc).map (fun d => d.parameters.length) = some 2 := by decide +kernel
theorem hd_yX3_nextKind : yX3_nextKind.cls ≠ "java/lang/invoke/MethodHandle" ∧ yX3_nextKind.cls ≠ "java/lang/invoke/VarHandle" ∧ (parseMethodDescriptor yX3_nextKind.desc).map (fun d => d.parameters.length) = some 2 := by decide +kernel
theorem mv_yX3_wet : zWv yX3_wet cX3_wet 3 none := ⟨q_459, q_460, q_6, q_461⟩
theorem mv_yX3_freeze : zWv yX3_freeze cX3_freeze 5 none := ⟨q_499, s_3, q_6, q_500⟩
theorem mv_yX3_grade : zWv yX3_grade cX3_grade 5 (some .int) := ⟨q_522, q_523, q_6, q_524⟩
theorem mv_yX3_nextKind : zWv yX3_nextKind cX3_nextKind 5 (some .int) := ⟨q_531, s_4, q_6, q_532⟩
