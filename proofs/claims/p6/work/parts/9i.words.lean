-- words and decode rows of the start
theorem q_1449 : (Jvm.Cond.classLink "SnowRecorderLaw" (80 : Nat) "SnowRecorderModel") ∈ AW := AW_m7 9 (by decide +kernel) (by decide +kernel)
theorem q_1450 : (Jvm.Cond.instantiable "SnowRecorderModel" (60 : Nat)) ∈ AW := AW_m7 10 (by decide +kernel) (by decide +kernel)
theorem q_1451 : (Jvm.Cond.methodLink "SnowRecorderLaw" (82 : Nat) ({ cls := "SnowRecorderModel", name := "<init>", desc := "()V" } : Jvm.MethodName)) ∈ AW := AW_m7 11 (by decide +kernel) (by decide +kernel)
theorem q_1452 : (Jvm.Cond.instanceMethod ({ cls := "SnowRecorderModel", name := "<init>", desc := "()V" } : Jvm.MethodName)) ∈ AW := AW_m7 12 (by decide +kernel) (by decide +kernel)
theorem q_1453 : (Jvm.Cond.code ({ cls := "SnowRecorderModel", name := "<init>", desc := "()V" } : Jvm.MethodName) prog_12_method_1_code (1 : Nat) (Option.none : Option Jvm.ClassFile.FieldType)) ∈ AW := AW_m7 13 (by decide +kernel) (by decide +kernel)
theorem q_2120 : (Jvm.Cond.arrayClass Jvm.ClassFile.FieldType.long) ∈ AW := AW_m9 200 (by decide +kernel) (by decide +kernel)
theorem q_29 : (Jvm.Cond.classLink "SnowRecorderLaw" (8 : Nat) "SnowRecorder") ∈ AW := AW_m1 29 (by decide +kernel) (by decide +kernel)
theorem q_30 : (Jvm.Cond.instantiable "SnowRecorder" (14 : Nat)) ∈ AW := AW_m1 30 (by decide +kernel) (by decide +kernel)
theorem q_31 : (Jvm.Cond.methodLink "SnowRecorderLaw" (79 : Nat) ({ cls := "SnowRecorder", name := "<init>", desc := "()V" } : Jvm.MethodName)) ∈ AW := AW_m1 31 (by decide +kernel) (by decide +kernel)
theorem q_32 : (Jvm.Cond.instanceMethod ({ cls := "SnowRecorder", name := "<init>", desc := "()V" } : Jvm.MethodName)) ∈ AW := AW_m1 32 (by decide +kernel) (by decide +kernel)
theorem q_33 : (Jvm.Cond.code ({ cls := "SnowRecorder", name := "<init>", desc := "()V" } : Jvm.MethodName) prog_1_method_1_code (1 : Nat) (Option.none : Option Jvm.ClassFile.FieldType)) ∈ AW := AW_m1 33 (by decide +kernel) (by decide +kernel)
theorem mi_yX9_init : zWi yX9_init cX9_init 1 := ⟨q_32, q_1, q_33⟩
theorem mi_yX10_init : zWi yX10_init cX10_init 1 := ⟨q_1452, q_15, q_1453⟩
theorem dL_law_0 : decode cL_law 0 = .ok (.new 8, 3) := by decide +kernel
theorem dL_law_3 : decode cL_law 3 = .ok (.dup, 1) := by decide +kernel
theorem dL_law_4 : decode cL_law 4 = .ok (.invokespecial 79, 3) := by decide +kernel
theorem dL_law_7 : decode cL_law 7 = .ok (.astore_n 1, 1) := by decide +kernel
theorem dL_law_8 : decode cL_law 8 = .ok (.new 80, 3) := by decide +kernel
theorem dL_law_11 : decode cL_law 11 = .ok (.dup, 1) := by decide +kernel
theorem dL_law_12 : decode cL_law 12 = .ok (.invokespecial 82, 3) := by decide +kernel
theorem dL_law_15 : decode cL_law 15 = .ok (.astore_n 2, 1) := by decide +kernel
theorem dL_law_16 : decode cL_law 16 = .ok (.iconst 1, 1) := by decide +kernel
theorem dL_law_17 : decode cL_law 17 = .ok (.newarray .long, 2) := by decide +kernel
theorem dL_law_19 : decode cL_law 19 = .ok (.astore_n 3, 1) := by decide +kernel
theorem dL_law_20 : decode cL_law 20 = .ok (.iconst 0, 1) := by decide +kernel
theorem dL_law_21 : decode cL_law 21 = .ok (.istore 4, 2) := by decide +kernel
