-- words of world
theorem q_21 : (Jvm.Cond.initialized "java/lang/System") ∈ AW := AW_m 140 (by decide +kernel) (by decide +kernel)
theorem q_424 : (Jvm.Cond.methodLink "SnowRecorder$World" (40 : Nat) ({ cls := "SnowRecorder$Pack", name := "copyFrom", desc := "(LSnowRecorder$Pack;)V" } : Jvm.MethodName)) ∈ AW := AW_m 543 (by decide +kernel) (by decide +kernel)
theorem q_425 : (Jvm.Cond.instanceMethod ({ cls := "SnowRecorder$Pack", name := "copyFrom", desc := "(LSnowRecorder$Pack;)V" } : Jvm.MethodName)) ∈ AW := AW_m 544 (by decide +kernel) (by decide +kernel)
theorem q_426 : (Jvm.Cond.selects "SnowRecorder$Pack" ({ cls := "SnowRecorder$Pack", name := "copyFrom", desc := "(LSnowRecorder$Pack;)V" } : Jvm.MethodName) ({ cls := "SnowRecorder$Pack", name := "copyFrom", desc := "(LSnowRecorder$Pack;)V" } : Jvm.MethodName)) ∈ AW := AW_m 545 (by decide +kernel) (by decide +kernel)
theorem q_427 : (Jvm.Cond.code ({ cls := "SnowRecorder$Pack", name := "copyFrom", desc := "(LSnowRecorder$Pack;)V" } : Jvm.MethodName) prog_5_method_3_code (2 : Nat) (Option.none : Option Jvm.ClassFile.FieldType)) ∈ AW := AW_m 546 (by decide +kernel) (by decide +kernel)
theorem q_428 : (Jvm.Cond.methodLink "SnowRecorder$Pack" (22 : Nat) ({ cls := "java/lang/System", name := "arraycopy", desc := "(Ljava/lang/Object;ILjava/lang/Object;II)V" } : Jvm.MethodName)) ∈ AW := AW_m 547 (by decide +kernel) (by decide +kernel)
theorem q_429 : (Jvm.Cond.static ({ cls := "java/lang/System", name := "arraycopy", desc := "(Ljava/lang/Object;ILjava/lang/Object;II)V" } : Jvm.MethodName)) ∈ AW := AW_m 548 (by decide +kernel) (by decide +kernel)
theorem q_430 : (Jvm.Cond.native ({ cls := "java/lang/System", name := "arraycopy", desc := "(Ljava/lang/Object;ILjava/lang/Object;II)V" } : Jvm.MethodName)) ∈ AW := AW_m 549 (by decide +kernel) (by decide +kernel)
theorem hd_yX3_copyFrom : yX3_copyFrom.cls ≠ "java/lang/invoke/MethodHandle" ∧ yX3_copyFrom.cls ≠ "java/lang/invoke/VarHandle" ∧ (parseMethodDescriptor yX3_copyFrom.desc).map (fun d => d.parameters.length) = some 1 := by decide +kernel
theorem mv_yX3_copyFrom : zWv yX3_copyFrom cX3_copyFrom 2 none := ⟨q_425, q_426, q_6, q_427⟩
