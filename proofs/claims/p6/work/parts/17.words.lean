-- words of pack
theorem n_466 : (Jvm.Cond.methodLinkNest "SnowRecorder$Pack" (36 : Nat) ({ cls := "SnowRecorder", name := "part", desc := "(JJ)I" } : Jvm.MethodName) "SnowRecorder") ∈ NW := NW_m2 226 (by decide +kernel) (by decide +kernel)
theorem n_568 : (Jvm.Cond.methodLinkNest "SnowRecorder$Pack" (88 : Nat) ({ cls := "SnowRecorder", name := "burden", desc := "(II)I" } : Jvm.MethodName) "SnowRecorder") ∈ NW := NW_m3 88 (by decide +kernel) (by decide +kernel)
theorem q_1 : (Jvm.Cond.initialized "SnowRecorder") ∈ AW := AW_m1 1 (by decide +kernel) (by decide +kernel)
theorem q_1253 : (Jvm.Cond.instanceMethod ({ cls := "SnowRecorder$Pack", name := "has", desc := "(I)Z" } : Jvm.MethodName)) ∈ AW := AW_m6 53 (by decide +kernel) (by decide +kernel)
theorem q_1254 : (Jvm.Cond.selects "SnowRecorder$Pack" ({ cls := "SnowRecorder$Pack", name := "has", desc := "(I)Z" } : Jvm.MethodName) ({ cls := "SnowRecorder$Pack", name := "has", desc := "(I)Z" } : Jvm.MethodName)) ∈ AW := AW_m6 54 (by decide +kernel) (by decide +kernel)
theorem q_1255 : (Jvm.Cond.code ({ cls := "SnowRecorder$Pack", name := "has", desc := "(I)Z" } : Jvm.MethodName) prog_5_method_8_code (3 : Nat) (Option.some Jvm.ClassFile.FieldType.boolean)) ∈ AW := AW_m6 55 (by decide +kernel) (by decide +kernel)
theorem q_1333 : (Jvm.Cond.methodLink "SnowRecorder$Pack" (32 : Nat) ({ cls := "SnowRecorder$Pack", name := "has", desc := "(I)Z" } : Jvm.MethodName)) ∈ AW := AW_m6 133 (by decide +kernel) (by decide +kernel)
theorem q_20 : (Jvm.Cond.initialized "java/lang/Math") ∈ AW := AW_m1 20 (by decide +kernel) (by decide +kernel)
theorem q_467 : (Jvm.Cond.static ({ cls := "SnowRecorder", name := "part", desc := "(JJ)I" } : Jvm.MethodName)) ∈ AW := AW_m2 227 (by decide +kernel) (by decide +kernel)
theorem q_468 : (Jvm.Cond.code ({ cls := "SnowRecorder", name := "part", desc := "(JJ)I" } : Jvm.MethodName) prog_1_method_63_code (4 : Nat) (Option.some Jvm.ClassFile.FieldType.int)) ∈ AW := AW_m2 228 (by decide +kernel) (by decide +kernel)
theorem q_473 : (Jvm.Cond.static ({ cls := "java/lang/Math", name := "min", desc := "(II)I" } : Jvm.MethodName)) ∈ AW := AW_m2 233 (by decide +kernel) (by decide +kernel)
theorem q_474 : (Jvm.Cond.code ({ cls := "java/lang/Math", name := "min", desc := "(II)I" } : Jvm.MethodName) prog_22_method_69_code (2 : Nat) (Option.some Jvm.ClassFile.FieldType.int)) ∈ AW := AW_m2 234 (by decide +kernel) (by decide +kernel)
theorem q_483 : (Jvm.Cond.methodLink "SnowRecorder$Pack" (46 : Nat) ({ cls := "java/lang/Math", name := "min", desc := "(II)I" } : Jvm.MethodName)) ∈ AW := AW_m3 3 (by decide +kernel) (by decide +kernel)
theorem q_501 : (Jvm.Cond.constantLong "SnowRecorder$Pack" (62 : Nat) (100 : Int64)) ∈ AW := AW_m3 21 (by decide +kernel) (by decide +kernel)
theorem q_502 : (Jvm.Cond.methodLink "SnowRecorder$Pack" (57 : Nat) ({ cls := "SnowRecorder$Plan", name := "of", desc := "(II)I" } : Jvm.MethodName)) ∈ AW := AW_m3 22 (by decide +kernel) (by decide +kernel)
theorem q_503 : (Jvm.Cond.instanceMethod ({ cls := "SnowRecorder$Plan", name := "of", desc := "(II)I" } : Jvm.MethodName)) ∈ AW := AW_m3 23 (by decide +kernel) (by decide +kernel)
theorem q_504 : (Jvm.Cond.selects "SnowRecorder$Plan" ({ cls := "SnowRecorder$Plan", name := "of", desc := "(II)I" } : Jvm.MethodName) ({ cls := "SnowRecorder$Plan", name := "of", desc := "(II)I" } : Jvm.MethodName)) ∈ AW := AW_m3 24 (by decide +kernel) (by decide +kernel)
theorem q_505 : (Jvm.Cond.code ({ cls := "SnowRecorder$Plan", name := "of", desc := "(II)I" } : Jvm.MethodName) prog_7_method_9_code (4 : Nat) (Option.some Jvm.ClassFile.FieldType.int)) ∈ AW := AW_m3 25 (by decide +kernel) (by decide +kernel)
theorem q_510 : (Jvm.Cond.methodLink "SnowRecorder$Pack" (28 : Nat) ({ cls := "SnowRecorder$Pack", name := "mass", desc := "(I)I" } : Jvm.MethodName)) ∈ AW := AW_m3 30 (by decide +kernel) (by decide +kernel)
theorem q_511 : (Jvm.Cond.instanceMethod ({ cls := "SnowRecorder$Pack", name := "mass", desc := "(I)I" } : Jvm.MethodName)) ∈ AW := AW_m3 31 (by decide +kernel) (by decide +kernel)
theorem q_512 : (Jvm.Cond.selects "SnowRecorder$Pack" ({ cls := "SnowRecorder$Pack", name := "mass", desc := "(I)I" } : Jvm.MethodName) ({ cls := "SnowRecorder$Pack", name := "mass", desc := "(I)I" } : Jvm.MethodName)) ∈ AW := AW_m3 32 (by decide +kernel) (by decide +kernel)
theorem q_513 : (Jvm.Cond.code ({ cls := "SnowRecorder$Pack", name := "mass", desc := "(I)I" } : Jvm.MethodName) prog_5_method_5_code (2 : Nat) (Option.some Jvm.ClassFile.FieldType.int)) ∈ AW := AW_m3 33 (by decide +kernel) (by decide +kernel)
theorem q_525 : (Jvm.Cond.constantLong "SnowRecorder$Pack" (73 : Nat) (10 : Int64)) ∈ AW := AW_m3 45 (by decide +kernel) (by decide +kernel)
theorem q_526 : (Jvm.Cond.methodLink "SnowRecorder$Pack" (75 : Nat) ({ cls := "java/lang/Math", name := "abs", desc := "(I)I" } : Jvm.MethodName)) ∈ AW := AW_m3 46 (by decide +kernel) (by decide +kernel)
theorem q_527 : (Jvm.Cond.static ({ cls := "java/lang/Math", name := "abs", desc := "(I)I" } : Jvm.MethodName)) ∈ AW := AW_m3 47 (by decide +kernel) (by decide +kernel)
theorem q_528 : (Jvm.Cond.code ({ cls := "java/lang/Math", name := "abs", desc := "(I)I" } : Jvm.MethodName) prog_22_method_59_code (1 : Nat) (Option.some Jvm.ClassFile.FieldType.int)) ∈ AW := AW_m3 48 (by decide +kernel) (by decide +kernel)
theorem q_569 : (Jvm.Cond.static ({ cls := "SnowRecorder", name := "burden", desc := "(II)I" } : Jvm.MethodName)) ∈ AW := AW_m3 89 (by decide +kernel) (by decide +kernel)
theorem q_570 : (Jvm.Cond.code ({ cls := "SnowRecorder", name := "burden", desc := "(II)I" } : Jvm.MethodName) prog_1_method_64_code (2 : Nat) (Option.some Jvm.ClassFile.FieldType.int)) ∈ AW := AW_m3 90 (by decide +kernel) (by decide +kernel)
theorem q_571 : (Jvm.Cond.constantLong "SnowRecorder" (505 : Nat) (100 : Int64)) ∈ AW := AW_m3 91 (by decide +kernel) (by decide +kernel)
theorem q_572 : (Jvm.Cond.methodLink "SnowRecorder" (507 : Nat) ({ cls := "SnowRecorder", name := "part", desc := "(JJ)I" } : Jvm.MethodName)) ∈ AW := AW_m3 92 (by decide +kernel) (by decide +kernel)
theorem q_573 : (Jvm.Cond.methodLink "SnowRecorder$Pack" (91 : Nat) ({ cls := "SnowRecorder$Pack", name := "ratio", desc := "(IILSnowRecorder$Plan;)I" } : Jvm.MethodName)) ∈ AW := AW_m3 93 (by decide +kernel) (by decide +kernel)
theorem q_574 : (Jvm.Cond.instanceMethod ({ cls := "SnowRecorder$Pack", name := "ratio", desc := "(IILSnowRecorder$Plan;)I" } : Jvm.MethodName)) ∈ AW := AW_m3 94 (by decide +kernel) (by decide +kernel)
theorem q_575 : (Jvm.Cond.selects "SnowRecorder$Pack" ({ cls := "SnowRecorder$Pack", name := "ratio", desc := "(IILSnowRecorder$Plan;)I" } : Jvm.MethodName) ({ cls := "SnowRecorder$Pack", name := "ratio", desc := "(IILSnowRecorder$Plan;)I" } : Jvm.MethodName)) ∈ AW := AW_m3 95 (by decide +kernel) (by decide +kernel)
theorem q_576 : (Jvm.Cond.code ({ cls := "SnowRecorder$Pack", name := "ratio", desc := "(IILSnowRecorder$Plan;)I" } : Jvm.MethodName) prog_5_method_23_code (4 : Nat) (Option.some Jvm.ClassFile.FieldType.int)) ∈ AW := AW_m3 96 (by decide +kernel) (by decide +kernel)
theorem q_577 : (Jvm.Cond.methodLink "SnowRecorder$Pack" (80 : Nat) ({ cls := "SnowRecorder$Pack", name := "strength", desc := "(ILSnowRecorder$Plan;)I" } : Jvm.MethodName)) ∈ AW := AW_m3 97 (by decide +kernel) (by decide +kernel)
theorem q_578 : (Jvm.Cond.instanceMethod ({ cls := "SnowRecorder$Pack", name := "strength", desc := "(ILSnowRecorder$Plan;)I" } : Jvm.MethodName)) ∈ AW := AW_m3 98 (by decide +kernel) (by decide +kernel)
theorem q_579 : (Jvm.Cond.selects "SnowRecorder$Pack" ({ cls := "SnowRecorder$Pack", name := "strength", desc := "(ILSnowRecorder$Plan;)I" } : Jvm.MethodName) ({ cls := "SnowRecorder$Pack", name := "strength", desc := "(ILSnowRecorder$Plan;)I" } : Jvm.MethodName)) ∈ AW := AW_m3 99 (by decide +kernel) (by decide +kernel)
theorem q_580 : (Jvm.Cond.code ({ cls := "SnowRecorder$Pack", name := "strength", desc := "(ILSnowRecorder$Plan;)I" } : Jvm.MethodName) prog_5_method_22_code (6 : Nat) (Option.some Jvm.ClassFile.FieldType.int)) ∈ AW := AW_m3 100 (by decide +kernel) (by decide +kernel)
theorem q_581 : (Jvm.Cond.constantLong "SnowRecorder$Pack" (78 : Nat) (3 : Int64)) ∈ AW := AW_m3 101 (by decide +kernel) (by decide +kernel)
theorem q_582 : (Jvm.Cond.constantLong "SnowRecorder$Pack" (84 : Nat) (9999 : Int64)) ∈ AW := AW_m3 102 (by decide +kernel) (by decide +kernel)
theorem q_583 : (Jvm.Cond.methodLink "SnowRecorder$Pack" (86 : Nat) ({ cls := "java/lang/Math", name := "min", desc := "(JJ)J" } : Jvm.MethodName)) ∈ AW := AW_m3 103 (by decide +kernel) (by decide +kernel)
theorem q_584 : (Jvm.Cond.static ({ cls := "java/lang/Math", name := "min", desc := "(JJ)J" } : Jvm.MethodName)) ∈ AW := AW_m3 104 (by decide +kernel) (by decide +kernel)
theorem q_585 : (Jvm.Cond.code ({ cls := "java/lang/Math", name := "min", desc := "(JJ)J" } : Jvm.MethodName) prog_22_method_70_code (4 : Nat) (Option.some Jvm.ClassFile.FieldType.long)) ∈ AW := AW_m3 105 (by decide +kernel) (by decide +kernel)
theorem q_591 : (Jvm.Cond.instanceMethod ({ cls := "SnowRecorder$Pack", name := "weakest", desc := "(ILSnowRecorder$Plan;)I" } : Jvm.MethodName)) ∈ AW := AW_m3 111 (by decide +kernel) (by decide +kernel)
theorem q_592 : (Jvm.Cond.selects "SnowRecorder$Pack" ({ cls := "SnowRecorder$Pack", name := "weakest", desc := "(ILSnowRecorder$Plan;)I" } : Jvm.MethodName) ({ cls := "SnowRecorder$Pack", name := "weakest", desc := "(ILSnowRecorder$Plan;)I" } : Jvm.MethodName)) ∈ AW := AW_m3 112 (by decide +kernel) (by decide +kernel)
theorem q_593 : (Jvm.Cond.code ({ cls := "SnowRecorder$Pack", name := "weakest", desc := "(ILSnowRecorder$Plan;)I" } : Jvm.MethodName) prog_5_method_24_code (8 : Nat) (Option.some Jvm.ClassFile.FieldType.int)) ∈ AW := AW_m3 113 (by decide +kernel) (by decide +kernel)
theorem q_595 : (Jvm.Cond.instanceMethod ({ cls := "SnowRecorder$Pack", name := "massAbove", desc := "(I)I" } : Jvm.MethodName)) ∈ AW := AW_m3 115 (by decide +kernel) (by decide +kernel)
theorem q_596 : (Jvm.Cond.selects "SnowRecorder$Pack" ({ cls := "SnowRecorder$Pack", name := "massAbove", desc := "(I)I" } : Jvm.MethodName) ({ cls := "SnowRecorder$Pack", name := "massAbove", desc := "(I)I" } : Jvm.MethodName)) ∈ AW := AW_m3 116 (by decide +kernel) (by decide +kernel)
theorem q_597 : (Jvm.Cond.code ({ cls := "SnowRecorder$Pack", name := "massAbove", desc := "(I)I" } : Jvm.MethodName) prog_5_method_6_code (4 : Nat) (Option.some Jvm.ClassFile.FieldType.int)) ∈ AW := AW_m3 117 (by decide +kernel) (by decide +kernel)
theorem q_902 : (Jvm.Cond.methodLink "SnowRecorder$Pack" (95 : Nat) ({ cls := "SnowRecorder$Pack", name := "weakest", desc := "(ILSnowRecorder$Plan;)I" } : Jvm.MethodName)) ∈ AW := AW_m4 182 (by decide +kernel) (by decide +kernel)
theorem q_903 : (Jvm.Cond.methodLink "SnowRecorder$Pack" (98 : Nat) ({ cls := "SnowRecorder$Pack", name := "massAbove", desc := "(I)I" } : Jvm.MethodName)) ∈ AW := AW_m4 183 (by decide +kernel) (by decide +kernel)
theorem hd_yX9_part : yX9_part.cls ≠ "java/lang/invoke/MethodHandle" ∧ yX9_part.cls ≠ "java/lang/invoke/VarHandle" ∧ (parseMethodDescriptor yX9_part.desc).map (fun d => d.parameters.length) = some 2 := by decide +kernel
theorem hd_yX3_mass : yX3_mass.cls ≠ "java/lang/invoke/MethodHandle" ∧ yX3_mass.cls ≠ "java/lang/invoke/VarHandle" ∧ (parseMethodDescriptor yX3_mass.desc).map (fun d => d.parameters.length) = some 1 := by decide +kernel
theorem hd_yX3_has : yX3_has.cls ≠ "java/lang/invoke/MethodHandle" ∧ yX3_has.cls ≠ "java/lang/invoke/VarHandle" ∧ (parseMethodDescriptor yX3_has.desc).map (fun d => d.parameters.length) = some 1 := by decide +kernel
theorem hd_yX5_of : yX5_of.cls ≠ "java/lang/invoke/MethodHandle" ∧ yX5_of.cls ≠ "java/lang/invoke/VarHandle" ∧ (parseMethodDescriptor yX5_of.desc).map (fun d => d.parameters.length) = some 2 := by decide +kernel
theorem hd_yX3_strength : yX3_strength.cls ≠ "java/lang/invoke/MethodHandle" ∧ yX3_strength.cls ≠ "java/lang/invoke/VarHandle" ∧ (parseMethodDescriptor yX3_strength.desc).map (fun d => d.parameters.length) = some 2 := by decide +kernel
theorem hd_yX9_burden : yX9_burden.cls ≠ "java/lang/invoke/MethodHandle" ∧ yX9_burden.cls ≠ "java/lang/invoke/VarHandle" ∧ (parseMethodDescriptor yX9_burden.desc).map (fun d => d.parameters.length) = some 2 := by decide +kernel
theorem hd_yX3_ratio : yX3_ratio.cls ≠ "java/lang/invoke/MethodHandle" ∧ yX3_ratio.cls ≠ "java/lang/invoke/VarHandle" ∧ (parseMethodDescriptor yX3_ratio.desc).map (fun d => d.parameters.length) = some 3 := by decide +kernel
theorem hd_yX3_weakest : yX3_weakest.cls ≠ "java/lang/invoke/MethodHandle" ∧ yX3_weakest.cls ≠ "java/lang/invoke/VarHandle" ∧ (parseMethodDescriptor yX3_weakest.desc).map (fun d => d.parameters.length) = some 2 := by decide +kernel
theorem hd_yX3_massAbove : yX3_massAbove.cls ≠ "java/lang/invoke/MethodHandle" ∧ yX3_massAbove.cls ≠ "java/lang/invoke/VarHandle" ∧ (parseMethodDescriptor yX3_massAbove.desc).map (fun d => d.parameters.length) = some 1 := by decide +kernel
theorem ms_yX9_part : zWs yX9_part cX9_part 4 (some .int) := ⟨q_467, q_1, q_468⟩
theorem mv_yX3_mass : zWv yX3_mass cX3_mass 2 (some .int) := ⟨q_511, q_512, q_6, q_513⟩
theorem mv_yX3_has : zWv yX3_has cX3_has 3 (some .boolean) := ⟨q_1253, q_1254, q_6, q_1255⟩
theorem mv_yX5_of : zWv yX5_of cX5_of 4 (some .int) := ⟨q_503, q_504, q_3, q_505⟩
theorem mv_yX3_strength : zWv yX3_strength cX3_strength 6 (some .int) := ⟨q_578, q_579, q_6, q_580⟩
theorem ms_yX9_burden : zWs yX9_burden cX9_burden 2 (some .int) := ⟨q_569, q_1, q_570⟩
theorem mv_yX3_ratio : zWv yX3_ratio cX3_ratio 4 (some .int) := ⟨q_574, q_575, q_6, q_576⟩
theorem mv_yX3_weakest : zWv yX3_weakest cX3_weakest 8 (some .int) := ⟨q_591, q_592, q_6, q_593⟩
theorem mv_yX3_massAbove : zWv yX3_massAbove cX3_massAbove 4 (some .int) := ⟨q_595, q_596, q_6, q_597⟩
