section
-- 50.words.lean.txt
-- words of acts
theorem q_1329 : (Jvm.Cond.methodLink "SnowRecorder" (356 : Nat) ({ cls := "SnowRecorder$Pack", name := "namesIn", desc := "(LSnowRecorder$Pack;)I" } : Jvm.MethodName)) ∈ AW := AW_m6 129 (by decide +kernel) (by decide +kernel)
theorem q_1330 : (Jvm.Cond.instanceMethod ({ cls := "SnowRecorder$Pack", name := "namesIn", desc := "(LSnowRecorder$Pack;)I" } : Jvm.MethodName)) ∈ AW := AW_m6 130 (by decide +kernel) (by decide +kernel)
theorem q_1331 : (Jvm.Cond.selects "SnowRecorder$Pack" ({ cls := "SnowRecorder$Pack", name := "namesIn", desc := "(LSnowRecorder$Pack;)I" } : Jvm.MethodName) ({ cls := "SnowRecorder$Pack", name := "namesIn", desc := "(LSnowRecorder$Pack;)I" } : Jvm.MethodName)) ∈ AW := AW_m6 131 (by decide +kernel) (by decide +kernel)
theorem q_1332 : (Jvm.Cond.code ({ cls := "SnowRecorder$Pack", name := "namesIn", desc := "(LSnowRecorder$Pack;)I" } : Jvm.MethodName) prog_5_method_9_code (4 : Nat) (Option.some Jvm.ClassFile.FieldType.int)) ∈ AW := AW_m6 132 (by decide +kernel) (by decide +kernel)
theorem q_1334 : (Jvm.Cond.methodLink "SnowRecorder" (360 : Nat) ({ cls := "SnowRecorder$Likeness", name := "longestRow", desc := "(LSnowRecorder$Pack;LSnowRecorder$Pack;)I" } : Jvm.MethodName)) ∈ AW := AW_m6 134 (by decide +kernel) (by decide +kernel)
theorem q_1335 : (Jvm.Cond.instanceMethod ({ cls := "SnowRecorder$Likeness", name := "longestRow", desc := "(LSnowRecorder$Pack;LSnowRecorder$Pack;)I" } : Jvm.MethodName)) ∈ AW := AW_m6 135 (by decide +kernel) (by decide +kernel)
theorem q_1336 : (Jvm.Cond.selects "SnowRecorder$Likeness" ({ cls := "SnowRecorder$Likeness", name := "longestRow", desc := "(LSnowRecorder$Pack;LSnowRecorder$Pack;)I" } : Jvm.MethodName) ({ cls := "SnowRecorder$Likeness", name := "longestRow", desc := "(LSnowRecorder$Pack;LSnowRecorder$Pack;)I" } : Jvm.MethodName)) ∈ AW := AW_m6 136 (by decide +kernel) (by decide +kernel)
theorem q_1337 : (Jvm.Cond.code ({ cls := "SnowRecorder$Likeness", name := "longestRow", desc := "(LSnowRecorder$Pack;LSnowRecorder$Pack;)I" } : Jvm.MethodName) prog_3_method_2_code (8 : Nat) (Option.some Jvm.ClassFile.FieldType.int)) ∈ AW := AW_m6 137 (by decide +kernel) (by decide +kernel)
theorem q_1339 : (Jvm.Cond.methodLink "SnowRecorder" (364 : Nat) ({ cls := "SnowRecorder$Likeness", name := "fewestSteps", desc := "(LSnowRecorder$Pack;LSnowRecorder$Pack;)I" } : Jvm.MethodName)) ∈ AW := AW_m6 139 (by decide +kernel) (by decide +kernel)
theorem q_1340 : (Jvm.Cond.instanceMethod ({ cls := "SnowRecorder$Likeness", name := "fewestSteps", desc := "(LSnowRecorder$Pack;LSnowRecorder$Pack;)I" } : Jvm.MethodName)) ∈ AW := AW_m6 140 (by decide +kernel) (by decide +kernel)
theorem q_1341 : (Jvm.Cond.selects "SnowRecorder$Likeness" ({ cls := "SnowRecorder$Likeness", name := "fewestSteps", desc := "(LSnowRecorder$Pack;LSnowRecorder$Pack;)I" } : Jvm.MethodName) ({ cls := "SnowRecorder$Likeness", name := "fewestSteps", desc := "(LSnowRecorder$Pack;LSnowRecorder$Pack;)I" } : Jvm.MethodName)) ∈ AW := AW_m6 141 (by decide +kernel) (by decide +kernel)
theorem q_1342 : (Jvm.Cond.code ({ cls := "SnowRecorder$Likeness", name := "fewestSteps", desc := "(LSnowRecorder$Pack;LSnowRecorder$Pack;)I" } : Jvm.MethodName) prog_3_method_3_code (9 : Nat) (Option.some Jvm.ClassFile.FieldType.int)) ∈ AW := AW_m6 142 (by decide +kernel) (by decide +kernel)
theorem q_1344 : (Jvm.Cond.methodLink "SnowRecorder" (367 : Nat) ({ cls := "SnowRecorder", name := "isSameWeakest", desc := "(LSnowRecorder$Pit;LSnowRecorder$Pit;)Z" } : Jvm.MethodName)) ∈ AW := AW_m6 144 (by decide +kernel) (by decide +kernel)
theorem q_1346 : (Jvm.Cond.instanceMethod ({ cls := "SnowRecorder", name := "isSameWeakest", desc := "(LSnowRecorder$Pit;LSnowRecorder$Pit;)Z" } : Jvm.MethodName)) ∈ AW := AW_m6 146 (by decide +kernel) (by decide +kernel)
theorem q_1347 : (Jvm.Cond.code ({ cls := "SnowRecorder", name := "isSameWeakest", desc := "(LSnowRecorder$Pit;LSnowRecorder$Pit;)Z" } : Jvm.MethodName) prog_1_method_50_code (5 : Nat) (Option.some Jvm.ClassFile.FieldType.boolean)) ∈ AW := AW_m6 147 (by decide +kernel) (by decide +kernel)
theorem q_396 : (Jvm.Cond.methodLink "SnowRecorder" (82 : Nat) ({ cls := "SnowRecorder", name := "putBytes", desc := "(I)V" } : Jvm.MethodName)) ∈ AW := AW_m2 156 (by decide +kernel) (by decide +kernel)
theorem q_398 : (Jvm.Cond.instanceMethod ({ cls := "SnowRecorder", name := "putBytes", desc := "(I)V" } : Jvm.MethodName)) ∈ AW := AW_m2 158 (by decide +kernel) (by decide +kernel)
theorem q_399 : (Jvm.Cond.code ({ cls := "SnowRecorder", name := "putBytes", desc := "(I)V" } : Jvm.MethodName) prog_1_method_35_code (3 : Nat) (Option.none : Option Jvm.ClassFile.FieldType)) ∈ AW := AW_m2 159 (by decide +kernel) (by decide +kernel)
theorem s_0 : Cond.selects "SnowRecorder" ({ cls := "SnowRecorder", name := "putBytes", desc := "(I)V" } : Jvm.MethodName) ({ cls := "SnowRecorder", name := "putBytes", desc := "(I)V" } : Jvm.MethodName) ∈ AW := AW_m 0 (by decide +kernel) (by decide +kernel)
theorem s_30 : Cond.selects "SnowRecorder" ({ cls := "SnowRecorder", name := "isSameWeakest", desc := "(LSnowRecorder$Pit;LSnowRecorder$Pit;)Z" } : Jvm.MethodName) ({ cls := "SnowRecorder", name := "isSameWeakest", desc := "(LSnowRecorder$Pit;LSnowRecorder$Pit;)Z" } : Jvm.MethodName) ∈ AW := AW_m 30 (by decide +kernel) (by decide +kernel)
theorem hd_yX3_namesIn : yX3_namesIn.cls ≠ "java/lang/invoke/MethodHandle" ∧ yX3_namesIn.cls ≠ "java/lang/invoke/VarHandle" ∧ (parseMethodDescriptor yX3_namesIn.desc).map (fun d => d.parameters.length) = some 1 := by decide +kernel
theorem hd_yX1_longestRow : yX1_longestRow.cls ≠ "java/lang/invoke/MethodHandle" ∧ yX1_longestRow.cls ≠ "java/lang/invoke/VarHandle" ∧ (parseMethodDescriptor yX1_longestRow.desc).map (fun d => d.parameters.length) = some 2 := by decide +kernel
theorem hd_yX1_fewestSteps : yX1_fewestSteps.cls ≠ "java/lang/invoke/MethodHandle" ∧ yX1_fewestSteps.cls ≠ "java/lang/invoke/VarHandle" ∧ (parseMethodDescriptor yX1_fewestSteps.desc).map (fun d => d.parameters.length) = some 2 := by decide +kernel
theorem hd_yX9_isSameWeakest : yX9_isSameWeakest.cls ≠ "java/lang/invoke/MethodHandle" ∧ yX9_isSameWeakest.cls ≠ "java/lang/invoke/VarHandle" ∧ (parseMethodDescriptor yX9_isSameWeakest.desc).map (fun d => d.parameters.length) = some 2 := by decide +kernel
theorem hd_yX9_putBytes : yX9_putBytes.cls ≠ "java/lang/invoke/MethodHandle" ∧ yX9_putBytes.cls ≠ "java/lang/invoke/VarHandle" ∧ (parseMethodDescriptor yX9_putBytes.desc).map (fun d => d.parameters.length) = some 1 := by decide +kernel
theorem mv_yX3_namesIn : zWv yX3_namesIn cX3_namesIn 4 (some .int) := ⟨q_1330, q_1331, q_6, q_1332⟩
theorem mv_yX1_longestRow : zWv yX1_longestRow cX1_longestRow 8 (some .int) := ⟨q_1335, q_1336, q_10, q_1337⟩
theorem mv_yX1_fewestSteps : zWv yX1_fewestSteps cX1_fewestSteps 9 (some .int) := ⟨q_1340, q_1341, q_10, q_1342⟩
theorem mv_yX9_isSameWeakest : zWv yX9_isSameWeakest cX9_isSameWeakest 5 (some .boolean) := ⟨q_1346, s_30, q_1, q_1347⟩
theorem mv_yX9_putBytes : zWv yX9_putBytes cX9_putBytes 3 none := ⟨q_398, s_0, q_1, q_399⟩
end
section
-- 51.dec.lean.txt
-- decode rows of acts
theorem dX9_isSameWeakest_0 : decode cX9_isSameWeakest 0 = .ok (.aload_n 1, 1) := by decide +kernel
theorem dX9_isSameWeakest_1 : decode cX9_isSameWeakest 1 = .ok (.getfield 349, 3) := by decide +kernel
theorem dX9_isSameWeakest_4 : decode cX9_isSameWeakest 4 = .ok (.aload_n 1, 1) := by decide +kernel
theorem dX9_isSameWeakest_5 : decode cX9_isSameWeakest 5 = .ok (.getfield 349, 3) := by decide +kernel
theorem dX9_isSameWeakest_8 : decode cX9_isSameWeakest 8 = .ok (.aload_n 0, 1) := by decide +kernel
theorem dX9_isSameWeakest_9 : decode cX9_isSameWeakest 9 = .ok (.getfield 30, 3) := by decide +kernel
theorem dX9_isSameWeakest_12 : decode cX9_isSameWeakest 12 = .ok (.getfield 187, 3) := by decide +kernel
theorem dX9_isSameWeakest_15 : decode cX9_isSameWeakest 15 = .ok (.aload_n 1, 1) := by decide +kernel
theorem dX9_isSameWeakest_16 : decode cX9_isSameWeakest 16 = .ok (.getfield 344, 3) := by decide +kernel
theorem dX9_isSameWeakest_19 : decode cX9_isSameWeakest 19 = .ok (.iaload, 1) := by decide +kernel
theorem dX9_isSameWeakest_20 : decode cX9_isSameWeakest 20 = .ok (.aload_n 0, 1) := by decide +kernel
theorem dX9_isSameWeakest_21 : decode cX9_isSameWeakest 21 = .ok (.getfield 30, 3) := by decide +kernel
theorem dX9_isSameWeakest_24 : decode cX9_isSameWeakest 24 = .ok (.invokevirtual 199, 3) := by decide +kernel
theorem dX9_isSameWeakest_27 : decode cX9_isSameWeakest 27 = .ok (.invokevirtual 313, 3) := by decide +kernel
theorem dX9_isSameWeakest_30 : decode cX9_isSameWeakest 30 = .ok (.istore_n 3, 1) := by decide +kernel
theorem dX9_isSameWeakest_31 : decode cX9_isSameWeakest 31 = .ok (.aload_n 2, 1) := by decide +kernel
theorem dX9_isSameWeakest_32 : decode cX9_isSameWeakest 32 = .ok (.getfield 349, 3) := by decide +kernel
theorem dX9_isSameWeakest_35 : decode cX9_isSameWeakest 35 = .ok (.aload_n 2, 1) := by decide +kernel
theorem dX9_isSameWeakest_36 : decode cX9_isSameWeakest 36 = .ok (.getfield 349, 3) := by decide +kernel
theorem dX9_isSameWeakest_39 : decode cX9_isSameWeakest 39 = .ok (.aload_n 0, 1) := by decide +kernel
theorem dX9_isSameWeakest_40 : decode cX9_isSameWeakest 40 = .ok (.getfield 30, 3) := by decide +kernel
theorem dX9_isSameWeakest_43 : decode cX9_isSameWeakest 43 = .ok (.getfield 187, 3) := by decide +kernel
theorem dX9_isSameWeakest_46 : decode cX9_isSameWeakest 46 = .ok (.aload_n 2, 1) := by decide +kernel
theorem dX9_isSameWeakest_47 : decode cX9_isSameWeakest 47 = .ok (.getfield 344, 3) := by decide +kernel
theorem dX9_isSameWeakest_50 : decode cX9_isSameWeakest 50 = .ok (.iaload, 1) := by decide +kernel
theorem dX9_isSameWeakest_51 : decode cX9_isSameWeakest 51 = .ok (.aload_n 0, 1) := by decide +kernel
theorem dX9_isSameWeakest_52 : decode cX9_isSameWeakest 52 = .ok (.getfield 30, 3) := by decide +kernel
theorem dX9_isSameWeakest_55 : decode cX9_isSameWeakest 55 = .ok (.invokevirtual 199, 3) := by decide +kernel
theorem dX9_isSameWeakest_58 : decode cX9_isSameWeakest 58 = .ok (.invokevirtual 313, 3) := by decide +kernel
theorem dX9_isSameWeakest_61 : decode cX9_isSameWeakest 61 = .ok (.istore 4, 2) := by decide +kernel
theorem dX9_isSameWeakest_63 : decode cX9_isSameWeakest 63 = .ok (.iload_n 3, 1) := by decide +kernel
theorem dX9_isSameWeakest_64 : decode cX9_isSameWeakest 64 = .ok (.iconst (-1), 1) := by decide +kernel
theorem dX9_isSameWeakest_65 : decode cX9_isSameWeakest 65 = .ok (.if_icmp .eq 13, 3) := by decide +kernel
theorem dX9_isSameWeakest_78 : decode cX9_isSameWeakest 78 = .ok (.iconst 0, 1) := by decide +kernel
theorem dX9_isSameWeakest_79 : decode cX9_isSameWeakest 79 = .ok (.ireturn, 1) := by decide +kernel
theorem dX9_isSameWeakest_68 : decode cX9_isSameWeakest 68 = .ok (.iload_n 3, 1) := by decide +kernel
theorem dX9_isSameWeakest_69 : decode cX9_isSameWeakest 69 = .ok (.iload 4, 2) := by decide +kernel
theorem dX9_isSameWeakest_71 : decode cX9_isSameWeakest 71 = .ok (.if_icmp .ne 7, 3) := by decide +kernel
theorem dX9_isSameWeakest_74 : decode cX9_isSameWeakest 74 = .ok (.iconst 1, 1) := by decide +kernel
theorem dX9_isSameWeakest_75 : decode cX9_isSameWeakest 75 = .ok (.goto 4, 3) := by decide +kernel
theorem dX9_compare_0 : decode cX9_compare 0 = .ok (.aload_n 0, 1) := by decide +kernel
theorem dX9_compare_1 : decode cX9_compare 1 = .ok (.iload_n 1, 1) := by decide +kernel
theorem dX9_compare_2 : decode cX9_compare 2 = .ok (.invokevirtual 338, 3) := by decide +kernel
theorem dX9_compare_5 : decode cX9_compare 5 = .ok (.aload_n 0, 1) := by decide +kernel
theorem dX9_compare_6 : decode cX9_compare 6 = .ok (.iload_n 2, 1) := by decide +kernel
theorem dX9_compare_7 : decode cX9_compare 7 = .ok (.invokevirtual 338, 3) := by decide +kernel
theorem dX9_compare_10 : decode cX9_compare 10 = .ok (.aload_n 0, 1) := by decide +kernel
theorem dX9_compare_11 : decode cX9_compare 11 = .ok (.getfield 37, 3) := by decide +kernel
theorem dX9_compare_14 : decode cX9_compare 14 = .ok (.getfield 341, 3) := by decide +kernel
theorem dX9_compare_17 : decode cX9_compare 17 = .ok (.iload_n 1, 1) := by decide +kernel
theorem dX9_compare_18 : decode cX9_compare 18 = .ok (.aaload, 1) := by decide +kernel
theorem dX9_compare_19 : decode cX9_compare 19 = .ok (.getfield 349, 3) := by decide +kernel
theorem dX9_compare_22 : decode cX9_compare 22 = .ok (.astore 4, 2) := by decide +kernel
theorem dX9_compare_24 : decode cX9_compare 24 = .ok (.aload_n 0, 1) := by decide +kernel
theorem dX9_compare_25 : decode cX9_compare 25 = .ok (.getfield 37, 3) := by decide +kernel
theorem dX9_compare_28 : decode cX9_compare 28 = .ok (.getfield 341, 3) := by decide +kernel
theorem dX9_compare_31 : decode cX9_compare 31 = .ok (.iload_n 2, 1) := by decide +kernel
theorem dX9_compare_32 : decode cX9_compare 32 = .ok (.aaload, 1) := by decide +kernel
theorem dX9_compare_33 : decode cX9_compare 33 = .ok (.getfield 349, 3) := by decide +kernel
theorem dX9_compare_36 : decode cX9_compare 36 = .ok (.astore 5, 2) := by decide +kernel
theorem dX9_compare_38 : decode cX9_compare 38 = .ok (.iload_n 3, 1) := by decide +kernel
theorem dX9_compare_39 : decode cX9_compare 39 = .ok (.tableswitch 92 0 3 #[29, 37, 49, 61], 29) := by decide +kernel
theorem dX9_compare_131 : decode cX9_compare 131 = .ok (.new 165, 3) := by decide +kernel
theorem dX9_compare_134 : decode cX9_compare 134 = .ok (.dup, 1) := by decide +kernel
theorem dX9_compare_135 : decode cX9_compare 135 = .ok (.ldc_w 371, 3) := by decide +kernel
theorem dX9_compare_138 : decode cX9_compare 138 = .ok (.invokespecial 169, 3) := by decide +kernel
theorem dX9_compare_141 : decode cX9_compare 141 = .ok (.athrow, 1) := by decide +kernel
theorem dX9_compare_68 : decode cX9_compare 68 = .ok (.aload 4, 2) := by decide +kernel
theorem dX9_compare_70 : decode cX9_compare 70 = .ok (.aload 5, 2) := by decide +kernel
theorem dX9_compare_72 : decode cX9_compare 72 = .ok (.invokevirtual 356, 3) := by decide +kernel
theorem dX9_compare_75 : decode cX9_compare 75 = .ok (.ireturn, 1) := by decide +kernel
theorem dX9_compare_76 : decode cX9_compare 76 = .ok (.aload_n 0, 1) := by decide +kernel
theorem dX9_compare_77 : decode cX9_compare 77 = .ok (.getfield 71, 3) := by decide +kernel
theorem dX9_compare_80 : decode cX9_compare 80 = .ok (.aload 4, 2) := by decide +kernel
theorem dX9_compare_82 : decode cX9_compare 82 = .ok (.aload 5, 2) := by decide +kernel
theorem dX9_compare_84 : decode cX9_compare 84 = .ok (.invokevirtual 360, 3) := by decide +kernel
theorem dX9_compare_87 : decode cX9_compare 87 = .ok (.ireturn, 1) := by decide +kernel
theorem dX9_compare_88 : decode cX9_compare 88 = .ok (.aload_n 0, 1) := by decide +kernel
theorem dX9_compare_89 : decode cX9_compare 89 = .ok (.getfield 71, 3) := by decide +kernel
theorem dX9_compare_92 : decode cX9_compare 92 = .ok (.aload 4, 2) := by decide +kernel
theorem dX9_compare_94 : decode cX9_compare 94 = .ok (.aload 5, 2) := by decide +kernel
theorem dX9_compare_96 : decode cX9_compare 96 = .ok (.invokevirtual 364, 3) := by decide +kernel
theorem dX9_compare_99 : decode cX9_compare 99 = .ok (.ireturn, 1) := by decide +kernel
theorem dX9_compare_100 : decode cX9_compare 100 = .ok (.aload_n 0, 1) := by decide +kernel
theorem dX9_compare_101 : decode cX9_compare 101 = .ok (.aload_n 0, 1) := by decide +kernel
theorem dX9_compare_102 : decode cX9_compare 102 = .ok (.getfield 37, 3) := by decide +kernel
theorem dX9_compare_105 : decode cX9_compare 105 = .ok (.getfield 341, 3) := by decide +kernel
theorem dX9_compare_108 : decode cX9_compare 108 = .ok (.iload_n 1, 1) := by decide +kernel
theorem dX9_compare_109 : decode cX9_compare 109 = .ok (.aaload, 1) := by decide +kernel
theorem dX9_compare_110 : decode cX9_compare 110 = .ok (.aload_n 0, 1) := by decide +kernel
theorem dX9_compare_111 : decode cX9_compare 111 = .ok (.getfield 37, 3) := by decide +kernel
theorem dX9_compare_114 : decode cX9_compare 114 = .ok (.getfield 341, 3) := by decide +kernel
theorem dX9_compare_117 : decode cX9_compare 117 = .ok (.iload_n 2, 1) := by decide +kernel
theorem dX9_compare_118 : decode cX9_compare 118 = .ok (.aaload, 1) := by decide +kernel
theorem dX9_compare_119 : decode cX9_compare 119 = .ok (.invokevirtual 367, 3) := by decide +kernel
theorem dX9_compare_122 : decode cX9_compare 122 = .ok (.ifCond .eq 7, 3) := by decide +kernel
theorem dX9_compare_129 : decode cX9_compare 129 = .ok (.iconst 0, 1) := by decide +kernel
theorem dX9_compare_130 : decode cX9_compare 130 = .ok (.ireturn, 1) := by decide +kernel
theorem dX9_compare_125 : decode cX9_compare 125 = .ok (.iconst 1, 1) := by decide +kernel
theorem dX9_compare_126 : decode cX9_compare 126 = .ok (.goto 4, 3) := by decide +kernel
theorem dX9_nearest_0 : decode cX9_nearest 0 = .ok (.aload_n 0, 1) := by decide +kernel
theorem dX9_nearest_1 : decode cX9_nearest 1 = .ok (.iload_n 1, 1) := by decide +kernel
theorem dX9_nearest_2 : decode cX9_nearest 2 = .ok (.invokevirtual 338, 3) := by decide +kernel
theorem dX9_nearest_5 : decode cX9_nearest 5 = .ok (.iconst (-1), 1) := by decide +kernel
theorem dX9_nearest_6 : decode cX9_nearest 6 = .ok (.istore_n 2, 1) := by decide +kernel
theorem dX9_nearest_7 : decode cX9_nearest 7 = .ok (.iconst 0, 1) := by decide +kernel
theorem dX9_nearest_8 : decode cX9_nearest 8 = .ok (.istore_n 3, 1) := by decide +kernel
theorem dX9_nearest_9 : decode cX9_nearest 9 = .ok (.iconst 0, 1) := by decide +kernel
theorem dX9_nearest_10 : decode cX9_nearest 10 = .ok (.istore 4, 2) := by decide +kernel
theorem dX9_nearest_12 : decode cX9_nearest 12 = .ok (.iload 4, 2) := by decide +kernel
theorem dX9_nearest_14 : decode cX9_nearest 14 = .ok (.aload_n 0, 1) := by decide +kernel
theorem dX9_nearest_15 : decode cX9_nearest 15 = .ok (.getfield 30, 3) := by decide +kernel
theorem dX9_nearest_18 : decode cX9_nearest 18 = .ok (.getfield 115, 3) := by decide +kernel
theorem dX9_nearest_21 : decode cX9_nearest 21 = .ok (.if_icmp .ge 60, 3) := by decide +kernel
theorem dX9_nearest_81 : decode cX9_nearest 81 = .ok (.iload_n 2, 1) := by decide +kernel
theorem dX9_nearest_82 : decode cX9_nearest 82 = .ok (.ireturn, 1) := by decide +kernel
theorem dX9_nearest_24 : decode cX9_nearest 24 = .ok (.aload_n 0, 1) := by decide +kernel
theorem dX9_nearest_25 : decode cX9_nearest 25 = .ok (.getfield 71, 3) := by decide +kernel
theorem dX9_nearest_28 : decode cX9_nearest 28 = .ok (.aload_n 0, 1) := by decide +kernel
theorem dX9_nearest_29 : decode cX9_nearest 29 = .ok (.getfield 37, 3) := by decide +kernel
theorem dX9_nearest_32 : decode cX9_nearest 32 = .ok (.getfield 112, 3) := by decide +kernel
theorem dX9_nearest_35 : decode cX9_nearest 35 = .ok (.getfield 280, 3) := by decide +kernel
theorem dX9_nearest_38 : decode cX9_nearest 38 = .ok (.iload 4, 2) := by decide +kernel
theorem dX9_nearest_40 : decode cX9_nearest 40 = .ok (.aaload, 1) := by decide +kernel
theorem dX9_nearest_41 : decode cX9_nearest 41 = .ok (.aload_n 0, 1) := by decide +kernel
theorem dX9_nearest_42 : decode cX9_nearest 42 = .ok (.getfield 37, 3) := by decide +kernel
theorem dX9_nearest_45 : decode cX9_nearest 45 = .ok (.getfield 341, 3) := by decide +kernel
theorem dX9_nearest_48 : decode cX9_nearest 48 = .ok (.iload_n 1, 1) := by decide +kernel
theorem dX9_nearest_49 : decode cX9_nearest 49 = .ok (.aaload, 1) := by decide +kernel
theorem dX9_nearest_50 : decode cX9_nearest 50 = .ok (.getfield 349, 3) := by decide +kernel
theorem dX9_nearest_53 : decode cX9_nearest 53 = .ok (.invokevirtual 364, 3) := by decide +kernel
theorem dX9_nearest_56 : decode cX9_nearest 56 = .ok (.istore 5, 2) := by decide +kernel
theorem dX9_nearest_58 : decode cX9_nearest 58 = .ok (.iload_n 2, 1) := by decide +kernel
theorem dX9_nearest_59 : decode cX9_nearest 59 = .ok (.iconst (-1), 1) := by decide +kernel
theorem dX9_nearest_60 : decode cX9_nearest 60 = .ok (.if_icmp .eq 9, 3) := by decide +kernel
theorem dX9_nearest_69 : decode cX9_nearest 69 = .ok (.iload 4, 2) := by decide +kernel
theorem dX9_nearest_71 : decode cX9_nearest 71 = .ok (.istore_n 2, 1) := by decide +kernel
theorem dX9_nearest_72 : decode cX9_nearest 72 = .ok (.iload 5, 2) := by decide +kernel
theorem dX9_nearest_74 : decode cX9_nearest 74 = .ok (.istore_n 3, 1) := by decide +kernel
theorem dX9_nearest_75 : decode cX9_nearest 75 = .ok (.iinc 4 1, 3) := by decide +kernel
theorem dX9_nearest_78 : decode cX9_nearest 78 = .ok (.goto (-66), 3) := by decide +kernel
theorem dX9_nearest_63 : decode cX9_nearest 63 = .ok (.iload 5, 2) := by decide +kernel
theorem dX9_nearest_65 : decode cX9_nearest 65 = .ok (.iload_n 3, 1) := by decide +kernel
theorem dX9_nearest_66 : decode cX9_nearest 66 = .ok (.if_icmp .ge 9, 3) := by decide +kernel
theorem dX9_fault_0 : decode cX9_fault 0 = .ok (.aload_n 0, 1) := by decide +kernel
theorem dX9_fault_1 : decode cX9_fault 1 = .ok (.getfield 17, 3) := by decide +kernel
theorem dX9_fault_4 : decode cX9_fault 4 = .ok (.ireturn, 1) := by decide +kernel
theorem dX9_putBytes_0 : decode cX9_putBytes 0 = .ok (.bipush 24, 2) := by decide +kernel
theorem dX9_putBytes_2 : decode cX9_putBytes 2 = .ok (.istore_n 2, 1) := by decide +kernel
theorem dX9_putBytes_3 : decode cX9_putBytes 3 = .ok (.iload_n 2, 1) := by decide +kernel
theorem dX9_putBytes_4 : decode cX9_putBytes 4 = .ok (.ifCond .lt 44, 3) := by decide +kernel
theorem dX9_putBytes_7 : decode cX9_putBytes 7 = .ok (.aload_n 0, 1) := by decide +kernel
theorem dX9_putBytes_8 : decode cX9_putBytes 8 = .ok (.getfield 13, 3) := by decide +kernel
theorem dX9_putBytes_11 : decode cX9_putBytes 11 = .ok (.aload_n 0, 1) := by decide +kernel
theorem dX9_putBytes_12 : decode cX9_putBytes 12 = .ok (.getfield 9, 3) := by decide +kernel
theorem dX9_putBytes_15 : decode cX9_putBytes 15 = .ok (.arraylength, 1) := by decide +kernel
theorem dX9_putBytes_16 : decode cX9_putBytes 16 = .ok (.if_icmp .ge 32, 3) := by decide +kernel
theorem dX9_putBytes_19 : decode cX9_putBytes 19 = .ok (.aload_n 0, 1) := by decide +kernel
theorem dX9_putBytes_20 : decode cX9_putBytes 20 = .ok (.getfield 9, 3) := by decide +kernel
theorem dX9_putBytes_23 : decode cX9_putBytes 23 = .ok (.aload_n 0, 1) := by decide +kernel
theorem dX9_putBytes_24 : decode cX9_putBytes 24 = .ok (.getfield 13, 3) := by decide +kernel
theorem dX9_putBytes_27 : decode cX9_putBytes 27 = .ok (.iload_n 1, 1) := by decide +kernel
theorem dX9_putBytes_28 : decode cX9_putBytes 28 = .ok (.iload_n 2, 1) := by decide +kernel
theorem dX9_putBytes_29 : decode cX9_putBytes 29 = .ok (.iushr, 1) := by decide +kernel
theorem dX9_putBytes_30 : decode cX9_putBytes 30 = .ok (.i2b, 1) := by decide +kernel
theorem dX9_putBytes_31 : decode cX9_putBytes 31 = .ok (.bastore, 1) := by decide +kernel
theorem dX9_putBytes_32 : decode cX9_putBytes 32 = .ok (.aload_n 0, 1) := by decide +kernel
theorem dX9_putBytes_33 : decode cX9_putBytes 33 = .ok (.dup, 1) := by decide +kernel
theorem dX9_putBytes_34 : decode cX9_putBytes 34 = .ok (.getfield 13, 3) := by decide +kernel
theorem dX9_putBytes_37 : decode cX9_putBytes 37 = .ok (.iconst 1, 1) := by decide +kernel
theorem dX9_putBytes_38 : decode cX9_putBytes 38 = .ok (.iadd, 1) := by decide +kernel
theorem dX9_putBytes_39 : decode cX9_putBytes 39 = .ok (.putfield 13, 3) := by decide +kernel
theorem dX9_putBytes_42 : decode cX9_putBytes 42 = .ok (.iinc 2 (-8), 3) := by decide +kernel
theorem dX9_putBytes_45 : decode cX9_putBytes 45 = .ok (.goto (-42), 3) := by decide +kernel
theorem dX9_putBytes_48 : decode cX9_putBytes 48 = .ok (.return_, 1) := by decide +kernel
theorem dX9_feed_0 : decode cX9_feed 0 = .ok (.aload_n 0, 1) := by decide +kernel
theorem dX9_feed_1 : decode cX9_feed 1 = .ok (.getfield 13, 3) := by decide +kernel
theorem dX9_feed_4 : decode cX9_feed 4 = .ok (.bipush 20, 2) := by decide +kernel
theorem dX9_feed_6 : decode cX9_feed 6 = .ok (.iadd, 1) := by decide +kernel
theorem dX9_feed_7 : decode cX9_feed 7 = .ok (.sipush 900, 3) := by decide +kernel
theorem dX9_feed_10 : decode cX9_feed 10 = .ok (.if_icmp .le 5, 3) := by decide +kernel
theorem dX9_feed_15 : decode cX9_feed 15 = .ok (.aload_n 0, 1) := by decide +kernel
theorem dX9_feed_16 : decode cX9_feed 16 = .ok (.iload_n 1, 1) := by decide +kernel
theorem dX9_feed_17 : decode cX9_feed 17 = .ok (.invokevirtual 82, 3) := by decide +kernel
theorem dX9_feed_20 : decode cX9_feed 20 = .ok (.aload_n 0, 1) := by decide +kernel
theorem dX9_feed_21 : decode cX9_feed 21 = .ok (.iload_n 2, 1) := by decide +kernel
theorem dX9_feed_22 : decode cX9_feed 22 = .ok (.invokevirtual 82, 3) := by decide +kernel
theorem dX9_feed_25 : decode cX9_feed 25 = .ok (.aload_n 0, 1) := by decide +kernel
theorem dX9_feed_26 : decode cX9_feed 26 = .ok (.iload_n 3, 1) := by decide +kernel
theorem dX9_feed_27 : decode cX9_feed 27 = .ok (.invokevirtual 82, 3) := by decide +kernel
theorem dX9_feed_30 : decode cX9_feed 30 = .ok (.aload_n 0, 1) := by decide +kernel
theorem dX9_feed_31 : decode cX9_feed 31 = .ok (.iload 4, 2) := by decide +kernel
theorem dX9_feed_33 : decode cX9_feed 33 = .ok (.invokevirtual 82, 3) := by decide +kernel
theorem dX9_feed_36 : decode cX9_feed 36 = .ok (.aload_n 0, 1) := by decide +kernel
theorem dX9_feed_37 : decode cX9_feed 37 = .ok (.iload 5, 2) := by decide +kernel
theorem dX9_feed_39 : decode cX9_feed 39 = .ok (.invokevirtual 82, 3) := by decide +kernel
theorem dX9_feed_42 : decode cX9_feed 42 = .ok (.aload_n 0, 1) := by decide +kernel
theorem dX9_feed_43 : decode cX9_feed 43 = .ok (.getfield 13, 3) := by decide +kernel
theorem dX9_feed_46 : decode cX9_feed 46 = .ok (.ireturn, 1) := by decide +kernel
theorem dX9_feed_13 : decode cX9_feed 13 = .ok (.iconst (-1), 1) := by decide +kernel
theorem dX9_feed_14 : decode cX9_feed 14 = .ok (.ireturn, 1) := by decide +kernel
end
section
-- 52.acts.lean.txt
theorem b8_of (x : Int32) : ∃ z : Int, x.toInt8.toInt32 = zI z ∧ -128 ≤ z ∧ z ≤ 127 := ⟨x.toInt8.toInt, (Int32.ofInt_int8ToInt x.toInt8).symm, by have := x.toInt8.le_toInt; omega, by have := x.toInt8.toInt_lt; omega⟩

set_option maxRecDepth 100000 in
set_option maxHeartbeats 4000000 in
theorem c_X9_isSameWeakest (l : Launch) (D : va_G) (A : Nat → Prop) (cs : Nat → ClassId) (tt : Nat) (N : Nat) (ad : Nat → Nat) (g : Nat → va_E) (hN : 952 ≤ N) (t fp im nz kz sl ho ua : Int) (st op ai fa mu tb tp : Nat → Int) (hR : okRec cs ad g N t fp im nz kz sl ho ua st op ai fa mu tb tp) (k1 k2 : Nat) (hk1 : k1 < 6) (hk2 : k2 < 6) : zM l yX9_isSameWeakest cX9_isSameWeakest 5 (some .boolean) ({ frames := 6, cells := 0, slots := 0, locals := 360 } : Room) D A cs tt N ad g [.ref (ad 0), .ref (ad (11 + 418 + 3 * k1)), .ref (ad (11 + 418 + 3 * k2))] (rI0 N ad fun r g' => (0 ≤ r ∧ r ≤ 1) ∧ g = g') := by
  obtain ⟨ary1, bry1, cry1, dry1, ery1, fry1, gry11, hry1, ⟨acry1, iry1⟩, ⟨kcry1, jry1⟩, kry1, lry1, mry1, nry1, ory1, pry1⟩ := id hR
  have hay2 : zAt ad (0) (ad 0) := rfl
  have hay3 : zAt ad (1) (ad 1) := rfl
  have hay4 : zAt ad (2) (ad 2) := rfl
  have hay5 : zAt ad (4) (ad 4) := rfl
  have hay6 : zAt ad (11) (ad 11) := rfl
  have hay7 : zAt ad (447) (ad 447) := rfl
  have hay8 : zAt ad (883) (ad 883) := rfl
  have hay9 : zAt ad (890) (ad 890) := rfl
  have hay10 : zAt ad (900) (ad 900) := rfl
  have hay11 : zAt ad (910) (ad 910) := rfl
  have hay12 : zAt ad (917) (ad 917) := rfl
  have hay13 : zAt ad (919) (ad 919) := rfl
  have hay14 : zAt ad (4 + 1) (ad (4 + 1)) := rfl
  have hay15 : zAt ad (4 + 2) (ad (4 + 2)) := rfl
  have hay16 : zAt ad (4 + 3) (ad (4 + 3)) := rfl
  have hay17 : zAt ad (4 + 4) (ad (4 + 4)) := rfl
  have hay18 : zAt ad (4 + 5) (ad (4 + 5)) := rfl
  have hay19 : zAt ad (4 + 6) (ad (4 + 6)) := rfl
  obtain ⟨thcy20, zhcy20, ohcy20, rhcy20, hzhcy20, hthcy20, hwhcy20⟩ := id lry1
  obtain ⟨thcy21, zhcy21, ohcy21, rhcy21, hzhcy21, hthcy21, hwhcy21⟩ := id mry1
  obtain ⟨asy22, bsy22, csy22, dsy22, esy22, ⟨ptsy22, fsy22, gsy221⟩, hsy22, ⟨nusy22, nvsy22, nwsy22, isy22, jsy22, ksy22, lsy22, msy22, nsy22⟩, rfsy22, osy22⟩ := id iry1
  have hay23 : zAt ad (11 + 1) (ad (11 + 1)) := rfl
  have hay24 : zAt ad (11 + 11) (ad (11 + 11)) := rfl
  have hay25 : zAt ad (11 + 12) (ad (11 + 12)) := rfl
  have hay26 : zAt ad (11 + 13) (ad (11 + 13)) := rfl
  have hay27 : zAt ad (11 + 13 + 1) (ad (11 + 13 + 1)) := rfl
  have hay28 : zAt ad (11 + 13 + 2) (ad (11 + 13 + 2)) := rfl
  have hay29 : zAt ad (11 + 13 + 3) (ad (11 + 13 + 3)) := rfl
  have hay30 : zAt ad (11 + 17) (ad (11 + 17)) := rfl
  obtain ⟨uy31t, uy31z, uy31o, uy31r, uy31z4, uy31t5, uy311, ⟨uy31u, uy312, uy313⟩, uy314⟩ := id csy22
  have hay32 : zAt ad (11 + 1) (ad (11 + 1)) := rfl
  have hay33 : zAt ad (11 + 1 + 1) (ad (11 + 1 + 1)) := rfl
  have hay34 : zAt ad (11 + 418 + 3 * k1) (ad (11 + 418 + 3 * k1)) := rfl
  have hay35 : zAt ad (11 + 418 + 3 * k1 + 1) (ad (11 + 418 + 3 * k1 + 1)) := rfl
  have hay36 : zAt ad (11 + 418 + 3 * k1 + 1 + 1) (ad (11 + 418 + 3 * k1 + 1 + 1)) := rfl
  obtain ⟨lpy37, tpy37, zpy37, opy37, rpy37, h1py37, h2py37, h3py37, h4py37⟩ := hsy22 k1 (by omega)
  have hay38 : zAt ad (11 + 418 + 3 * k2) (ad (11 + 418 + 3 * k2)) := rfl
  have hay39 : zAt ad (11 + 418 + 3 * k2 + 1) (ad (11 + 418 + 3 * k2 + 1)) := rfl
  have hay40 : zAt ad (11 + 418 + 3 * k2 + 1 + 1) (ad (11 + 418 + 3 * k2 + 1 + 1)) := rfl
  obtain ⟨lpy41, tpy41, zpy41, opy41, rpy41, h1py41, h2py41, h3py41, h4py41⟩ := hsy22 k2 (by omega)
  refine z_of (by decide) (Nat.le_of_ble_eq_true rfl) ?_
  intro p e s m below meth c C hr hlk hnm
  refine z_lv (lv' := [(0, .ref (ad 0)), (1, .ref (ad (11 + 418 + 3 * k1))), (2, .ref (ad (11 + 418 + 3 * k2)))]) [0, 1, 2] rfl ?_
  refine z_aload_n C 1 dX9_isSameWeakest_0 rfl ?_
  refine z_get (v := .ref (ad (11 + 418 + 3 * k1 + 1))) C (by omega) hay34 h3py37 rfl inA_X4 2 (by decide) q_249 rfl rfl dX9_isSameWeakest_1 ?_
  refine z_aload_n C 1 dX9_isSameWeakest_4 rfl ?_
  refine z_get (v := .ref (ad (11 + 418 + 3 * k1 + 1))) C (by omega) hay34 h3py37 rfl inA_X4 2 (by decide) q_249 rfl rfl dX9_isSameWeakest_5 ?_
  refine z_aload_n C 0 dX9_isSameWeakest_8 rfl ?_
  refine z_get (v := .ref (ad 4)) C (lt_K hN (rfl : Nat.blt (0) 952 = true)) hay2 ary1 rfl inA_X9 4 (by decide) q_353 rfl rfl dX9_isSameWeakest_9 ?_
  refine z_get (v := .ref (ad (4 + 1))) C (lt_K hN (rfl : Nat.blt (4) 952 = true)) hay5 fry1.1 rfl inA_X5 3 (by decide) q_98 rfl rfl dX9_isSameWeakest_12 ?_
  refine z_aload_n C 1 dX9_isSameWeakest_15 rfl ?_
  refine z_get (v := .int (zI (lpy37))) C (by omega) hay34 h3py37 rfl inA_X4 0 (by decide) q_243 rfl rfl dX9_isSameWeakest_16 ?_
  refine z_iald C (lt_K hN (rfl : Nat.blt (4 + 1) 952 = true)) hay14 fry1.2.1 ((lpy37).toNat) (by omega) (by omega) (by decide) dX9_isSameWeakest_19 ?_
  refine z_aload_n C 0 dX9_isSameWeakest_20 rfl ?_
  refine z_get (v := .ref (ad 4)) C (lt_K hN (rfl : Nat.blt (0) 952 = true)) hay2 ary1 rfl inA_X9 4 (by decide) q_353 rfl rfl dX9_isSameWeakest_21 ?_
  obtain ⟨xy42, exy43, hxy44⟩ := zI_of (zI (st ((lpy37).toNat)))
  rw [exy43]
  refine z_cV (As := [.int (zI (xy42)), .ref (ad 4)]) (rest := [.ref (ad (11 + 418 + 3 * k1 + 1))]) (ci := 5) C (c_X3_weakest l D A cs tt N ad _ (11 + 418 + 3 * k1 + 1) (by omega) _ _ _ (by omega) ⟨h4py37.1, h4py37.2⟩ (4) (by omega) _ _ _ _ _ _ _ _ _ ⟨fry1.1, fry1.2.1, fry1.2.2.1, fry1.2.2.2.1, fry1.2.2.2.2.1, fry1.2.2.2.2.2.1, fry1.2.2.2.2.2.2⟩ (xy42) (by omega)) (by omega) hay35 h4py37.1 rfl rfl mv_yX3_weakest q_946 hd_yX3_weakest (by decide) (Nat.le_of_ble_eq_true rfl) (by decide) dX9_isSameWeakest_24 rfl (kI0 fun vy45 gvy45 hvy45 => ?_)
  obtain ⟨hvy45, rfl⟩ := hvy45
  refine z_cV (As := [.int (zI (vy45))]) (rest := []) (ci := 5) C (c_X3_nameOf l D A cs tt N ad _ (11 + 418 + 3 * k1 + 1) (by omega) _ _ _ (by omega) ⟨h4py37.1, h4py37.2⟩  (vy45) (by omega)) (by omega) hay35 h4py37.1 rfl rfl mv_yX3_nameOf q_1229 hd_yX3_nameOf (by decide) (Nat.le_of_ble_eq_true rfl) (by decide) dX9_isSameWeakest_27 rfl (kI0 fun vy46 gvy46 hvy46 => ?_)
  obtain ⟨hvy46, rfl⟩ := hvy46
  refine z_istore_n (lv' := [(3, .int (zI (vy46))), (0, .ref (ad 0)), (1, .ref (ad (11 + 418 + 3 * k1))), (2, .ref (ad (11 + 418 + 3 * k2)))]) C dX9_isSameWeakest_30 rfl (by decide) rfl ?_
  refine z_aload_n C 3 dX9_isSameWeakest_31 rfl ?_
  refine z_get (v := .ref (ad (11 + 418 + 3 * k2 + 1))) C (by omega) hay38 h3py41 rfl inA_X4 2 (by decide) q_249 rfl rfl dX9_isSameWeakest_32 ?_
  refine z_aload_n C 3 dX9_isSameWeakest_35 rfl ?_
  refine z_get (v := .ref (ad (11 + 418 + 3 * k2 + 1))) C (by omega) hay38 h3py41 rfl inA_X4 2 (by decide) q_249 rfl rfl dX9_isSameWeakest_36 ?_
  refine z_aload_n C 1 dX9_isSameWeakest_39 rfl ?_
  refine z_get (v := .ref (ad 4)) C (lt_K hN (rfl : Nat.blt (0) 952 = true)) hay2 ary1 rfl inA_X9 4 (by decide) q_353 rfl rfl dX9_isSameWeakest_40 ?_
  refine z_get (v := .ref (ad (4 + 1))) C (lt_K hN (rfl : Nat.blt (4) 952 = true)) hay5 fry1.1 rfl inA_X5 3 (by decide) q_98 rfl rfl dX9_isSameWeakest_43 ?_
  refine z_aload_n C 3 dX9_isSameWeakest_46 rfl ?_
  refine z_get (v := .int (zI (lpy41))) C (by omega) hay38 h3py41 rfl inA_X4 0 (by decide) q_243 rfl rfl dX9_isSameWeakest_47 ?_
  refine z_iald C (lt_K hN (rfl : Nat.blt (4 + 1) 952 = true)) hay14 fry1.2.1 ((lpy41).toNat) (by omega) (by omega) (by decide) dX9_isSameWeakest_50 ?_
  refine z_aload_n C 1 dX9_isSameWeakest_51 rfl ?_
  refine z_get (v := .ref (ad 4)) C (lt_K hN (rfl : Nat.blt (0) 952 = true)) hay2 ary1 rfl inA_X9 4 (by decide) q_353 rfl rfl dX9_isSameWeakest_52 ?_
  obtain ⟨xy47, exy48, hxy49⟩ := zI_of (zI (st ((lpy41).toNat)))
  rw [exy48]
  refine z_cV (As := [.int (zI (xy47)), .ref (ad 4)]) (rest := [.ref (ad (11 + 418 + 3 * k2 + 1))]) (ci := 5) C (c_X3_weakest l D A cs tt N ad _ (11 + 418 + 3 * k2 + 1) (by omega) _ _ _ (by omega) ⟨h4py41.1, h4py41.2⟩ (4) (by omega) _ _ _ _ _ _ _ _ _ ⟨fry1.1, fry1.2.1, fry1.2.2.1, fry1.2.2.2.1, fry1.2.2.2.2.1, fry1.2.2.2.2.2.1, fry1.2.2.2.2.2.2⟩ (xy47) (by omega)) (by omega) hay39 h4py41.1 rfl rfl mv_yX3_weakest q_946 hd_yX3_weakest (by decide) (Nat.le_of_ble_eq_true rfl) (by decide) dX9_isSameWeakest_55 rfl (kI0 fun vy50 gvy50 hvy50 => ?_)
  obtain ⟨hvy50, rfl⟩ := hvy50
  refine z_cV (As := [.int (zI (vy50))]) (rest := []) (ci := 5) C (c_X3_nameOf l D A cs tt N ad _ (11 + 418 + 3 * k2 + 1) (by omega) _ _ _ (by omega) ⟨h4py41.1, h4py41.2⟩  (vy50) (by omega)) (by omega) hay39 h4py41.1 rfl rfl mv_yX3_nameOf q_1229 hd_yX3_nameOf (by decide) (Nat.le_of_ble_eq_true rfl) (by decide) dX9_isSameWeakest_58 rfl (kI0 fun vy51 gvy51 hvy51 => ?_)
  obtain ⟨hvy51, rfl⟩ := hvy51
  refine z_istore (lv' := [(4, .int (zI (vy51))), (3, .int (zI (vy46))), (0, .ref (ad 0)), (1, .ref (ad (11 + 418 + 3 * k1))), (2, .ref (ad (11 + 418 + 3 * k2)))]) C dX9_isSameWeakest_61 (by decide) rfl ?_
  refine z_iload_n C 1 dX9_isSameWeakest_63 rfl ?_
  refine z_iconst (z := -1) C dX9_isSameWeakest_64 rfl ?_
  refine z_icmp_eq (tgt := 78) C dX9_isSameWeakest_65 (by decide) (by omega) (by omega) (fun hby52 => ?_) (fun hby52 => ?_)
  · refine z_iconst (z := 0) C dX9_isSameWeakest_78 rfl ?_
    exact z_zret C hr hlk dX9_isSameWeakest_79 (by decide) (by decide) (by decide) ⟨0, rfl, rfl, rfl, by omega, rfl⟩
  · refine z_iload_n C 1 dX9_isSameWeakest_68 rfl ?_
    refine z_iload C 0 dX9_isSameWeakest_69 rfl ?_
    refine z_icmp_ne (tgt := 78) C dX9_isSameWeakest_71 (by decide) (by omega) (by omega) (fun hby53 => ?_) (fun hby53 => ?_)
    · refine z_iconst (z := 0) C dX9_isSameWeakest_78 rfl ?_
      exact z_zret C hr hlk dX9_isSameWeakest_79 (by decide) (by decide) (by decide) ⟨0, rfl, rfl, rfl, by omega, rfl⟩
    · refine z_iconst (z := 1) C dX9_isSameWeakest_74 rfl ?_
      refine z_goto (tgt := 79) C dX9_isSameWeakest_75 (by decide) ?_
      exact z_zret C hr hlk dX9_isSameWeakest_79 (by decide) (by decide) (by decide) ⟨1, rfl, rfl, rfl, by omega, rfl⟩

set_option maxRecDepth 100000 in
set_option maxHeartbeats 4000000 in
theorem c_X9_compare (l : Launch) (D : va_G) (A : Nat → Prop) (cs : Nat → ClassId) (tt : Nat) (N : Nat) (ad : Nat → Nat) (g : Nat → va_E) (hN : 952 ≤ N) (t fp im nz kz sl ho ua : Int) (st op ai fa mu tb tp : Nat → Int) (hR : okRec cs ad g N t fp im nz kz sl ho ua st op ai fa mu tb tp) (hl0 : l.stackTraces = false) (z : Int) (hz : -2147483648 ≤ z ∧ z ≤ 2147483647) (z1 : Int) (hz1 : -2147483648 ≤ z1 ∧ z1 ≤ 2147483647) (z2 : Int) (hz2 : -2147483648 ≤ z2 ∧ z2 ≤ 2147483647) : zMX l yX9_compare cX9_compare 6 (some .int) ({ frames := 12, cells := 6, slots := 60, locals := 720 } : Room) D A cs tt N ad g [.ref (ad 0), .int (zI (z)), .int (zI (z1)), .int (zI (z2))] (rI0 N ad fun r g' => (-2147483648 ≤ r ∧ r ≤ 2147483647) ∧ okRec cs ad g' N t fp im nz kz sl ho ua st op ai fa mu tb tp ∧ oX g g') (fun E N' ad' g' => E = eNS ∧ N' = N ∧ ad' = ad ∧ g' = g) := by
  obtain ⟨ary1, bry1, cry1, dry1, ery1, fry1, gry11, hry1, ⟨acry1, iry1⟩, ⟨kcry1, jry1⟩, kry1, lry1, mry1, nry1, ory1, pry1⟩ := id hR
  have hay2 : zAt ad (0) (ad 0) := rfl
  have hay3 : zAt ad (1) (ad 1) := rfl
  have hay4 : zAt ad (2) (ad 2) := rfl
  have hay5 : zAt ad (4) (ad 4) := rfl
  have hay6 : zAt ad (11) (ad 11) := rfl
  have hay7 : zAt ad (447) (ad 447) := rfl
  have hay8 : zAt ad (883) (ad 883) := rfl
  have hay9 : zAt ad (890) (ad 890) := rfl
  have hay10 : zAt ad (900) (ad 900) := rfl
  have hay11 : zAt ad (910) (ad 910) := rfl
  have hay12 : zAt ad (917) (ad 917) := rfl
  have hay13 : zAt ad (919) (ad 919) := rfl
  have hay14 : zAt ad (4 + 1) (ad (4 + 1)) := rfl
  have hay15 : zAt ad (4 + 2) (ad (4 + 2)) := rfl
  have hay16 : zAt ad (4 + 3) (ad (4 + 3)) := rfl
  have hay17 : zAt ad (4 + 4) (ad (4 + 4)) := rfl
  have hay18 : zAt ad (4 + 5) (ad (4 + 5)) := rfl
  have hay19 : zAt ad (4 + 6) (ad (4 + 6)) := rfl
  obtain ⟨thcy20, zhcy20, ohcy20, rhcy20, hzhcy20, hthcy20, hwhcy20⟩ := id lry1
  obtain ⟨thcy21, zhcy21, ohcy21, rhcy21, hzhcy21, hthcy21, hwhcy21⟩ := id mry1
  obtain ⟨asy22, bsy22, csy22, dsy22, esy22, ⟨ptsy22, fsy22, gsy221⟩, hsy22, ⟨nusy22, nvsy22, nwsy22, isy22, jsy22, ksy22, lsy22, msy22, nsy22⟩, rfsy22, osy22⟩ := id iry1
  have hay23 : zAt ad (11 + 1) (ad (11 + 1)) := rfl
  have hay24 : zAt ad (11 + 11) (ad (11 + 11)) := rfl
  have hay25 : zAt ad (11 + 12) (ad (11 + 12)) := rfl
  have hay26 : zAt ad (11 + 13) (ad (11 + 13)) := rfl
  have hay27 : zAt ad (11 + 13 + 1) (ad (11 + 13 + 1)) := rfl
  have hay28 : zAt ad (11 + 13 + 2) (ad (11 + 13 + 2)) := rfl
  have hay29 : zAt ad (11 + 13 + 3) (ad (11 + 13 + 3)) := rfl
  have hay30 : zAt ad (11 + 17) (ad (11 + 17)) := rfl
  obtain ⟨uy31t, uy31z, uy31o, uy31r, uy31z4, uy31t5, uy311, ⟨uy31u, uy312, uy313⟩, uy314⟩ := id csy22
  have hay32 : zAt ad (11 + 1) (ad (11 + 1)) := rfl
  have hay33 : zAt ad (11 + 1 + 1) (ad (11 + 1 + 1)) := rfl
  obtain ⟨sloy34, hooy34, uaoy34, stoy34, opoy34, aioy34, faoy34, muoy34, tboy34, hsloy34, hhooy34, hpoy34⟩ := id kry1
  have hay35 : zAt ad (883 + 1) (ad (883 + 1)) := rfl
  have hay36 : zAt ad (883 + 2) (ad (883 + 2)) := rfl
  have hay37 : zAt ad (883 + 3) (ad (883 + 3)) := rfl
  have hay38 : zAt ad (883 + 4) (ad (883 + 4)) := rfl
  have hay39 : zAt ad (883 + 5) (ad (883 + 5)) := rfl
  have hay40 : zAt ad (883 + 6) (ad (883 + 6)) := rfl
  obtain ⟨rky41, hky41⟩ := id ory1
  refine z_ofX (by decide) (Nat.le_of_ble_eq_true rfl) ?_
  intro p e s m below meth c C hr hlk hxt
  refine z_lv (lv' := [(0, .ref (ad 0)), (1, .int (zI (z))), (2, .int (zI (z1))), (3, .int (zI (z2)))]) [0, 1, 2, 3] rfl ?_
  refine z_aload_n C 0 dX9_compare_0 rfl ?_
  refine z_iload_n C 1 dX9_compare_1 rfl ?_
  have hrecy43 : okRec cs ad g N (t) (fp) (im) (nz) (kz) (sl) (ho) (ua) (st) (op) (ai) (fa) (mu) (tb) (tp) := ⟨ary1, bry1, cry1, dry1, ery1, fry1, gry11, hry1, ⟨_, iry1⟩, ⟨_, jry1⟩, kry1, lry1, mry1, nry1, ory1, pry1⟩
  refine z_cVX (As := [.int (zI (z))]) (rest := []) (ci := 11) C (c_X9_needPit l D A cs tt N ad _ hN _ _ _ _ _ _ _ _ _ _ _ _ _ _ _ hrecy43 hl0 (z) (by omega)) (lt_K hN (rfl : Nat.blt (0) 952 = true)) hay2 ary1 rfl rfl mv_yX9_needPit q_1316 hd_yX9_needPit (by decide) (Nat.le_of_ble_eq_true rfl) (by decide) dX9_compare_2 rfl (fun E N' ad' g' h => by obtain ⟨rfl, rfl, rfl, rfl⟩ := h; exact z_uout C hxt hlk (by decide) (by decide) ⟨rfl, rfl, rfl, rfl⟩) (kV0 fun gvy42 hvy42 => ?_)
  obtain ⟨hvy42, rfl⟩ := hvy42
  refine z_aload_n C 0 dX9_compare_5 rfl ?_
  refine z_iload_n C 2 dX9_compare_6 rfl ?_
  have hrecy45 : okRec cs ad g N (t) (fp) (im) (nz) (kz) (sl) (ho) (ua) (st) (op) (ai) (fa) (mu) (tb) (tp) := ⟨ary1, bry1, cry1, dry1, ery1, fry1, gry11, hry1, ⟨_, iry1⟩, ⟨_, jry1⟩, kry1, lry1, mry1, nry1, ory1, pry1⟩
  refine z_cVX (As := [.int (zI (z1))]) (rest := []) (ci := 11) C (c_X9_needPit l D A cs tt N ad _ hN _ _ _ _ _ _ _ _ _ _ _ _ _ _ _ hrecy45 hl0 (z1) (by omega)) (lt_K hN (rfl : Nat.blt (0) 952 = true)) hay2 ary1 rfl rfl mv_yX9_needPit q_1316 hd_yX9_needPit (by decide) (Nat.le_of_ble_eq_true rfl) (by decide) dX9_compare_7 rfl (fun E N' ad' g' h => by obtain ⟨rfl, rfl, rfl, rfl⟩ := h; exact z_uout C hxt hlk (by decide) (by decide) ⟨rfl, rfl, rfl, rfl⟩) (kV0 fun gvy44 hvy44 => ?_)
  obtain ⟨hvy44, rfl⟩ := hvy44
  refine z_aload_n C 0 dX9_compare_10 rfl ?_
  refine z_get (v := .ref (ad 11)) C (lt_K hN (rfl : Nat.blt (0) 952 = true)) hay2 ary1 rfl inA_X9 5 (by decide) q_354 rfl rfl dX9_compare_11 ?_
  refine z_get (v := .ref (ad (11 + 12))) C (lt_K hN (rfl : Nat.blt (11) 952 = true)) hay6 iry1.1 rfl inA_X6 3 (by decide) q_263 rfl rfl dX9_compare_14 ?_
  refine z_iload_n C 1 dX9_compare_17 rfl ?_
  refine z_aald C (lt_K hN (rfl : Nat.blt (11 + 12) 952 = true)) hay25 fsy22 5 rfl ((z).toNat) (by omega) (by omega) (by decide) (gsy221 (z).toNat (by omega)) dX9_compare_18 ?_
  have hay46 : zAt ad (11 + 418 + 3 * (z).toNat) (ad (11 + 418 + 3 * (z).toNat)) := rfl
  have hay47 : zAt ad (11 + 418 + 3 * (z).toNat + 1) (ad (11 + 418 + 3 * (z).toNat + 1)) := rfl
  have hay48 : zAt ad (11 + 418 + 3 * (z).toNat + 1 + 1) (ad (11 + 418 + 3 * (z).toNat + 1 + 1)) := rfl
  obtain ⟨lpy49, tpy49, zpy49, opy49, rpy49, h1py49, h2py49, h3py49, h4py49⟩ := hsy22 (z).toNat (by omega)
  refine z_get (v := .ref (ad (11 + 418 + 3 * (z).toNat + 1))) C (by omega) hay46 h3py49 rfl inA_X4 2 (by decide) q_249 rfl rfl dX9_compare_19 ?_
  refine z_astore (lv' := [(4, .ref (ad (11 + 418 + 3 * (z).toNat + 1))), (0, .ref (ad 0)), (1, .int (zI (z))), (2, .int (zI (z1))), (3, .int (zI (z2)))]) C dX9_compare_22 (by decide) rfl ?_
  refine z_aload_n C 1 dX9_compare_24 rfl ?_
  refine z_get (v := .ref (ad 11)) C (lt_K hN (rfl : Nat.blt (0) 952 = true)) hay2 ary1 rfl inA_X9 5 (by decide) q_354 rfl rfl dX9_compare_25 ?_
  refine z_get (v := .ref (ad (11 + 12))) C (lt_K hN (rfl : Nat.blt (11) 952 = true)) hay6 iry1.1 rfl inA_X6 3 (by decide) q_263 rfl rfl dX9_compare_28 ?_
  refine z_iload_n C 3 dX9_compare_31 rfl ?_
  refine z_aald C (lt_K hN (rfl : Nat.blt (11 + 12) 952 = true)) hay25 fsy22 5 rfl ((z1).toNat) (by omega) (by omega) (by decide) (gsy221 (z1).toNat (by omega)) dX9_compare_32 ?_
  have hay50 : zAt ad (11 + 418 + 3 * (z1).toNat) (ad (11 + 418 + 3 * (z1).toNat)) := rfl
  have hay51 : zAt ad (11 + 418 + 3 * (z1).toNat + 1) (ad (11 + 418 + 3 * (z1).toNat + 1)) := rfl
  have hay52 : zAt ad (11 + 418 + 3 * (z1).toNat + 1 + 1) (ad (11 + 418 + 3 * (z1).toNat + 1 + 1)) := rfl
  obtain ⟨lpy53, tpy53, zpy53, opy53, rpy53, h1py53, h2py53, h3py53, h4py53⟩ := hsy22 (z1).toNat (by omega)
  refine z_get (v := .ref (ad (11 + 418 + 3 * (z1).toNat + 1))) C (by omega) hay50 h3py53 rfl inA_X4 2 (by decide) q_249 rfl rfl dX9_compare_33 ?_
  refine z_astore (lv' := [(5, .ref (ad (11 + 418 + 3 * (z1).toNat + 1))), (4, .ref (ad (11 + 418 + 3 * (z).toNat + 1))), (0, .ref (ad 0)), (1, .int (zI (z))), (2, .int (zI (z1))), (3, .int (zI (z2)))]) C dX9_compare_36 (by decide) rfl ?_
  refine z_iload_n C 5 dX9_compare_38 rfl ?_
  by_cases hsy54 : z2 ≠ 0 ∧ z2 ≠ 1 ∧ z2 ≠ 2 ∧ z2 ≠ 3
  · refine z_tout (tgt := 131) C dX9_compare_39 (by omega) (by omega) (by decide) ?_
    exact z_thrNW (cls := eNS) (text := "no such comparison") C hl0 (ix := 13) (rx := nsB) ns0 ns1 ns2 ns5 (by decide +kernel) q_904 q_24 (by decide +kernel) at_NS gd_NS dX9_compare_131 dX9_compare_134 dX9_compare_135 dX9_compare_138 dX9_compare_141 hxt (by decide) (Nat.le_of_ble_eq_true rfl) (by decide) (by decide) hlk (by decide) (by decide) ⟨rfl, rfl, rfl, rfl⟩
  · rcases (show z2 = 0 ∨ z2 = 1 ∨ z2 = 2 ∨ z2 = 3 by omega) with rfl | rfl | rfl | rfl
    · refine z_tin (off := 29) (tgt := 68) C dX9_compare_39 (by omega) (by omega) (by omega) rfl (by decide) ?_
      refine z_aload C 1 dX9_compare_68 rfl ?_
      refine z_aload C 0 dX9_compare_70 rfl ?_
      refine z_cV (As := [.ref (ad (11 + 418 + 3 * (z1).toNat + 1))]) (rest := []) (ci := 5) C (c_X3_namesIn l D A cs tt N ad _ (11 + 418 + 3 * (z).toNat + 1) (by omega) _ _ _ (by omega) ⟨h4py49.1, h4py49.2⟩ (11 + 418 + 3 * (z1).toNat + 1) (by omega) _ _ _ (by omega) ⟨h4py53.1, h4py53.2⟩) (by omega) hay47 h4py49.1 rfl rfl mv_yX3_namesIn q_1329 hd_yX3_namesIn (by decide) (Nat.le_of_ble_eq_true rfl) (by decide) dX9_compare_72 rfl (kI0 fun vy55 gvy55 hvy55 => ?_)
      obtain ⟨hvy55, rfl⟩ := hvy55
      have hrecy56 : okRec cs ad g N (t) (fp) (im) (nz) (kz) (sl) (ho) (ua) (st) (op) (ai) (fa) (mu) (tb) (tp) := ⟨ary1, bry1, cry1, dry1, ery1, fry1, gry11, hry1, ⟨_, iry1⟩, ⟨_, jry1⟩, kry1, lry1, mry1, nry1, ory1, pry1⟩
      exact z_rX (z_iret C hr hlk dX9_compare_75 (by decide) (by decide) ⟨vy55, rfl, rfl, rfl, by omega, hrecy56, fun j j1 j2 => by rfl⟩)
    · refine z_tin (off := 37) (tgt := 76) C dX9_compare_39 (by omega) (by omega) (by omega) rfl (by decide) ?_
      refine z_aload_n C 2 dX9_compare_76 rfl ?_
      refine z_get (v := .ref (ad 917)) C (lt_K hN (rfl : Nat.blt (0) 952 = true)) hay2 ary1 rfl inA_X9 12 (by decide) q_361 rfl rfl dX9_compare_77 ?_
      refine z_aload C 1 dX9_compare_80 rfl ?_
      refine z_aload C 0 dX9_compare_82 rfl ?_
      obtain ⟨rky57, hky57⟩ := id ory1
      refine z_cV (As := [.ref (ad (11 + 418 + 3 * (z).toNat + 1)), .ref (ad (11 + 418 + 3 * (z1).toNat + 1))]) (rest := []) (ci := 3) C (c_X1_longestRow l D A cs tt N ad _ 917 (by omega) _ hky57 (11 + 418 + 3 * (z).toNat + 1) (by omega) _ _ _ (by omega) ⟨h4py49.1, h4py49.2⟩ (11 + 418 + 3 * (z1).toNat + 1) (by omega) _ _ _ (by omega) ⟨h4py53.1, h4py53.2⟩ (by omega) (by omega)) (lt_K hN (rfl : Nat.blt (917) 952 = true)) hay12 hky57.1 rfl rfl mv_yX1_longestRow q_1334 hd_yX1_longestRow (by decide) (Nat.le_of_ble_eq_true rfl) (by decide) dX9_compare_84 rfl (kI0 fun vy58 gvy58 hvy58 => ?_)
      obtain ⟨hrvy58, hkvy58, hfvy58⟩ := hvy58
      have hgy59 := (hfvy58 (0) (by omega)).trans ary1
      have hgy60 := (hfvy58 (1) (by omega)).trans dry1
      have hpy61 := okState.mv (ad' := ad) (g' := gvy58) (fun j h1 h2 => by rfl) (fun j h1 h2 => by rw [hfvy58 _ (by omega)]) iry1
      have hpy62 := okRdr.mv (ad' := ad) (g' := gvy58) (fun j h1 h2 => by rfl) (fun j h1 h2 => by rw [hfvy58 _ (by omega)]) ery1
      have hpy63 := isPlan.mv (ad' := ad) (g' := gvy58) (fun j h1 h2 => by rfl) (fun j h1 h2 => by rw [hfvy58 _ (by omega)]) fry1
      have hpy64 := okState.mv (ad' := ad) (g' := gvy58) (fun j h1 h2 => by rfl) (fun j h1 h2 => by rw [hfvy58 _ (by omega)]) jry1
      have hpy65 := okPlan.mv (ad' := ad) (g' := gvy58) (fun j h1 h2 => by rfl) (fun j h1 h2 => by rw [hfvy58 _ (by omega)]) kry1
      have hpy66 := okGss.mv (ad' := ad) (g' := gvy58) (fun j h1 h2 => by rfl) (fun j h1 h2 => by rw [hfvy58 _ (by omega)]) nry1
      have hpy67 := okBld.mv (ad' := ad) (g' := gvy58) (fun j h1 h2 => by rfl) (fun j h1 h2 => by rw [hfvy58 _ (by omega)]) pry1
      have hoky68 : okWorld cs ad gvy58 (890) := okWorld.mv (fun j j1 j2 => by rw [hfvy58 _ (by omega)]) lry1
      have hoky69 : okWorld cs ad gvy58 (900) := okWorld.mv (fun j j1 j2 => by rw [hfvy58 _ (by omega)]) mry1
      have hrecy70 : okRec cs ad gvy58 N (t) (fp) (im) (nz) (kz) (sl) (ho) (ua) (st) (op) (ai) (fa) (mu) (tb) (tp) := ⟨hgy59, bry1, cry1, hgy60, hpy62, hpy63, gry11, hry1, ⟨_, hpy61⟩, ⟨_, hpy64⟩, hpy65, hoky68, hoky69, hpy66, hkvy58, hpy67⟩
      exact z_rX (z_iret C hr hlk dX9_compare_87 (by decide) (by decide) ⟨vy58, rfl, rfl, rfl, by omega, hrecy70, fun j j1 j2 => by rw [hfvy58 _ (by omega)]⟩)
    · refine z_tin (off := 49) (tgt := 88) C dX9_compare_39 (by omega) (by omega) (by omega) rfl (by decide) ?_
      refine z_aload_n C 2 dX9_compare_88 rfl ?_
      refine z_get (v := .ref (ad 917)) C (lt_K hN (rfl : Nat.blt (0) 952 = true)) hay2 ary1 rfl inA_X9 12 (by decide) q_361 rfl rfl dX9_compare_89 ?_
      refine z_aload C 1 dX9_compare_92 rfl ?_
      refine z_aload C 0 dX9_compare_94 rfl ?_
      obtain ⟨rky71, hky71⟩ := id ory1
      refine z_cV (As := [.ref (ad (11 + 418 + 3 * (z).toNat + 1)), .ref (ad (11 + 418 + 3 * (z1).toNat + 1))]) (rest := []) (ci := 3) C (c_X1_fewestSteps l D A cs tt N ad _ 917 (by omega) _ hky71 (11 + 418 + 3 * (z).toNat + 1) (by omega) _ _ _ (by omega) ⟨h4py49.1, h4py49.2⟩ (11 + 418 + 3 * (z1).toNat + 1) (by omega) _ _ _ (by omega) ⟨h4py53.1, h4py53.2⟩ (by omega) (by omega)) (lt_K hN (rfl : Nat.blt (917) 952 = true)) hay12 hky71.1 rfl rfl mv_yX1_fewestSteps q_1339 hd_yX1_fewestSteps (by decide) (Nat.le_of_ble_eq_true rfl) (by decide) dX9_compare_96 rfl (kI0 fun vy72 gvy72 hvy72 => ?_)
      obtain ⟨hrvy72, hkvy72, hfvy72⟩ := hvy72
      have hgy73 := (hfvy72 (0) (by omega)).trans ary1
      have hgy74 := (hfvy72 (1) (by omega)).trans dry1
      have hpy75 := okState.mv (ad' := ad) (g' := gvy72) (fun j h1 h2 => by rfl) (fun j h1 h2 => by rw [hfvy72 _ (by omega)]) iry1
      have hpy76 := okRdr.mv (ad' := ad) (g' := gvy72) (fun j h1 h2 => by rfl) (fun j h1 h2 => by rw [hfvy72 _ (by omega)]) ery1
      have hpy77 := isPlan.mv (ad' := ad) (g' := gvy72) (fun j h1 h2 => by rfl) (fun j h1 h2 => by rw [hfvy72 _ (by omega)]) fry1
      have hpy78 := okState.mv (ad' := ad) (g' := gvy72) (fun j h1 h2 => by rfl) (fun j h1 h2 => by rw [hfvy72 _ (by omega)]) jry1
      have hpy79 := okPlan.mv (ad' := ad) (g' := gvy72) (fun j h1 h2 => by rfl) (fun j h1 h2 => by rw [hfvy72 _ (by omega)]) kry1
      have hpy80 := okGss.mv (ad' := ad) (g' := gvy72) (fun j h1 h2 => by rfl) (fun j h1 h2 => by rw [hfvy72 _ (by omega)]) nry1
      have hpy81 := okBld.mv (ad' := ad) (g' := gvy72) (fun j h1 h2 => by rfl) (fun j h1 h2 => by rw [hfvy72 _ (by omega)]) pry1
      have hoky82 : okWorld cs ad gvy72 (890) := okWorld.mv (fun j j1 j2 => by rw [hfvy72 _ (by omega)]) lry1
      have hoky83 : okWorld cs ad gvy72 (900) := okWorld.mv (fun j j1 j2 => by rw [hfvy72 _ (by omega)]) mry1
      have hrecy84 : okRec cs ad gvy72 N (t) (fp) (im) (nz) (kz) (sl) (ho) (ua) (st) (op) (ai) (fa) (mu) (tb) (tp) := ⟨hgy73, bry1, cry1, hgy74, hpy76, hpy77, gry11, hry1, ⟨_, hpy75⟩, ⟨_, hpy78⟩, hpy79, hoky82, hoky83, hpy80, hkvy72, hpy81⟩
      exact z_rX (z_iret C hr hlk dX9_compare_99 (by decide) (by decide) ⟨vy72, rfl, rfl, rfl, by omega, hrecy84, fun j j1 j2 => by rw [hfvy72 _ (by omega)]⟩)
    · refine z_tin (off := 61) (tgt := 100) C dX9_compare_39 (by omega) (by omega) (by omega) rfl (by decide) ?_
      refine z_aload_n C 2 dX9_compare_100 rfl ?_
      refine z_aload_n C 2 dX9_compare_101 rfl ?_
      refine z_get (v := .ref (ad 11)) C (lt_K hN (rfl : Nat.blt (0) 952 = true)) hay2 ary1 rfl inA_X9 5 (by decide) q_354 rfl rfl dX9_compare_102 ?_
      refine z_get (v := .ref (ad (11 + 12))) C (lt_K hN (rfl : Nat.blt (11) 952 = true)) hay6 iry1.1 rfl inA_X6 3 (by decide) q_263 rfl rfl dX9_compare_105 ?_
      refine z_iload_n C 3 dX9_compare_108 rfl ?_
      refine z_aald C (lt_K hN (rfl : Nat.blt (11 + 12) 952 = true)) hay25 fsy22 5 rfl ((z).toNat) (by omega) (by omega) (by decide) (gsy221 (z).toNat (by omega)) dX9_compare_109 ?_
      refine z_aload_n C 2 dX9_compare_110 rfl ?_
      refine z_get (v := .ref (ad 11)) C (lt_K hN (rfl : Nat.blt (0) 952 = true)) hay2 ary1 rfl inA_X9 5 (by decide) q_354 rfl rfl dX9_compare_111 ?_
      refine z_get (v := .ref (ad (11 + 12))) C (lt_K hN (rfl : Nat.blt (11) 952 = true)) hay6 iry1.1 rfl inA_X6 3 (by decide) q_263 rfl rfl dX9_compare_114 ?_
      refine z_iload_n C 4 dX9_compare_117 rfl ?_
      refine z_aald C (lt_K hN (rfl : Nat.blt (11 + 12) 952 = true)) hay25 fsy22 5 rfl ((z1).toNat) (by omega) (by omega) (by decide) (gsy221 (z1).toNat (by omega)) dX9_compare_118 ?_
      have hrecy86 : okRec cs ad g N (t) (fp) (im) (nz) (kz) (sl) (ho) (ua) (st) (op) (ai) (fa) (mu) (tb) (tp) := ⟨ary1, bry1, cry1, dry1, ery1, fry1, gry11, hry1, ⟨_, iry1⟩, ⟨_, jry1⟩, kry1, lry1, mry1, nry1, ory1, pry1⟩
      refine z_cV (As := [.ref (ad (11 + 418 + 3 * (z).toNat)), .ref (ad (11 + 418 + 3 * (z1).toNat))]) (rest := []) (ci := 11) C (c_X9_isSameWeakest l D A cs tt N ad _ hN _ _ _ _ _ _ _ _ _ _ _ _ _ _ _ hrecy86 ((z).toNat) ((z1).toNat) (by omega) (by omega)) (lt_K hN (rfl : Nat.blt (0) 952 = true)) hay2 ary1 rfl rfl mv_yX9_isSameWeakest q_1344 hd_yX9_isSameWeakest (by decide) (Nat.le_of_ble_eq_true rfl) (by decide) dX9_compare_119 rfl (kI0 fun vy85 gvy85 hvy85 => ?_)
      obtain ⟨hvy85, rfl⟩ := hvy85
      refine z_if_eq (tgt := 129) C dX9_compare_122 (by decide) (by omega) (fun hby87 => ?_) (fun hby87 => ?_)
      · refine z_iconst (z := 0) C dX9_compare_129 rfl ?_
        have hrecy88 : okRec cs ad g N (t) (fp) (im) (nz) (kz) (sl) (ho) (ua) (st) (op) (ai) (fa) (mu) (tb) (tp) := ⟨ary1, bry1, cry1, dry1, ery1, fry1, gry11, hry1, ⟨_, iry1⟩, ⟨_, jry1⟩, kry1, lry1, mry1, nry1, ory1, pry1⟩
        exact z_rX (z_iret C hr hlk dX9_compare_130 (by decide) (by decide) ⟨0, rfl, rfl, rfl, by omega, hrecy88, fun j j1 j2 => by rfl⟩)
      · refine z_iconst (z := 1) C dX9_compare_125 rfl ?_
        refine z_goto (tgt := 130) C dX9_compare_126 (by decide) ?_
        have hrecy89 : okRec cs ad g N (t) (fp) (im) (nz) (kz) (sl) (ho) (ua) (st) (op) (ai) (fa) (mu) (tb) (tp) := ⟨ary1, bry1, cry1, dry1, ery1, fry1, gry11, hry1, ⟨_, iry1⟩, ⟨_, jry1⟩, kry1, lry1, mry1, nry1, ory1, pry1⟩
        exact z_rX (z_iret C hr hlk dX9_compare_130 (by decide) (by decide) ⟨1, rfl, rfl, rfl, by omega, hrecy89, fun j j1 j2 => by rfl⟩)

set_option maxRecDepth 100000 in
set_option maxHeartbeats 4000000 in
theorem c_X9_nearest (l : Launch) (D : va_G) (A : Nat → Prop) (cs : Nat → ClassId) (tt : Nat) (N : Nat) (ad : Nat → Nat) (g : Nat → va_E) (hN : 952 ≤ N) (t fp im nz kz sl ho ua : Int) (st op ai fa mu tb tp : Nat → Int) (hR : okRec cs ad g N t fp im nz kz sl ho ua st op ai fa mu tb tp) (hl0 : l.stackTraces = false) (z : Int) (hz : -2147483648 ≤ z ∧ z ≤ 2147483647) : zMX l yX9_nearest cX9_nearest 6 (some .int) ({ frames := 12, cells := 6, slots := 60, locals := 720 } : Room) D A cs tt N ad g [.ref (ad 0), .int (zI (z))] (rI0 N ad fun r g' => (-2147483648 ≤ r ∧ r ≤ 2147483647) ∧ okRec cs ad g' N t fp im nz kz sl ho ua st op ai fa mu tb tp ∧ oX g g') (fun E N' ad' g' => E = eNS ∧ N' = N ∧ ad' = ad ∧ g' = g) := by
  obtain ⟨ary1, bry1, cry1, dry1, ery1, fry1, gry11, hry1, ⟨acry1, iry1⟩, ⟨kcry1, jry1⟩, kry1, lry1, mry1, nry1, ory1, pry1⟩ := id hR
  have hay2 : zAt ad (0) (ad 0) := rfl
  have hay3 : zAt ad (1) (ad 1) := rfl
  have hay4 : zAt ad (2) (ad 2) := rfl
  have hay5 : zAt ad (4) (ad 4) := rfl
  have hay6 : zAt ad (11) (ad 11) := rfl
  have hay7 : zAt ad (447) (ad 447) := rfl
  have hay8 : zAt ad (883) (ad 883) := rfl
  have hay9 : zAt ad (890) (ad 890) := rfl
  have hay10 : zAt ad (900) (ad 900) := rfl
  have hay11 : zAt ad (910) (ad 910) := rfl
  have hay12 : zAt ad (917) (ad 917) := rfl
  have hay13 : zAt ad (919) (ad 919) := rfl
  have hay14 : zAt ad (4 + 1) (ad (4 + 1)) := rfl
  have hay15 : zAt ad (4 + 2) (ad (4 + 2)) := rfl
  have hay16 : zAt ad (4 + 3) (ad (4 + 3)) := rfl
  have hay17 : zAt ad (4 + 4) (ad (4 + 4)) := rfl
  have hay18 : zAt ad (4 + 5) (ad (4 + 5)) := rfl
  have hay19 : zAt ad (4 + 6) (ad (4 + 6)) := rfl
  obtain ⟨thcy20, zhcy20, ohcy20, rhcy20, hzhcy20, hthcy20, hwhcy20⟩ := id lry1
  obtain ⟨thcy21, zhcy21, ohcy21, rhcy21, hzhcy21, hthcy21, hwhcy21⟩ := id mry1
  obtain ⟨asy22, bsy22, csy22, dsy22, esy22, ⟨ptsy22, fsy22, gsy221⟩, hsy22, ⟨nusy22, nvsy22, nwsy22, isy22, jsy22, ksy22, lsy22, msy22, nsy22⟩, rfsy22, osy22⟩ := id iry1
  have hay23 : zAt ad (11 + 1) (ad (11 + 1)) := rfl
  have hay24 : zAt ad (11 + 11) (ad (11 + 11)) := rfl
  have hay25 : zAt ad (11 + 12) (ad (11 + 12)) := rfl
  have hay26 : zAt ad (11 + 13) (ad (11 + 13)) := rfl
  have hay27 : zAt ad (11 + 13 + 1) (ad (11 + 13 + 1)) := rfl
  have hay28 : zAt ad (11 + 13 + 2) (ad (11 + 13 + 2)) := rfl
  have hay29 : zAt ad (11 + 13 + 3) (ad (11 + 13 + 3)) := rfl
  have hay30 : zAt ad (11 + 17) (ad (11 + 17)) := rfl
  obtain ⟨uy31t, uy31z, uy31o, uy31r, uy31z4, uy31t5, uy311, ⟨uy31u, uy312, uy313⟩, uy314⟩ := id csy22
  have hay32 : zAt ad (11 + 1) (ad (11 + 1)) := rfl
  have hay33 : zAt ad (11 + 1 + 1) (ad (11 + 1 + 1)) := rfl
  obtain ⟨sloy34, hooy34, uaoy34, stoy34, opoy34, aioy34, faoy34, muoy34, tboy34, hsloy34, hhooy34, hpoy34⟩ := id kry1
  have hay35 : zAt ad (883 + 1) (ad (883 + 1)) := rfl
  have hay36 : zAt ad (883 + 2) (ad (883 + 2)) := rfl
  have hay37 : zAt ad (883 + 3) (ad (883 + 3)) := rfl
  have hay38 : zAt ad (883 + 4) (ad (883 + 4)) := rfl
  have hay39 : zAt ad (883 + 5) (ad (883 + 5)) := rfl
  have hay40 : zAt ad (883 + 6) (ad (883 + 6)) := rfl
  obtain ⟨rky41, hky41⟩ := id ory1
  refine z_ofX (by decide) (Nat.le_of_ble_eq_true rfl) ?_
  intro p e s m below meth c C hr hlk hxt
  refine z_lv (lv' := [(0, .ref (ad 0)), (1, .int (zI (z)))]) [0, 1] rfl ?_
  refine z_aload_n C 0 dX9_nearest_0 rfl ?_
  refine z_iload_n C 1 dX9_nearest_1 rfl ?_
  have hrecy43 : okRec cs ad g N (t) (fp) (im) (nz) (kz) (sl) (ho) (ua) (st) (op) (ai) (fa) (mu) (tb) (tp) := ⟨ary1, bry1, cry1, dry1, ery1, fry1, gry11, hry1, ⟨_, iry1⟩, ⟨_, jry1⟩, kry1, lry1, mry1, nry1, ory1, pry1⟩
  refine z_cVX (As := [.int (zI (z))]) (rest := []) (ci := 11) C (c_X9_needPit l D A cs tt N ad _ hN _ _ _ _ _ _ _ _ _ _ _ _ _ _ _ hrecy43 hl0 (z) (by omega)) (lt_K hN (rfl : Nat.blt (0) 952 = true)) hay2 ary1 rfl rfl mv_yX9_needPit q_1316 hd_yX9_needPit (by decide) (Nat.le_of_ble_eq_true rfl) (by decide) dX9_nearest_2 rfl (fun E N' ad' g' h => by obtain ⟨rfl, rfl, rfl, rfl⟩ := h; exact z_uout C hxt hlk (by decide) (by decide) ⟨rfl, rfl, rfl, rfl⟩) (kV0 fun gvy42 hvy42 => ?_)
  obtain ⟨hvy42, rfl⟩ := hvy42
  refine z_iconst (z := -1) C dX9_nearest_5 rfl ?_
  refine z_istore_n (lv' := [(2, .int (zI (-1))), (0, .ref (ad 0)), (1, .int (zI (z)))]) C dX9_nearest_6 rfl (by decide) rfl ?_
  refine z_iconst (z := 0) C dX9_nearest_7 rfl ?_
  refine z_istore_n (lv' := [(3, .int (zI (0))), (2, .int (zI (-1))), (0, .ref (ad 0)), (1, .int (zI (z)))]) C dX9_nearest_8 rfl (by decide) rfl ?_
  refine z_iconst (z := 0) C dX9_nearest_9 rfl ?_
  refine z_istore (lv' := [(4, .int (zI (0))), (3, .int (zI (0))), (2, .int (zI (-1))), (0, .ref (ad 0)), (1, .int (zI (z)))]) C dX9_nearest_10 (by decide) rfl ?_
  have lp12 : ∀ (n9 : Nat) (i : Int) (fe : Int) (wh : Int) (g1 : Nat → va_E), (4 - i).toNat = n9 → (okRec cs ad g1 N t fp im nz kz sl ho ua st op ai fa mu tb tp) → (oX g g1) → (0 ≤ i ∧ i ≤ 4) → (-2147483648 ≤ fe ∧ fe ≤ 2147483647) → (-1 ≤ wh ∧ wh ≤ 4) → (0 ≤ z ∧ z ≤ 5) → zV p l e ({ frames := 12, cells := 6, slots := 60, locals := 720 } : Room) s m ([.ref (ad 0), .int (zI (z))] : List Value).toArray below meth c (vx_MQ below (zPost D A (rI0 N ad fun r g' => (-2147483648 ≤ r ∧ r ≤ 2147483647) ∧ okRec cs ad g' N t fp im nz kz sl ho ua st op ai fa mu tb tp ∧ oX g g')) (zX D A (fun E N' ad' g' => E = eNS ∧ N' = N ∧ ad' = ad ∧ g' = g)) ([.ref (ad 0), .int (zI (z))] : List Value).toArray s ({ frames := 12, cells := 6, slots := 60, locals := 720 } : Room).cells ({ frames := 12, cells := 6, slots := 60, locals := 720 } : Room).slots A) D A 6 (N) ad g1 (1) (6) 12 [(4, .int (zI (i))), (3, .int (zI (fe))), (2, .int (zI (wh))), (0, .ref (ad 0)), (1, .int (zI (z)))] [] := by
    intro n9
    induction n9 using Nat.strongRecOn with
    | ind n9 ih_lp12 =>
      intro i fe wh g1 hm9 f1 f2 hv12_0 hv12_1 hv12_2 hv12_3
      obtain ⟨ary44, bry44, cry44, dry44, ery44, fry44, gry441, hry44, ⟨acry44, iry44⟩, ⟨kcry44, jry44⟩, kry44, lry44, mry44, nry44, ory44, pry44⟩ := id f1
      have hay45 : zAt ad (0) (ad 0) := rfl
      have hay46 : zAt ad (1) (ad 1) := rfl
      have hay47 : zAt ad (2) (ad 2) := rfl
      have hay48 : zAt ad (4) (ad 4) := rfl
      have hay49 : zAt ad (11) (ad 11) := rfl
      have hay50 : zAt ad (447) (ad 447) := rfl
      have hay51 : zAt ad (883) (ad 883) := rfl
      have hay52 : zAt ad (890) (ad 890) := rfl
      have hay53 : zAt ad (900) (ad 900) := rfl
      have hay54 : zAt ad (910) (ad 910) := rfl
      have hay55 : zAt ad (917) (ad 917) := rfl
      have hay56 : zAt ad (919) (ad 919) := rfl
      have hay57 : zAt ad (4 + 1) (ad (4 + 1)) := rfl
      have hay58 : zAt ad (4 + 2) (ad (4 + 2)) := rfl
      have hay59 : zAt ad (4 + 3) (ad (4 + 3)) := rfl
      have hay60 : zAt ad (4 + 4) (ad (4 + 4)) := rfl
      have hay61 : zAt ad (4 + 5) (ad (4 + 5)) := rfl
      have hay62 : zAt ad (4 + 6) (ad (4 + 6)) := rfl
      obtain ⟨thcy63, zhcy63, ohcy63, rhcy63, hzhcy63, hthcy63, hwhcy63⟩ := id lry44
      obtain ⟨thcy64, zhcy64, ohcy64, rhcy64, hzhcy64, hthcy64, hwhcy64⟩ := id mry44
      obtain ⟨asy65, bsy65, csy65, dsy65, esy65, ⟨ptsy65, fsy65, gsy651⟩, hsy65, ⟨nusy65, nvsy65, nwsy65, isy65, jsy65, ksy65, lsy65, msy65, nsy65⟩, rfsy65, osy65⟩ := id iry44
      have hay66 : zAt ad (11 + 1) (ad (11 + 1)) := rfl
      have hay67 : zAt ad (11 + 11) (ad (11 + 11)) := rfl
      have hay68 : zAt ad (11 + 12) (ad (11 + 12)) := rfl
      have hay69 : zAt ad (11 + 13) (ad (11 + 13)) := rfl
      have hay70 : zAt ad (11 + 13 + 1) (ad (11 + 13 + 1)) := rfl
      have hay71 : zAt ad (11 + 13 + 2) (ad (11 + 13 + 2)) := rfl
      have hay72 : zAt ad (11 + 13 + 3) (ad (11 + 13 + 3)) := rfl
      have hay73 : zAt ad (11 + 17) (ad (11 + 17)) := rfl
      obtain ⟨uy74t, uy74z, uy74o, uy74r, uy74z4, uy74t5, uy741, ⟨uy74u, uy742, uy743⟩, uy744⟩ := id csy65
      have hay75 : zAt ad (11 + 1) (ad (11 + 1)) := rfl
      have hay76 : zAt ad (11 + 1 + 1) (ad (11 + 1 + 1)) := rfl
      obtain ⟨sloy77, hooy77, uaoy77, stoy77, opoy77, aioy77, faoy77, muoy77, tboy77, hsloy77, hhooy77, hpoy77⟩ := id kry44
      have hay78 : zAt ad (883 + 1) (ad (883 + 1)) := rfl
      have hay79 : zAt ad (883 + 2) (ad (883 + 2)) := rfl
      have hay80 : zAt ad (883 + 3) (ad (883 + 3)) := rfl
      have hay81 : zAt ad (883 + 4) (ad (883 + 4)) := rfl
      have hay82 : zAt ad (883 + 5) (ad (883 + 5)) := rfl
      have hay83 : zAt ad (883 + 6) (ad (883 + 6)) := rfl
      obtain ⟨rky84, hky84⟩ := id ory44
      refine z_iload C 0 dX9_nearest_12 rfl ?_
      refine z_aload_n C 3 dX9_nearest_14 rfl ?_
      refine z_get (v := .ref (ad 4)) C (lt_K hN (rfl : Nat.blt (0) 952 = true)) hay45 ary44 rfl inA_X9 4 (by decide) q_353 rfl rfl dX9_nearest_15 ?_
      refine z_get (v := .int (zI (sl))) C (lt_K hN (rfl : Nat.blt (4) 952 = true)) hay48 fry44.1 rfl inA_X5 0 (by decide) q_90 rfl rfl dX9_nearest_18 ?_
      refine z_icmp_ge (tgt := 81) C dX9_nearest_21 (by decide) (by omega) (by omega) (fun hby85 => ?_) (fun hby85 => ?_)
      · refine z_iload_n C 2 dX9_nearest_81 rfl ?_
        have hrecy86 : okRec cs ad g1 N (t) (fp) (im) (nz) (kz) (sl) (ho) (ua) (st) (op) (ai) (fa) (mu) (tb) (tp) := ⟨ary44, bry44, cry44, dry44, ery44, fry44, gry441, hry44, ⟨_, iry44⟩, ⟨_, jry44⟩, kry44, lry44, mry44, nry44, ory44, pry44⟩
        exact z_rX (z_iret C hr hlk dX9_nearest_82 (by decide) (by decide) ⟨wh, rfl, rfl, rfl, by omega, hrecy86, fun j j1 j2 => by exact f2 j j1 j2⟩)
      · refine z_aload_n C 3 dX9_nearest_24 rfl ?_
        refine z_get (v := .ref (ad 917)) C (lt_K hN (rfl : Nat.blt (0) 952 = true)) hay45 ary44 rfl inA_X9 12 (by decide) q_361 rfl rfl dX9_nearest_25 ?_
        refine z_aload_n C 3 dX9_nearest_28 rfl ?_
        refine z_get (v := .ref (ad 11)) C (lt_K hN (rfl : Nat.blt (0) 952 = true)) hay45 ary44 rfl inA_X9 5 (by decide) q_354 rfl rfl dX9_nearest_29 ?_
        refine z_get (v := .ref (ad (11 + 1))) C (lt_K hN (rfl : Nat.blt (11) 952 = true)) hay49 iry44.1 rfl inA_X6 0 (by decide) q_258 rfl rfl dX9_nearest_32 ?_
        refine z_get (v := .ref (ad (11 + 1 + 1))) C (lt_K hN (rfl : Nat.blt (11 + 1) 952 = true)) hay75 uy741 rfl inA_X8 6 (by decide) q_191 rfl rfl dX9_nearest_35 ?_
        refine z_iload C 0 dX9_nearest_38 rfl ?_
        refine z_aald C (lt_K hN (rfl : Nat.blt (11 + 1 + 1) 952 = true)) hay76 uy742 3 rfl ((i).toNat) (by omega) (by omega) (by decide) (uy743 (i).toNat (by omega)) dX9_nearest_40 ?_
        have hay87 : zAt ad (11 + 1 + 2 + 2 * (i).toNat) (ad (11 + 1 + 2 + 2 * (i).toNat)) := rfl
        have hay88 : zAt ad (11 + 1 + 2 + 2 * (i).toNat + 1) (ad (11 + 1 + 2 + 2 * (i).toNat + 1)) := rfl
        have hpy89 := uy744 (i).toNat (by omega)
        have hqy90 := uy74z4 (i).toNat (by omega)
        refine z_aload_n C 3 dX9_nearest_41 rfl ?_
        refine z_get (v := .ref (ad 11)) C (lt_K hN (rfl : Nat.blt (0) 952 = true)) hay45 ary44 rfl inA_X9 5 (by decide) q_354 rfl rfl dX9_nearest_42 ?_
        refine z_get (v := .ref (ad (11 + 12))) C (lt_K hN (rfl : Nat.blt (11) 952 = true)) hay49 iry44.1 rfl inA_X6 3 (by decide) q_263 rfl rfl dX9_nearest_45 ?_
        refine z_iload_n C 4 dX9_nearest_48 rfl ?_
        refine z_aald C (lt_K hN (rfl : Nat.blt (11 + 12) 952 = true)) hay68 fsy65 5 rfl ((z).toNat) (by omega) (by omega) (by decide) (gsy651 (z).toNat (by omega)) dX9_nearest_49 ?_
        have hay91 : zAt ad (11 + 418 + 3 * (z).toNat) (ad (11 + 418 + 3 * (z).toNat)) := rfl
        have hay92 : zAt ad (11 + 418 + 3 * (z).toNat + 1) (ad (11 + 418 + 3 * (z).toNat + 1)) := rfl
        have hay93 : zAt ad (11 + 418 + 3 * (z).toNat + 1 + 1) (ad (11 + 418 + 3 * (z).toNat + 1 + 1)) := rfl
        obtain ⟨lpy94, tpy94, zpy94, opy94, rpy94, h1py94, h2py94, h3py94, h4py94⟩ := hsy65 (z).toNat (by omega)
        refine z_get (v := .ref (ad (11 + 418 + 3 * (z).toNat + 1))) C (by omega) hay91 h3py94 rfl inA_X4 2 (by decide) q_249 rfl rfl dX9_nearest_50 ?_
        obtain ⟨rky95, hky95⟩ := id ory44
        refine z_cV (As := [.ref (ad (11 + 1 + 2 + 2 * (i).toNat)), .ref (ad (11 + 418 + 3 * (z).toNat + 1))]) (rest := []) (ci := 3) C (c_X1_fewestSteps l D A cs tt N ad _ 917 (by omega) _ hky95 (11 + 1 + 2 + 2 * (i).toNat) (by omega) _ _ _ (by omega) ⟨hpy89.1, hpy89.2⟩ (11 + 418 + 3 * (z).toNat + 1) (by omega) _ _ _ (by omega) ⟨h4py94.1, h4py94.2⟩ (by omega) (by omega)) (lt_K hN (rfl : Nat.blt (917) 952 = true)) hay55 hky95.1 rfl rfl mv_yX1_fewestSteps q_1339 hd_yX1_fewestSteps (by decide) (Nat.le_of_ble_eq_true rfl) (by decide) dX9_nearest_53 rfl (kI0 fun vy96 gvy96 hvy96 => ?_)
        obtain ⟨hrvy96, hkvy96, hfvy96⟩ := hvy96
        refine z_istore (lv' := [(5, .int (zI (vy96))), (4, .int (zI (i))), (3, .int (zI (fe))), (2, .int (zI (wh))), (0, .ref (ad 0)), (1, .int (zI (z)))]) C dX9_nearest_56 (by decide) rfl ?_
        refine z_iload_n C 3 dX9_nearest_58 rfl ?_
        refine z_iconst (z := -1) C dX9_nearest_59 rfl ?_
        refine z_icmp_eq (tgt := 69) C dX9_nearest_60 (by decide) (by omega) (by omega) (fun hby97 => ?_) (fun hby97 => ?_)
        · refine z_iload C 1 dX9_nearest_69 rfl ?_
          refine z_istore_n (lv' := [(2, .int (zI (i))), (5, .int (zI (vy96))), (4, .int (zI (i))), (3, .int (zI (fe))), (0, .ref (ad 0)), (1, .int (zI (z)))]) C dX9_nearest_71 rfl (by decide) rfl ?_
          refine z_iload C 1 dX9_nearest_72 rfl ?_
          refine z_istore_n (lv' := [(3, .int (zI (vy96))), (2, .int (zI (i))), (5, .int (zI (vy96))), (4, .int (zI (i))), (0, .ref (ad 0)), (1, .int (zI (z)))]) C dX9_nearest_74 rfl (by decide) rfl ?_
          refine z_iinc (z := i + 1) (lv' := [(4, .int (zI (i + 1))), (3, .int (zI (vy96))), (2, .int (zI (i))), (5, .int (zI (vy96))), (0, .ref (ad 0)), (1, .int (zI (z)))]) (j := 3) C dX9_nearest_75 rfl rfl (by decide) rfl ?_
          refine z_goto (tgt := 12) C dX9_nearest_78 (by decide) ?_
          have hgy98 := (hfvy96 (0) (by omega)).trans ary44
          have hgy99 := (hfvy96 (1) (by omega)).trans dry44
          have hpy100 := okState.mv (ad' := ad) (g' := gvy96) (fun j h1 h2 => by rfl) (fun j h1 h2 => by rw [hfvy96 _ (by omega)]) iry44
          have hpy101 := okRdr.mv (ad' := ad) (g' := gvy96) (fun j h1 h2 => by rfl) (fun j h1 h2 => by rw [hfvy96 _ (by omega)]) ery44
          have hpy102 := isPlan.mv (ad' := ad) (g' := gvy96) (fun j h1 h2 => by rfl) (fun j h1 h2 => by rw [hfvy96 _ (by omega)]) fry44
          have hpy103 := okState.mv (ad' := ad) (g' := gvy96) (fun j h1 h2 => by rfl) (fun j h1 h2 => by rw [hfvy96 _ (by omega)]) jry44
          have hpy104 := okPlan.mv (ad' := ad) (g' := gvy96) (fun j h1 h2 => by rfl) (fun j h1 h2 => by rw [hfvy96 _ (by omega)]) kry44
          have hpy105 := okGss.mv (ad' := ad) (g' := gvy96) (fun j h1 h2 => by rfl) (fun j h1 h2 => by rw [hfvy96 _ (by omega)]) nry44
          have hpy106 := okBld.mv (ad' := ad) (g' := gvy96) (fun j h1 h2 => by rfl) (fun j h1 h2 => by rw [hfvy96 _ (by omega)]) pry44
          have hoky107 : okWorld cs ad gvy96 (890) := okWorld.mv (fun j j1 j2 => by rw [hfvy96 _ (by omega)]) lry44
          have hoky108 : okWorld cs ad gvy96 (900) := okWorld.mv (fun j j1 j2 => by rw [hfvy96 _ (by omega)]) mry44
          have hrecy109 : okRec cs ad gvy96 N (t) (fp) (im) (nz) (kz) (sl) (ho) (ua) (st) (op) (ai) (fa) (mu) (tb) (tp) := ⟨hgy98, bry44, cry44, hgy99, hpy101, hpy102, gry441, hry44, ⟨_, hpy100⟩, ⟨_, hpy103⟩, hpy104, hoky107, hoky108, hpy105, hkvy96, hpy106⟩
          refine z_lv (lv' := [(4, .int (zI (i + 1))), (3, .int (zI (vy96))), (2, .int (zI (i))), (0, .ref (ad 0)), (1, .int (zI (z)))]) [0, 1, 2, 4, 5] rfl ?_
          exact ih_lp12 _ (by omega) (i + 1) (vy96) (i) gvy96 rfl hrecy109 (fun j j1 j2 => by rw [hfvy96 _ (by omega)]; exact f2 j j1 j2) (by omega) (by omega) (by omega) (by omega)
        · refine z_iload C 0 dX9_nearest_63 rfl ?_
          refine z_iload_n C 2 dX9_nearest_65 rfl ?_
          refine z_icmp_ge (tgt := 75) C dX9_nearest_66 (by decide) (by omega) (by omega) (fun hby110 => ?_) (fun hby110 => ?_)
          · refine z_iinc (z := i + 1) (lv' := [(4, .int (zI (i + 1))), (5, .int (zI (vy96))), (3, .int (zI (fe))), (2, .int (zI (wh))), (0, .ref (ad 0)), (1, .int (zI (z)))]) (j := 1) C dX9_nearest_75 rfl rfl (by decide) rfl ?_
            refine z_goto (tgt := 12) C dX9_nearest_78 (by decide) ?_
            have hgy111 := (hfvy96 (0) (by omega)).trans ary44
            have hgy112 := (hfvy96 (1) (by omega)).trans dry44
            have hpy113 := okState.mv (ad' := ad) (g' := gvy96) (fun j h1 h2 => by rfl) (fun j h1 h2 => by rw [hfvy96 _ (by omega)]) iry44
            have hpy114 := okRdr.mv (ad' := ad) (g' := gvy96) (fun j h1 h2 => by rfl) (fun j h1 h2 => by rw [hfvy96 _ (by omega)]) ery44
            have hpy115 := isPlan.mv (ad' := ad) (g' := gvy96) (fun j h1 h2 => by rfl) (fun j h1 h2 => by rw [hfvy96 _ (by omega)]) fry44
            have hpy116 := okState.mv (ad' := ad) (g' := gvy96) (fun j h1 h2 => by rfl) (fun j h1 h2 => by rw [hfvy96 _ (by omega)]) jry44
            have hpy117 := okPlan.mv (ad' := ad) (g' := gvy96) (fun j h1 h2 => by rfl) (fun j h1 h2 => by rw [hfvy96 _ (by omega)]) kry44
            have hpy118 := okGss.mv (ad' := ad) (g' := gvy96) (fun j h1 h2 => by rfl) (fun j h1 h2 => by rw [hfvy96 _ (by omega)]) nry44
            have hpy119 := okBld.mv (ad' := ad) (g' := gvy96) (fun j h1 h2 => by rfl) (fun j h1 h2 => by rw [hfvy96 _ (by omega)]) pry44
            have hoky120 : okWorld cs ad gvy96 (890) := okWorld.mv (fun j j1 j2 => by rw [hfvy96 _ (by omega)]) lry44
            have hoky121 : okWorld cs ad gvy96 (900) := okWorld.mv (fun j j1 j2 => by rw [hfvy96 _ (by omega)]) mry44
            have hrecy122 : okRec cs ad gvy96 N (t) (fp) (im) (nz) (kz) (sl) (ho) (ua) (st) (op) (ai) (fa) (mu) (tb) (tp) := ⟨hgy111, bry44, cry44, hgy112, hpy114, hpy115, gry441, hry44, ⟨_, hpy113⟩, ⟨_, hpy116⟩, hpy117, hoky120, hoky121, hpy118, hkvy96, hpy119⟩
            refine z_lv (lv' := [(4, .int (zI (i + 1))), (3, .int (zI (fe))), (2, .int (zI (wh))), (0, .ref (ad 0)), (1, .int (zI (z)))]) [0, 2, 3, 4, 5] rfl ?_
            exact ih_lp12 _ (by omega) (i + 1) (fe) (wh) gvy96 rfl hrecy122 (fun j j1 j2 => by rw [hfvy96 _ (by omega)]; exact f2 j j1 j2) (by omega) (by omega) (by omega) (by omega)
          · refine z_iload C 1 dX9_nearest_69 rfl ?_
            refine z_istore_n (lv' := [(2, .int (zI (i))), (5, .int (zI (vy96))), (4, .int (zI (i))), (3, .int (zI (fe))), (0, .ref (ad 0)), (1, .int (zI (z)))]) C dX9_nearest_71 rfl (by decide) rfl ?_
            refine z_iload C 1 dX9_nearest_72 rfl ?_
            refine z_istore_n (lv' := [(3, .int (zI (vy96))), (2, .int (zI (i))), (5, .int (zI (vy96))), (4, .int (zI (i))), (0, .ref (ad 0)), (1, .int (zI (z)))]) C dX9_nearest_74 rfl (by decide) rfl ?_
            refine z_iinc (z := i + 1) (lv' := [(4, .int (zI (i + 1))), (3, .int (zI (vy96))), (2, .int (zI (i))), (5, .int (zI (vy96))), (0, .ref (ad 0)), (1, .int (zI (z)))]) (j := 3) C dX9_nearest_75 rfl rfl (by decide) rfl ?_
            refine z_goto (tgt := 12) C dX9_nearest_78 (by decide) ?_
            have hgy123 := (hfvy96 (0) (by omega)).trans ary44
            have hgy124 := (hfvy96 (1) (by omega)).trans dry44
            have hpy125 := okState.mv (ad' := ad) (g' := gvy96) (fun j h1 h2 => by rfl) (fun j h1 h2 => by rw [hfvy96 _ (by omega)]) iry44
            have hpy126 := okRdr.mv (ad' := ad) (g' := gvy96) (fun j h1 h2 => by rfl) (fun j h1 h2 => by rw [hfvy96 _ (by omega)]) ery44
            have hpy127 := isPlan.mv (ad' := ad) (g' := gvy96) (fun j h1 h2 => by rfl) (fun j h1 h2 => by rw [hfvy96 _ (by omega)]) fry44
            have hpy128 := okState.mv (ad' := ad) (g' := gvy96) (fun j h1 h2 => by rfl) (fun j h1 h2 => by rw [hfvy96 _ (by omega)]) jry44
            have hpy129 := okPlan.mv (ad' := ad) (g' := gvy96) (fun j h1 h2 => by rfl) (fun j h1 h2 => by rw [hfvy96 _ (by omega)]) kry44
            have hpy130 := okGss.mv (ad' := ad) (g' := gvy96) (fun j h1 h2 => by rfl) (fun j h1 h2 => by rw [hfvy96 _ (by omega)]) nry44
            have hpy131 := okBld.mv (ad' := ad) (g' := gvy96) (fun j h1 h2 => by rfl) (fun j h1 h2 => by rw [hfvy96 _ (by omega)]) pry44
            have hoky132 : okWorld cs ad gvy96 (890) := okWorld.mv (fun j j1 j2 => by rw [hfvy96 _ (by omega)]) lry44
            have hoky133 : okWorld cs ad gvy96 (900) := okWorld.mv (fun j j1 j2 => by rw [hfvy96 _ (by omega)]) mry44
            have hrecy134 : okRec cs ad gvy96 N (t) (fp) (im) (nz) (kz) (sl) (ho) (ua) (st) (op) (ai) (fa) (mu) (tb) (tp) := ⟨hgy123, bry44, cry44, hgy124, hpy126, hpy127, gry441, hry44, ⟨_, hpy125⟩, ⟨_, hpy128⟩, hpy129, hoky132, hoky133, hpy130, hkvy96, hpy131⟩
            refine z_lv (lv' := [(4, .int (zI (i + 1))), (3, .int (zI (vy96))), (2, .int (zI (i))), (0, .ref (ad 0)), (1, .int (zI (z)))]) [0, 1, 2, 4, 5] rfl ?_
            exact ih_lp12 _ (by omega) (i + 1) (vy96) (i) gvy96 rfl hrecy134 (fun j j1 j2 => by rw [hfvy96 _ (by omega)]; exact f2 j j1 j2) (by omega) (by omega) (by omega) (by omega)
  have hrecy135 : okRec cs ad g N (t) (fp) (im) (nz) (kz) (sl) (ho) (ua) (st) (op) (ai) (fa) (mu) (tb) (tp) := ⟨ary1, bry1, cry1, dry1, ery1, fry1, gry11, hry1, ⟨_, iry1⟩, ⟨_, jry1⟩, kry1, lry1, mry1, nry1, ory1, pry1⟩
  refine z_lv (lv' := [(4, .int (zI (0))), (3, .int (zI (0))), (2, .int (zI (-1))), (0, .ref (ad 0)), (1, .int (zI (z)))]) [0, 1, 2, 3, 4] rfl ?_
  exact lp12 _ (0) (0) (-1) g rfl hrecy135 (fun j j1 j2 => by rfl) (by omega) (by omega) (by omega) (by omega)

set_option maxRecDepth 100000 in
set_option maxHeartbeats 4000000 in
theorem c_X9_fault (l : Launch) (D : va_G) (A : Nat → Prop) (cs : Nat → ClassId) (tt : Nat) (N : Nat) (ad : Nat → Nat) (g : Nat → va_E) (hN : 952 ≤ N) (t fp im nz kz sl ho ua : Int) (st op ai fa mu tb tp : Nat → Int) (hR : okRec cs ad g N t fp im nz kz sl ho ua st op ai fa mu tb tp) : zM l yX9_fault cX9_fault 1 (some .int) ({ frames := 1, cells := 0, slots := 0, locals := 60 } : Room) D A cs tt N ad g [.ref (ad 0)] (rI0 N ad fun r g' => (-2147483648 ≤ r ∧ r ≤ 2147483647) ∧ zI fp = zI r ∧ g = g') := by
  obtain ⟨ary1, bry1, cry1, dry1, ery1, fry1, gry11, hry1, ⟨acry1, iry1⟩, ⟨kcry1, jry1⟩, kry1, lry1, mry1, nry1, ory1, pry1⟩ := id hR
  have hay2 : zAt ad (0) (ad 0) := rfl
  have hay3 : zAt ad (1) (ad 1) := rfl
  have hay4 : zAt ad (2) (ad 2) := rfl
  have hay5 : zAt ad (4) (ad 4) := rfl
  have hay6 : zAt ad (11) (ad 11) := rfl
  have hay7 : zAt ad (447) (ad 447) := rfl
  have hay8 : zAt ad (883) (ad 883) := rfl
  have hay9 : zAt ad (890) (ad 890) := rfl
  have hay10 : zAt ad (900) (ad 900) := rfl
  have hay11 : zAt ad (910) (ad 910) := rfl
  have hay12 : zAt ad (917) (ad 917) := rfl
  have hay13 : zAt ad (919) (ad 919) := rfl
  have hay14 : zAt ad (4 + 1) (ad (4 + 1)) := rfl
  have hay15 : zAt ad (4 + 2) (ad (4 + 2)) := rfl
  have hay16 : zAt ad (4 + 3) (ad (4 + 3)) := rfl
  have hay17 : zAt ad (4 + 4) (ad (4 + 4)) := rfl
  have hay18 : zAt ad (4 + 5) (ad (4 + 5)) := rfl
  have hay19 : zAt ad (4 + 6) (ad (4 + 6)) := rfl
  obtain ⟨thcy20, zhcy20, ohcy20, rhcy20, hzhcy20, hthcy20, hwhcy20⟩ := id lry1
  obtain ⟨thcy21, zhcy21, ohcy21, rhcy21, hzhcy21, hthcy21, hwhcy21⟩ := id mry1
  refine z_of (by decide) (Nat.le_of_ble_eq_true rfl) ?_
  intro p e s m below meth c C hr hlk hnm
  refine z_lv (lv' := [(0, .ref (ad 0))]) [0] rfl ?_
  refine z_aload_n C 0 dX9_fault_0 rfl ?_
  refine z_get (v := .int (zI (fp))) C (lt_K hN (rfl : Nat.blt (0) 952 = true)) hay2 ary1 rfl inA_X9 2 (by decide) q_351 rfl rfl dX9_fault_1 ?_
  obtain ⟨r9, e9, h9⟩ := zI_of (zI (fp))
  rw [e9]
  exact z_iret C hr hlk dX9_fault_4 (by decide) (by decide) ⟨r9, rfl, rfl, rfl, by omega, (by first | rfl | exact e9), rfl⟩

set_option maxRecDepth 100000 in
set_option maxHeartbeats 4000000 in
theorem c_X9_putBytes (l : Launch) (D : va_G) (A : Nat → Prop) (cs : Nat → ClassId) (tt : Nat) (N : Nat) (ad : Nat → Nat) (g : Nat → va_E) (hN : 952 ≤ N) (t fp im nz kz sl ho ua : Int) (st op ai fa mu tb tp : Nat → Int) (hR : okRec cs ad g N t fp im nz kz sl ho ua st op ai fa mu tb tp) (ht4 : t + 4 ≤ 900) (z : Int) (hz : -2147483648 ≤ z ∧ z ≤ 2147483647) : zM l yX9_putBytes cX9_putBytes 3 none ({ frames := 1, cells := 0, slots := 0, locals := 60 } : Room) D A cs tt N ad g [.ref (ad 0), .int (zI (z))] (rV0 N ad fun g' => (∃ tp' : Nat → Int, okRec cs ad g' N (t + 4) fp im nz kz sl ho ua st op ai fa mu tb tp' ∧ (∀ j : Nat, (j : Int) < t ∨ t + 4 ≤ (j : Int) → tp' j = tp j) ∧ ∀ s : Nat, s < 4 → sB z s (tp' ((t).toNat + s))) ∧ oX g g') := by
  obtain ⟨ary1, bry1, cry1, dry1, ery1, fry1, gry11, hry1, ⟨acry1, iry1⟩, ⟨kcry1, jry1⟩, kry1, lry1, mry1, nry1, ory1, pry1⟩ := id hR
  have hay2 : zAt ad (0) (ad 0) := rfl
  have hay3 : zAt ad (1) (ad 1) := rfl
  have hay4 : zAt ad (2) (ad 2) := rfl
  have hay5 : zAt ad (4) (ad 4) := rfl
  have hay6 : zAt ad (11) (ad 11) := rfl
  have hay7 : zAt ad (447) (ad 447) := rfl
  have hay8 : zAt ad (883) (ad 883) := rfl
  have hay9 : zAt ad (890) (ad 890) := rfl
  have hay10 : zAt ad (900) (ad 900) := rfl
  have hay11 : zAt ad (910) (ad 910) := rfl
  have hay12 : zAt ad (917) (ad 917) := rfl
  have hay13 : zAt ad (919) (ad 919) := rfl
  have hay14 : zAt ad (4 + 1) (ad (4 + 1)) := rfl
  have hay15 : zAt ad (4 + 2) (ad (4 + 2)) := rfl
  have hay16 : zAt ad (4 + 3) (ad (4 + 3)) := rfl
  have hay17 : zAt ad (4 + 4) (ad (4 + 4)) := rfl
  have hay18 : zAt ad (4 + 5) (ad (4 + 5)) := rfl
  have hay19 : zAt ad (4 + 6) (ad (4 + 6)) := rfl
  obtain ⟨thcy20, zhcy20, ohcy20, rhcy20, hzhcy20, hthcy20, hwhcy20⟩ := id lry1
  obtain ⟨thcy21, zhcy21, ohcy21, rhcy21, hzhcy21, hthcy21, hwhcy21⟩ := id mry1
  refine z_of (by decide) (Nat.le_of_ble_eq_true rfl) ?_
  intro p e s m below meth c C hr hlk hnm
  refine z_lv (lv' := [(0, .ref (ad 0)), (1, .int (zI (z)))]) [0, 1] rfl ?_
  refine z_bipush (z := 24) C dX9_putBytes_0 (by decide) ?_
  refine z_istore_n (lv' := [(2, .int (zI (24))), (0, .ref (ad 0)), (1, .int (zI (z)))]) C dX9_putBytes_2 rfl (by decide) rfl ?_
  refine z_iload_n C 0 dX9_putBytes_3 rfl ?_
  refine z_if_lt (tgt := 48) C dX9_putBytes_4 (by decide) (by omega) (fun h => absurd h (by omega)) (fun _ => ?_)
  refine z_aload_n C 1 dX9_putBytes_7 rfl ?_
  refine z_get (v := .int (zI (t))) C (lt_K hN (rfl : Nat.blt (0) 952 = true)) hay2 ary1 rfl inA_X9 1 (by decide) q_350 rfl rfl dX9_putBytes_8 ?_
  refine z_aload_n C 1 dX9_putBytes_11 rfl ?_
  refine z_get (v := .ref (ad 1)) C (lt_K hN (rfl : Nat.blt (0) 952 = true)) hay2 ary1 rfl inA_X9 0 (by decide) q_349 rfl rfl dX9_putBytes_12 ?_
  refine z_alen (z := 900) C (lt_K hN (rfl : Nat.blt (1) 952 = true)) hay3 dry1 0 rfl rfl dX9_putBytes_15 ?_
  refine z_icmp_ge (tgt := 48) C dX9_putBytes_16 (by decide) (by omega) (by omega) (fun h => absurd h (by omega)) (fun _ => ?_)
  refine z_aload_n C 1 dX9_putBytes_19 rfl ?_
  refine z_get (v := .ref (ad 1)) C (lt_K hN (rfl : Nat.blt (0) 952 = true)) hay2 ary1 rfl inA_X9 0 (by decide) q_349 rfl rfl dX9_putBytes_20 ?_
  refine z_aload_n C 1 dX9_putBytes_23 rfl ?_
  refine z_get (v := .int (zI (t))) C (lt_K hN (rfl : Nat.blt (0) 952 = true)) hay2 ary1 rfl inA_X9 1 (by decide) q_350 rfl rfl dX9_putBytes_24 ?_
  refine z_iload_n C 2 dX9_putBytes_27 rfl ?_
  refine z_iload_n C 0 dX9_putBytes_28 rfl ?_
  obtain ⟨xy22, exy22, hxy22⟩ := zI_of (((zI (z)).toUInt32 >>> ((zI (24)).toUInt32 &&& Int32.toUInt32 31)).toInt32)
  refine z_iushr (z := xy22) C dX9_putBytes_29 exy22 ?_
  obtain ⟨xy23, exy23, hxy23⟩ := b8_of (zI (xy22))
  refine z_i2b (z := xy23) C dX9_putBytes_30 exy23 ?_
  have hsxy23 : sB z 0 xy23 := sB_c (by decide) exy22 hxy22 exy23 hxy23
  refine z_bast C (lt_K hN (rfl : Nat.blt (1) 952 = true)) hay3 dry1 ((t).toNat) (by omega) (by omega) (by decide) (by omega) dX9_putBytes_31 (fun gy24 egy25 => ?_)
  have hgy26 := up_s egy25
  refine z_aload_n C 1 dX9_putBytes_32 rfl ?_
  refine z_dup C dX9_putBytes_33 rfl ?_
  have hgy27 := up_n egy25 ary1 (by decide)
  refine z_get (v := .int (zI (t))) C (lt_K hN (rfl : Nat.blt (0) 952 = true)) hay2 hgy27 rfl inA_X9 1 (by decide) q_350 rfl rfl dX9_putBytes_34 ?_
  refine z_iconst (z := 1) C dX9_putBytes_37 rfl ?_
  refine z_iadd C dX9_putBytes_38 ?_
  refine z_put (fs' := [.ref (ad 1), .int (zI (t + 1)), .int (zI (fp)), .ref (ad 2), .ref (ad 4), .ref (ad 11), .ref (ad 447), .int (zI (im)), .ref (ad 883), .ref (ad 890), .ref (ad 900), .ref (ad 910), .ref (ad 917), .ref (ad 919)]) C (lt_K hN (rfl : Nat.blt (0) 952 = true)) hay2 hgy27 tyX9 tyX9_ok nmX9 rfl inA_X9 1 (by decide) q_350 rfl rfl rfl rfl (Nat.le_of_ble_eq_true rfl) rfl dX9_putBytes_39 (fun gy28 egy29 => ?_)
  have hgy30 := up_s egy29
  refine z_iinc (z := 16) (lv' := [(2, .int (zI (16))), (0, .ref (ad 0)), (1, .int (zI (z)))]) (j := 0) C dX9_putBytes_42 rfl (congrArg zI (by omega)) (by decide) rfl ?_
  refine z_goto (tgt := 3) C dX9_putBytes_45 (by decide) ?_
  refine z_iload_n C 0 dX9_putBytes_3 rfl ?_
  refine z_if_lt (tgt := 48) C dX9_putBytes_4 (by decide) (by omega) (fun h => absurd h (by omega)) (fun _ => ?_)
  refine z_aload_n C 1 dX9_putBytes_7 rfl ?_
  refine z_get (v := .int (zI (t + 1))) C (lt_K hN (rfl : Nat.blt (0) 952 = true)) hay2 hgy30 rfl inA_X9 1 (by decide) q_350 rfl rfl dX9_putBytes_8 ?_
  refine z_aload_n C 1 dX9_putBytes_11 rfl ?_
  refine z_get (v := .ref (ad 1)) C (lt_K hN (rfl : Nat.blt (0) 952 = true)) hay2 hgy30 rfl inA_X9 0 (by decide) q_349 rfl rfl dX9_putBytes_12 ?_
  have hgy31 := up_n egy29 hgy26 (by decide)
  refine z_alen (z := 900) C (lt_K hN (rfl : Nat.blt (1) 952 = true)) hay3 hgy31 0 rfl rfl dX9_putBytes_15 ?_
  refine z_icmp_ge (tgt := 48) C dX9_putBytes_16 (by decide) (by omega) (by omega) (fun h => absurd h (by omega)) (fun _ => ?_)
  refine z_aload_n C 1 dX9_putBytes_19 rfl ?_
  refine z_get (v := .ref (ad 1)) C (lt_K hN (rfl : Nat.blt (0) 952 = true)) hay2 hgy30 rfl inA_X9 0 (by decide) q_349 rfl rfl dX9_putBytes_20 ?_
  refine z_aload_n C 1 dX9_putBytes_23 rfl ?_
  refine z_get (v := .int (zI (t + 1))) C (lt_K hN (rfl : Nat.blt (0) 952 = true)) hay2 hgy30 rfl inA_X9 1 (by decide) q_350 rfl rfl dX9_putBytes_24 ?_
  refine z_iload_n C 2 dX9_putBytes_27 rfl ?_
  refine z_iload_n C 0 dX9_putBytes_28 rfl ?_
  obtain ⟨xy32, exy32, hxy32⟩ := zI_of (((zI (z)).toUInt32 >>> ((zI (16)).toUInt32 &&& Int32.toUInt32 31)).toInt32)
  refine z_iushr (z := xy32) C dX9_putBytes_29 exy32 ?_
  obtain ⟨xy33, exy33, hxy33⟩ := b8_of (zI (xy32))
  refine z_i2b (z := xy33) C dX9_putBytes_30 exy33 ?_
  have hsxy33 : sB z 1 xy33 := sB_c (by decide) exy32 hxy32 exy33 hxy33
  refine z_bast C (lt_K hN (rfl : Nat.blt (1) 952 = true)) hay3 hgy31 ((t + 1).toNat) (by omega) (by omega) (by decide) (by omega) dX9_putBytes_31 (fun gy34 egy35 => ?_)
  have hgy36 := up_s egy35
  refine z_aload_n C 1 dX9_putBytes_32 rfl ?_
  refine z_dup C dX9_putBytes_33 rfl ?_
  have hgy37 := up_n egy35 hgy30 (by decide)
  refine z_get (v := .int (zI (t + 1))) C (lt_K hN (rfl : Nat.blt (0) 952 = true)) hay2 hgy37 rfl inA_X9 1 (by decide) q_350 rfl rfl dX9_putBytes_34 ?_
  refine z_iconst (z := 1) C dX9_putBytes_37 rfl ?_
  refine z_iadd C dX9_putBytes_38 ?_
  refine z_put (fs' := [.ref (ad 1), .int (zI ((t + 1) + 1)), .int (zI (fp)), .ref (ad 2), .ref (ad 4), .ref (ad 11), .ref (ad 447), .int (zI (im)), .ref (ad 883), .ref (ad 890), .ref (ad 900), .ref (ad 910), .ref (ad 917), .ref (ad 919)]) C (lt_K hN (rfl : Nat.blt (0) 952 = true)) hay2 hgy37 tyX9 tyX9_ok nmX9 rfl inA_X9 1 (by decide) q_350 rfl rfl rfl rfl (Nat.le_of_ble_eq_true rfl) rfl dX9_putBytes_39 (fun gy38 egy39 => ?_)
  have hgy40 := up_s egy39
  refine z_iinc (z := 8) (lv' := [(2, .int (zI (8))), (0, .ref (ad 0)), (1, .int (zI (z)))]) (j := 0) C dX9_putBytes_42 rfl (congrArg zI (by omega)) (by decide) rfl ?_
  refine z_goto (tgt := 3) C dX9_putBytes_45 (by decide) ?_
  refine z_iload_n C 0 dX9_putBytes_3 rfl ?_
  refine z_if_lt (tgt := 48) C dX9_putBytes_4 (by decide) (by omega) (fun h => absurd h (by omega)) (fun _ => ?_)
  refine z_aload_n C 1 dX9_putBytes_7 rfl ?_
  refine z_get (v := .int (zI ((t + 1) + 1))) C (lt_K hN (rfl : Nat.blt (0) 952 = true)) hay2 hgy40 rfl inA_X9 1 (by decide) q_350 rfl rfl dX9_putBytes_8 ?_
  refine z_aload_n C 1 dX9_putBytes_11 rfl ?_
  refine z_get (v := .ref (ad 1)) C (lt_K hN (rfl : Nat.blt (0) 952 = true)) hay2 hgy40 rfl inA_X9 0 (by decide) q_349 rfl rfl dX9_putBytes_12 ?_
  have hgy41 := up_n egy39 hgy36 (by decide)
  refine z_alen (z := 900) C (lt_K hN (rfl : Nat.blt (1) 952 = true)) hay3 hgy41 0 rfl rfl dX9_putBytes_15 ?_
  refine z_icmp_ge (tgt := 48) C dX9_putBytes_16 (by decide) (by omega) (by omega) (fun h => absurd h (by omega)) (fun _ => ?_)
  refine z_aload_n C 1 dX9_putBytes_19 rfl ?_
  refine z_get (v := .ref (ad 1)) C (lt_K hN (rfl : Nat.blt (0) 952 = true)) hay2 hgy40 rfl inA_X9 0 (by decide) q_349 rfl rfl dX9_putBytes_20 ?_
  refine z_aload_n C 1 dX9_putBytes_23 rfl ?_
  refine z_get (v := .int (zI ((t + 1) + 1))) C (lt_K hN (rfl : Nat.blt (0) 952 = true)) hay2 hgy40 rfl inA_X9 1 (by decide) q_350 rfl rfl dX9_putBytes_24 ?_
  refine z_iload_n C 2 dX9_putBytes_27 rfl ?_
  refine z_iload_n C 0 dX9_putBytes_28 rfl ?_
  obtain ⟨xy42, exy42, hxy42⟩ := zI_of (((zI (z)).toUInt32 >>> ((zI (8)).toUInt32 &&& Int32.toUInt32 31)).toInt32)
  refine z_iushr (z := xy42) C dX9_putBytes_29 exy42 ?_
  obtain ⟨xy43, exy43, hxy43⟩ := b8_of (zI (xy42))
  refine z_i2b (z := xy43) C dX9_putBytes_30 exy43 ?_
  have hsxy43 : sB z 2 xy43 := sB_c (by decide) exy42 hxy42 exy43 hxy43
  refine z_bast C (lt_K hN (rfl : Nat.blt (1) 952 = true)) hay3 hgy41 (((t + 1) + 1).toNat) (by omega) (by omega) (by decide) (by omega) dX9_putBytes_31 (fun gy44 egy45 => ?_)
  have hgy46 := up_s egy45
  refine z_aload_n C 1 dX9_putBytes_32 rfl ?_
  refine z_dup C dX9_putBytes_33 rfl ?_
  have hgy47 := up_n egy45 hgy40 (by decide)
  refine z_get (v := .int (zI ((t + 1) + 1))) C (lt_K hN (rfl : Nat.blt (0) 952 = true)) hay2 hgy47 rfl inA_X9 1 (by decide) q_350 rfl rfl dX9_putBytes_34 ?_
  refine z_iconst (z := 1) C dX9_putBytes_37 rfl ?_
  refine z_iadd C dX9_putBytes_38 ?_
  refine z_put (fs' := [.ref (ad 1), .int (zI (((t + 1) + 1) + 1)), .int (zI (fp)), .ref (ad 2), .ref (ad 4), .ref (ad 11), .ref (ad 447), .int (zI (im)), .ref (ad 883), .ref (ad 890), .ref (ad 900), .ref (ad 910), .ref (ad 917), .ref (ad 919)]) C (lt_K hN (rfl : Nat.blt (0) 952 = true)) hay2 hgy47 tyX9 tyX9_ok nmX9 rfl inA_X9 1 (by decide) q_350 rfl rfl rfl rfl (Nat.le_of_ble_eq_true rfl) rfl dX9_putBytes_39 (fun gy48 egy49 => ?_)
  have hgy50 := up_s egy49
  refine z_iinc (z := 0) (lv' := [(2, .int (zI (0))), (0, .ref (ad 0)), (1, .int (zI (z)))]) (j := 0) C dX9_putBytes_42 rfl (congrArg zI (by omega)) (by decide) rfl ?_
  refine z_goto (tgt := 3) C dX9_putBytes_45 (by decide) ?_
  refine z_iload_n C 0 dX9_putBytes_3 rfl ?_
  refine z_if_lt (tgt := 48) C dX9_putBytes_4 (by decide) (by omega) (fun h => absurd h (by omega)) (fun _ => ?_)
  refine z_aload_n C 1 dX9_putBytes_7 rfl ?_
  refine z_get (v := .int (zI (((t + 1) + 1) + 1))) C (lt_K hN (rfl : Nat.blt (0) 952 = true)) hay2 hgy50 rfl inA_X9 1 (by decide) q_350 rfl rfl dX9_putBytes_8 ?_
  refine z_aload_n C 1 dX9_putBytes_11 rfl ?_
  refine z_get (v := .ref (ad 1)) C (lt_K hN (rfl : Nat.blt (0) 952 = true)) hay2 hgy50 rfl inA_X9 0 (by decide) q_349 rfl rfl dX9_putBytes_12 ?_
  have hgy51 := up_n egy49 hgy46 (by decide)
  refine z_alen (z := 900) C (lt_K hN (rfl : Nat.blt (1) 952 = true)) hay3 hgy51 0 rfl rfl dX9_putBytes_15 ?_
  refine z_icmp_ge (tgt := 48) C dX9_putBytes_16 (by decide) (by omega) (by omega) (fun h => absurd h (by omega)) (fun _ => ?_)
  refine z_aload_n C 1 dX9_putBytes_19 rfl ?_
  refine z_get (v := .ref (ad 1)) C (lt_K hN (rfl : Nat.blt (0) 952 = true)) hay2 hgy50 rfl inA_X9 0 (by decide) q_349 rfl rfl dX9_putBytes_20 ?_
  refine z_aload_n C 1 dX9_putBytes_23 rfl ?_
  refine z_get (v := .int (zI (((t + 1) + 1) + 1))) C (lt_K hN (rfl : Nat.blt (0) 952 = true)) hay2 hgy50 rfl inA_X9 1 (by decide) q_350 rfl rfl dX9_putBytes_24 ?_
  refine z_iload_n C 2 dX9_putBytes_27 rfl ?_
  refine z_iload_n C 0 dX9_putBytes_28 rfl ?_
  obtain ⟨xy52, exy52, hxy52⟩ := zI_of (((zI (z)).toUInt32 >>> ((zI (0)).toUInt32 &&& Int32.toUInt32 31)).toInt32)
  refine z_iushr (z := xy52) C dX9_putBytes_29 exy52 ?_
  obtain ⟨xy53, exy53, hxy53⟩ := b8_of (zI (xy52))
  refine z_i2b (z := xy53) C dX9_putBytes_30 exy53 ?_
  have hsxy53 : sB z 3 xy53 := sB_c (by decide) exy52 hxy52 exy53 hxy53
  refine z_bast C (lt_K hN (rfl : Nat.blt (1) 952 = true)) hay3 hgy51 ((((t + 1) + 1) + 1).toNat) (by omega) (by omega) (by decide) (by omega) dX9_putBytes_31 (fun gy54 egy55 => ?_)
  have hgy56 := up_s egy55
  refine z_aload_n C 1 dX9_putBytes_32 rfl ?_
  refine z_dup C dX9_putBytes_33 rfl ?_
  have hgy57 := up_n egy55 hgy50 (by decide)
  refine z_get (v := .int (zI (((t + 1) + 1) + 1))) C (lt_K hN (rfl : Nat.blt (0) 952 = true)) hay2 hgy57 rfl inA_X9 1 (by decide) q_350 rfl rfl dX9_putBytes_34 ?_
  refine z_iconst (z := 1) C dX9_putBytes_37 rfl ?_
  refine z_iadd C dX9_putBytes_38 ?_
  refine z_put (fs' := [.ref (ad 1), .int (zI ((((t + 1) + 1) + 1) + 1)), .int (zI (fp)), .ref (ad 2), .ref (ad 4), .ref (ad 11), .ref (ad 447), .int (zI (im)), .ref (ad 883), .ref (ad 890), .ref (ad 900), .ref (ad 910), .ref (ad 917), .ref (ad 919)]) C (lt_K hN (rfl : Nat.blt (0) 952 = true)) hay2 hgy57 tyX9 tyX9_ok nmX9 rfl inA_X9 1 (by decide) q_350 rfl rfl rfl rfl (Nat.le_of_ble_eq_true rfl) rfl dX9_putBytes_39 (fun gy58 egy59 => ?_)
  have hgy60 := up_s egy59
  refine z_iinc (z := -8) (lv' := [(2, .int (zI (-8))), (0, .ref (ad 0)), (1, .int (zI (z)))]) (j := 0) C dX9_putBytes_42 rfl (congrArg zI (by omega)) (by decide) rfl ?_
  refine z_goto (tgt := 3) C dX9_putBytes_45 (by decide) ?_
  refine z_iload_n C 0 dX9_putBytes_3 rfl ?_
  refine z_if_lt (tgt := 48) C dX9_putBytes_4 (by decide) (by omega) (fun _ => ?_) (fun h => absurd h (by omega))
  have hc0 : gy58 0 = rcC ad (t + 4) fp im := by rw [show t + 4 = (((t + 1) + 1) + 1) + 1 by omega]; exact hgy60
  have hgy61 := up_n egy59 hgy56 (by decide)
  have hpy62 := okState.mv (ad' := ad) (g' := gy58) (fun j h1 h2 => by rfl) (fun j h1 h2 => by rw [egy59, va_up_ne _ _ (by omega)]; rw [egy55, va_up_ne _ _ (by omega)]; rw [egy49, va_up_ne _ _ (by omega)]; rw [egy45, va_up_ne _ _ (by omega)]; rw [egy39, va_up_ne _ _ (by omega)]; rw [egy35, va_up_ne _ _ (by omega)]; rw [egy29, va_up_ne _ _ (by omega)]; rw [egy25, va_up_ne _ _ (by omega)]) iry1
  have hpy63 := okRdr.mv (ad' := ad) (g' := gy58) (fun j h1 h2 => by rfl) (fun j h1 h2 => by rw [egy59, va_up_ne _ _ (by omega)]; rw [egy55, va_up_ne _ _ (by omega)]; rw [egy49, va_up_ne _ _ (by omega)]; rw [egy45, va_up_ne _ _ (by omega)]; rw [egy39, va_up_ne _ _ (by omega)]; rw [egy35, va_up_ne _ _ (by omega)]; rw [egy29, va_up_ne _ _ (by omega)]; rw [egy25, va_up_ne _ _ (by omega)]) ery1
  have hpy64 := isPlan.mv (ad' := ad) (g' := gy58) (fun j h1 h2 => by rfl) (fun j h1 h2 => by rw [egy59, va_up_ne _ _ (by omega)]; rw [egy55, va_up_ne _ _ (by omega)]; rw [egy49, va_up_ne _ _ (by omega)]; rw [egy45, va_up_ne _ _ (by omega)]; rw [egy39, va_up_ne _ _ (by omega)]; rw [egy35, va_up_ne _ _ (by omega)]; rw [egy29, va_up_ne _ _ (by omega)]; rw [egy25, va_up_ne _ _ (by omega)]) fry1
  have hpy65 := okState.mv (ad' := ad) (g' := gy58) (fun j h1 h2 => by rfl) (fun j h1 h2 => by rw [egy59, va_up_ne _ _ (by omega)]; rw [egy55, va_up_ne _ _ (by omega)]; rw [egy49, va_up_ne _ _ (by omega)]; rw [egy45, va_up_ne _ _ (by omega)]; rw [egy39, va_up_ne _ _ (by omega)]; rw [egy35, va_up_ne _ _ (by omega)]; rw [egy29, va_up_ne _ _ (by omega)]; rw [egy25, va_up_ne _ _ (by omega)]) jry1
  have hpy66 := okPlan.mv (ad' := ad) (g' := gy58) (fun j h1 h2 => by rfl) (fun j h1 h2 => by rw [egy59, va_up_ne _ _ (by omega)]; rw [egy55, va_up_ne _ _ (by omega)]; rw [egy49, va_up_ne _ _ (by omega)]; rw [egy45, va_up_ne _ _ (by omega)]; rw [egy39, va_up_ne _ _ (by omega)]; rw [egy35, va_up_ne _ _ (by omega)]; rw [egy29, va_up_ne _ _ (by omega)]; rw [egy25, va_up_ne _ _ (by omega)]) kry1
  have hpy67 := okGss.mv (ad' := ad) (g' := gy58) (fun j h1 h2 => by rfl) (fun j h1 h2 => by rw [egy59, va_up_ne _ _ (by omega)]; rw [egy55, va_up_ne _ _ (by omega)]; rw [egy49, va_up_ne _ _ (by omega)]; rw [egy45, va_up_ne _ _ (by omega)]; rw [egy39, va_up_ne _ _ (by omega)]; rw [egy35, va_up_ne _ _ (by omega)]; rw [egy29, va_up_ne _ _ (by omega)]; rw [egy25, va_up_ne _ _ (by omega)]) nry1
  have hpy68 := okLike.mv (ad' := ad) (g' := gy58) (fun j h1 h2 => by rfl) (fun j h1 h2 => by rw [egy59, va_up_ne _ _ (by omega)]; rw [egy55, va_up_ne _ _ (by omega)]; rw [egy49, va_up_ne _ _ (by omega)]; rw [egy45, va_up_ne _ _ (by omega)]; rw [egy39, va_up_ne _ _ (by omega)]; rw [egy35, va_up_ne _ _ (by omega)]; rw [egy29, va_up_ne _ _ (by omega)]; rw [egy25, va_up_ne _ _ (by omega)]) ory1
  have hpy69 := okBld.mv (ad' := ad) (g' := gy58) (fun j h1 h2 => by rfl) (fun j h1 h2 => by rw [egy59, va_up_ne _ _ (by omega)]; rw [egy55, va_up_ne _ _ (by omega)]; rw [egy49, va_up_ne _ _ (by omega)]; rw [egy45, va_up_ne _ _ (by omega)]; rw [egy39, va_up_ne _ _ (by omega)]; rw [egy35, va_up_ne _ _ (by omega)]; rw [egy29, va_up_ne _ _ (by omega)]; rw [egy25, va_up_ne _ _ (by omega)]) pry1
  have hoky70 : okWorld cs ad gy58 (890) := okWorld.mv (fun j j1 j2 => by rw [egy59, va_up_ne _ _ (by omega)]; rw [egy55, va_up_ne _ _ (by omega)]; rw [egy49, va_up_ne _ _ (by omega)]; rw [egy45, va_up_ne _ _ (by omega)]; rw [egy39, va_up_ne _ _ (by omega)]; rw [egy35, va_up_ne _ _ (by omega)]; rw [egy29, va_up_ne _ _ (by omega)]; rw [egy25, va_up_ne _ _ (by omega)]) lry1
  have hoky71 : okWorld cs ad gy58 (900) := okWorld.mv (fun j j1 j2 => by rw [egy59, va_up_ne _ _ (by omega)]; rw [egy55, va_up_ne _ _ (by omega)]; rw [egy49, va_up_ne _ _ (by omega)]; rw [egy45, va_up_ne _ _ (by omega)]; rw [egy39, va_up_ne _ _ (by omega)]; rw [egy35, va_up_ne _ _ (by omega)]; rw [egy29, va_up_ne _ _ (by omega)]; rw [egy25, va_up_ne _ _ (by omega)]) mry1
  have hrecy72 : okRec cs ad gy58 N (t + 4) (fp) (im) (nz) (kz) (sl) (ho) (ua) (st) (op) (ai) (fa) (mu) (tb) (uZ (uZ (uZ (uZ (tp) ((t).toNat) (xy23)) ((t + 1).toNat) (xy33)) (((t + 1) + 1).toNat) (xy43)) ((((t + 1) + 1) + 1).toNat) (xy53)) := ⟨hc0, by omega, cry1, hgy61, hpy63, hpy64, gry11, hry1, ⟨_, hpy62⟩, ⟨_, hpy65⟩, hpy66, hoky70, hoky71, hpy67, hpy68, hpy69⟩
  have hps : (0 ≤ t ∧ t + 4 ≤ 900) := by omega
  have hfr : ∀ j : Nat, (j : Int) < t ∨ t + 4 ≤ (j : Int) → (uZ (uZ (uZ (uZ (tp) ((t).toNat) (xy23)) ((t + 1).toNat) (xy33)) (((t + 1) + 1).toNat) (xy43)) ((((t + 1) + 1) + 1).toNat) (xy53)) j = tp j := fun j hj => (uZ_n _ _ (by omega)).trans ((uZ_n _ _ (by omega)).trans ((uZ_n _ _ (by omega)).trans (uZ_n _ _ (by omega))))
  have hsb : ∀ s : Nat, s < 4 → sB z s ((uZ (uZ (uZ (uZ (tp) ((t).toNat) (xy23)) ((t + 1).toNat) (xy33)) (((t + 1) + 1).toNat) (xy43)) ((((t + 1) + 1) + 1).toNat) (xy53)) ((t).toNat + s)) := by
    intro s hs
    rcases (show s = 0 ∨ s = 1 ∨ s = 2 ∨ s = 3 by omega) with rfl | rfl | rfl | rfl
    · rw [show (t).toNat + 0 = ((t).toNat) by omega, show (uZ (uZ (uZ (uZ (tp) ((t).toNat) (xy23)) ((t + 1).toNat) (xy33)) (((t + 1) + 1).toNat) (xy43)) ((((t + 1) + 1) + 1).toNat) (xy53)) ((t).toNat) = xy23 from ((uZ_n _ _ (by omega)).trans ((uZ_n _ _ (by omega)).trans ((uZ_n _ _ (by omega)).trans (uZ_s _ _ _))))]; exact hsxy23
    · rw [show (t).toNat + 1 = ((t + 1).toNat) by omega, show (uZ (uZ (uZ (uZ (tp) ((t).toNat) (xy23)) ((t + 1).toNat) (xy33)) (((t + 1) + 1).toNat) (xy43)) ((((t + 1) + 1) + 1).toNat) (xy53)) ((t + 1).toNat) = xy33 from ((uZ_n _ _ (by omega)).trans ((uZ_n _ _ (by omega)).trans (uZ_s _ _ _)))]; exact hsxy33
    · rw [show (t).toNat + 2 = (((t + 1) + 1).toNat) by omega, show (uZ (uZ (uZ (uZ (tp) ((t).toNat) (xy23)) ((t + 1).toNat) (xy33)) (((t + 1) + 1).toNat) (xy43)) ((((t + 1) + 1) + 1).toNat) (xy53)) (((t + 1) + 1).toNat) = xy43 from ((uZ_n _ _ (by omega)).trans (uZ_s _ _ _))]; exact hsxy43
    · rw [show (t).toNat + 3 = ((((t + 1) + 1) + 1).toNat) by omega, show (uZ (uZ (uZ (uZ (tp) ((t).toNat) (xy23)) ((t + 1).toNat) (xy33)) (((t + 1) + 1).toNat) (xy43)) ((((t + 1) + 1) + 1).toNat) (xy53)) ((((t + 1) + 1) + 1).toNat) = xy53 from (uZ_s _ _ _)]; exact hsxy53
  exact z_vret C hr hlk dX9_putBytes_48 (by decide) (by decide) ⟨rfl, rfl, rfl, ⟨_, hrecy72, hfr, hsb⟩, fun j j1 j2 => by rw [egy59, va_up_ne _ _ (by omega)]; rw [egy55, va_up_ne _ _ (by omega)]; rw [egy49, va_up_ne _ _ (by omega)]; rw [egy45, va_up_ne _ _ (by omega)]; rw [egy39, va_up_ne _ _ (by omega)]; rw [egy35, va_up_ne _ _ (by omega)]; rw [egy29, va_up_ne _ _ (by omega)]; rw [egy25, va_up_ne _ _ (by omega)]⟩

set_option maxRecDepth 100000 in
set_option maxHeartbeats 4000000 in
theorem c_X9_feed (l : Launch) (D : va_G) (A : Nat → Prop) (cs : Nat → ClassId) (tt : Nat) (N : Nat) (ad : Nat → Nat) (g : Nat → va_E) (hN : 952 ≤ N) (t fp im nz kz sl ho ua : Int) (st op ai fa mu tb tp : Nat → Int) (hR : okRec cs ad g N t fp im nz kz sl ho ua st op ai fa mu tb tp) (z : Int) (hz : -2147483648 ≤ z ∧ z ≤ 2147483647) (z1 : Int) (hz1 : -2147483648 ≤ z1 ∧ z1 ≤ 2147483647) (z2 : Int) (hz2 : -2147483648 ≤ z2 ∧ z2 ≤ 2147483647) (z3 : Int) (hz3 : -2147483648 ≤ z3 ∧ z3 ≤ 2147483647) (z4 : Int) (hz4 : -2147483648 ≤ z4 ∧ z4 ≤ 2147483647) : zM l yX9_feed cX9_feed 6 (some .int) ({ frames := 2, cells := 0, slots := 0, locals := 120 } : Room) D A cs tt N ad g [.ref (ad 0), .int (zI (z)), .int (zI (z1)), .int (zI (z2)), .int (zI (z3)), .int (zI (z4))] (rI0 N ad fun r g' => (r = (if t ≤ 880 then t + 20 else -1)) ∧ (∃ tp' : Nat → Int, okRec cs ad g' N (if t ≤ 880 then t + 20 else t) fp im nz kz sl ho ua st op ai fa mu tb tp' ∧ (t ≤ 880 → (∀ j : Nat, (j : Int) < t ∨ t + 20 ≤ (j : Int) → tp' j = tp j) ∧ ∀ s : Nat, s < 4 → sB z s (tp' ((t).toNat + s)) ∧ sB z1 s (tp' ((t).toNat + 4 + s)) ∧ sB z2 s (tp' ((t).toNat + 8 + s)) ∧ sB z3 s (tp' ((t).toNat + 12 + s)) ∧ sB z4 s (tp' ((t).toNat + 16 + s))) ∧ (880 < t → tp' = tp)) ∧ oX g g') := by
  obtain ⟨ary1, bry1, cry1, dry1, ery1, fry1, gry11, hry1, ⟨acry1, iry1⟩, ⟨kcry1, jry1⟩, kry1, lry1, mry1, nry1, ory1, pry1⟩ := id hR
  have hay2 : zAt ad (0) (ad 0) := rfl
  have hay3 : zAt ad (1) (ad 1) := rfl
  have hay4 : zAt ad (2) (ad 2) := rfl
  have hay5 : zAt ad (4) (ad 4) := rfl
  have hay6 : zAt ad (11) (ad 11) := rfl
  have hay7 : zAt ad (447) (ad 447) := rfl
  have hay8 : zAt ad (883) (ad 883) := rfl
  have hay9 : zAt ad (890) (ad 890) := rfl
  have hay10 : zAt ad (900) (ad 900) := rfl
  have hay11 : zAt ad (910) (ad 910) := rfl
  have hay12 : zAt ad (917) (ad 917) := rfl
  have hay13 : zAt ad (919) (ad 919) := rfl
  have hay14 : zAt ad (4 + 1) (ad (4 + 1)) := rfl
  have hay15 : zAt ad (4 + 2) (ad (4 + 2)) := rfl
  have hay16 : zAt ad (4 + 3) (ad (4 + 3)) := rfl
  have hay17 : zAt ad (4 + 4) (ad (4 + 4)) := rfl
  have hay18 : zAt ad (4 + 5) (ad (4 + 5)) := rfl
  have hay19 : zAt ad (4 + 6) (ad (4 + 6)) := rfl
  obtain ⟨thcy20, zhcy20, ohcy20, rhcy20, hzhcy20, hthcy20, hwhcy20⟩ := id lry1
  obtain ⟨thcy21, zhcy21, ohcy21, rhcy21, hzhcy21, hthcy21, hwhcy21⟩ := id mry1
  refine z_of (by decide) (Nat.le_of_ble_eq_true rfl) ?_
  intro p e s m below meth c C hr hlk hnm
  refine z_lv (lv' := [(0, .ref (ad 0)), (1, .int (zI (z))), (2, .int (zI (z1))), (3, .int (zI (z2))), (4, .int (zI (z3))), (5, .int (zI (z4)))]) [0, 1, 2, 3, 4, 5] rfl ?_
  refine z_aload_n C 0 dX9_feed_0 rfl ?_
  refine z_get (v := .int (zI (t))) C (lt_K hN (rfl : Nat.blt (0) 952 = true)) hay2 ary1 rfl inA_X9 1 (by decide) q_350 rfl rfl dX9_feed_1 ?_
  refine z_bipush (z := 20) C dX9_feed_4 (by decide) ?_
  refine z_iadd C dX9_feed_6 ?_
  refine z_sipush (z := 900) C dX9_feed_7 (by decide) ?_
  refine z_icmp_le (tgt := 15) C dX9_feed_10 (by decide) (by omega) (by omega) (fun hby22 => ?_) (fun hby22 => ?_)
  · refine z_aload_n C 0 dX9_feed_15 rfl ?_
    refine z_iload_n C 1 dX9_feed_16 rfl ?_
    have hrecy24 : okRec cs ad g N (t) (fp) (im) (nz) (kz) (sl) (ho) (ua) (st) (op) (ai) (fa) (mu) (tb) (tp) := ⟨ary1, bry1, cry1, dry1, ery1, fry1, gry11, hry1, ⟨_, iry1⟩, ⟨_, jry1⟩, kry1, lry1, mry1, nry1, ory1, pry1⟩
    refine z_cV (As := [.int (zI (z))]) (rest := []) (ci := 11) C (c_X9_putBytes l D A cs tt N ad _ hN _ _ _ _ _ _ _ _ _ _ _ _ _ _ _ hrecy24 (by omega) (z) (by omega)) (lt_K hN (rfl : Nat.blt (0) 952 = true)) hay2 ary1 rfl rfl mv_yX9_putBytes q_396 hd_yX9_putBytes (by decide) (Nat.le_of_ble_eq_true rfl) (by decide) dX9_feed_17 rfl (kV0 fun gvy23 hvy23 => ?_)
    obtain ⟨⟨tpvy23, hkvy23, hqvy23, hbvy23⟩, hfvy23⟩ := hvy23
    obtain ⟨ary25, bry25, cry25, dry25, ery25, fry25, gry251, hry25, ⟨acry25, iry25⟩, ⟨kcry25, jry25⟩, kry25, lry25, mry25, nry25, ory25, pry25⟩ := id hkvy23
    obtain ⟨thcy26, zhcy26, ohcy26, rhcy26, hzhcy26, hthcy26, hwhcy26⟩ := id lry25
    obtain ⟨thcy27, zhcy27, ohcy27, rhcy27, hzhcy27, hthcy27, hwhcy27⟩ := id mry25
    refine z_aload_n C 0 dX9_feed_20 rfl ?_
    refine z_iload_n C 2 dX9_feed_21 rfl ?_
    have hrecy29 : okRec cs ad gvy23 N (t + 4) (fp) (im) (nz) (kz) (sl) (ho) (ua) (st) (op) (ai) (fa) (mu) (tb) (tpvy23) := ⟨ary25, bry25, cry25, dry25, ery25, fry25, gry251, hry25, ⟨_, iry25⟩, ⟨_, jry25⟩, kry25, lry25, mry25, nry25, ory25, pry25⟩
    refine z_cV (As := [.int (zI (z1))]) (rest := []) (ci := 11) C (c_X9_putBytes l D A cs tt N ad _ hN _ _ _ _ _ _ _ _ _ _ _ _ _ _ _ hrecy29 (by omega) (z1) (by omega)) (lt_K hN (rfl : Nat.blt (0) 952 = true)) hay2 ary25 rfl rfl mv_yX9_putBytes q_396 hd_yX9_putBytes (by decide) (Nat.le_of_ble_eq_true rfl) (by decide) dX9_feed_22 rfl (kV0 fun gvy28 hvy28 => ?_)
    obtain ⟨⟨tpvy28, hkvy28, hqvy28, hbvy28⟩, hfvy28⟩ := hvy28
    obtain ⟨ary30, bry30, cry30, dry30, ery30, fry30, gry301, hry30, ⟨acry30, iry30⟩, ⟨kcry30, jry30⟩, kry30, lry30, mry30, nry30, ory30, pry30⟩ := id hkvy28
    obtain ⟨thcy31, zhcy31, ohcy31, rhcy31, hzhcy31, hthcy31, hwhcy31⟩ := id lry30
    obtain ⟨thcy32, zhcy32, ohcy32, rhcy32, hzhcy32, hthcy32, hwhcy32⟩ := id mry30
    refine z_aload_n C 0 dX9_feed_25 rfl ?_
    refine z_iload_n C 3 dX9_feed_26 rfl ?_
    have hrecy34 : okRec cs ad gvy28 N (t + 4 + 4) (fp) (im) (nz) (kz) (sl) (ho) (ua) (st) (op) (ai) (fa) (mu) (tb) (tpvy28) := ⟨ary30, bry30, cry30, dry30, ery30, fry30, gry301, hry30, ⟨_, iry30⟩, ⟨_, jry30⟩, kry30, lry30, mry30, nry30, ory30, pry30⟩
    refine z_cV (As := [.int (zI (z2))]) (rest := []) (ci := 11) C (c_X9_putBytes l D A cs tt N ad _ hN _ _ _ _ _ _ _ _ _ _ _ _ _ _ _ hrecy34 (by omega) (z2) (by omega)) (lt_K hN (rfl : Nat.blt (0) 952 = true)) hay2 ary30 rfl rfl mv_yX9_putBytes q_396 hd_yX9_putBytes (by decide) (Nat.le_of_ble_eq_true rfl) (by decide) dX9_feed_27 rfl (kV0 fun gvy33 hvy33 => ?_)
    obtain ⟨⟨tpvy33, hkvy33, hqvy33, hbvy33⟩, hfvy33⟩ := hvy33
    obtain ⟨ary35, bry35, cry35, dry35, ery35, fry35, gry351, hry35, ⟨acry35, iry35⟩, ⟨kcry35, jry35⟩, kry35, lry35, mry35, nry35, ory35, pry35⟩ := id hkvy33
    obtain ⟨thcy36, zhcy36, ohcy36, rhcy36, hzhcy36, hthcy36, hwhcy36⟩ := id lry35
    obtain ⟨thcy37, zhcy37, ohcy37, rhcy37, hzhcy37, hthcy37, hwhcy37⟩ := id mry35
    refine z_aload_n C 0 dX9_feed_30 rfl ?_
    refine z_iload C 4 dX9_feed_31 rfl ?_
    have hrecy39 : okRec cs ad gvy33 N (t + 4 + 4 + 4) (fp) (im) (nz) (kz) (sl) (ho) (ua) (st) (op) (ai) (fa) (mu) (tb) (tpvy33) := ⟨ary35, bry35, cry35, dry35, ery35, fry35, gry351, hry35, ⟨_, iry35⟩, ⟨_, jry35⟩, kry35, lry35, mry35, nry35, ory35, pry35⟩
    refine z_cV (As := [.int (zI (z3))]) (rest := []) (ci := 11) C (c_X9_putBytes l D A cs tt N ad _ hN _ _ _ _ _ _ _ _ _ _ _ _ _ _ _ hrecy39 (by omega) (z3) (by omega)) (lt_K hN (rfl : Nat.blt (0) 952 = true)) hay2 ary35 rfl rfl mv_yX9_putBytes q_396 hd_yX9_putBytes (by decide) (Nat.le_of_ble_eq_true rfl) (by decide) dX9_feed_33 rfl (kV0 fun gvy38 hvy38 => ?_)
    obtain ⟨⟨tpvy38, hkvy38, hqvy38, hbvy38⟩, hfvy38⟩ := hvy38
    obtain ⟨ary40, bry40, cry40, dry40, ery40, fry40, gry401, hry40, ⟨acry40, iry40⟩, ⟨kcry40, jry40⟩, kry40, lry40, mry40, nry40, ory40, pry40⟩ := id hkvy38
    obtain ⟨thcy41, zhcy41, ohcy41, rhcy41, hzhcy41, hthcy41, hwhcy41⟩ := id lry40
    obtain ⟨thcy42, zhcy42, ohcy42, rhcy42, hzhcy42, hthcy42, hwhcy42⟩ := id mry40
    refine z_aload_n C 0 dX9_feed_36 rfl ?_
    refine z_iload C 5 dX9_feed_37 rfl ?_
    have hrecy44 : okRec cs ad gvy38 N (t + 4 + 4 + 4 + 4) (fp) (im) (nz) (kz) (sl) (ho) (ua) (st) (op) (ai) (fa) (mu) (tb) (tpvy38) := ⟨ary40, bry40, cry40, dry40, ery40, fry40, gry401, hry40, ⟨_, iry40⟩, ⟨_, jry40⟩, kry40, lry40, mry40, nry40, ory40, pry40⟩
    refine z_cV (As := [.int (zI (z4))]) (rest := []) (ci := 11) C (c_X9_putBytes l D A cs tt N ad _ hN _ _ _ _ _ _ _ _ _ _ _ _ _ _ _ hrecy44 (by omega) (z4) (by omega)) (lt_K hN (rfl : Nat.blt (0) 952 = true)) hay2 ary40 rfl rfl mv_yX9_putBytes q_396 hd_yX9_putBytes (by decide) (Nat.le_of_ble_eq_true rfl) (by decide) dX9_feed_39 rfl (kV0 fun gvy43 hvy43 => ?_)
    obtain ⟨⟨tpvy43, hkvy43, hqvy43, hbvy43⟩, hfvy43⟩ := hvy43
    obtain ⟨ary45, bry45, cry45, dry45, ery45, fry45, gry451, hry45, ⟨acry45, iry45⟩, ⟨kcry45, jry45⟩, kry45, lry45, mry45, nry45, ory45, pry45⟩ := id hkvy43
    obtain ⟨thcy46, zhcy46, ohcy46, rhcy46, hzhcy46, hthcy46, hwhcy46⟩ := id lry45
    obtain ⟨thcy47, zhcy47, ohcy47, rhcy47, hzhcy47, hthcy47, hwhcy47⟩ := id mry45
    refine z_aload_n C 0 dX9_feed_42 rfl ?_
    refine z_get (v := .int (zI (t + 4 + 4 + 4 + 4 + 4))) C (lt_K hN (rfl : Nat.blt (0) 952 = true)) hay2 ary45 rfl inA_X9 1 (by decide) q_350 rfl rfl dX9_feed_43 ?_
    have hrecy48 : okRec cs ad gvy43 N (t + 4 + 4 + 4 + 4 + 4) (fp) (im) (nz) (kz) (sl) (ho) (ua) (st) (op) (ai) (fa) (mu) (tb) (tpvy43) := ⟨ary45, bry45, cry45, dry45, ery45, fry45, gry451, hry45, ⟨_, iry45⟩, ⟨_, jry45⟩, kry45, lry45, mry45, nry45, ory45, pry45⟩
    have htt : 0 ≤ t ∧ t ≤ 880 := by omega
    have hfr : ∀ j : Nat, (j : Int) < t ∨ t + 20 ≤ (j : Int) → tpvy43 j = tp j := fun j hj => (hqvy43 j (by omega)).trans ((hqvy38 j (by omega)).trans ((hqvy33 j (by omega)).trans ((hqvy28 j (by omega)).trans (hqvy23 j (by omega)))))
    have hb09 : ∀ s : Nat, s < 4 → sB z s (tpvy43 ((t).toNat + s)) := by
      intro s hs
      have e9 : (t).toNat + s = (t).toNat + s := by omega
      rw [e9]
      rw [hqvy43 ((t).toNat + s) (by omega)]
      rw [hqvy38 ((t).toNat + s) (by omega)]
      rw [hqvy33 ((t).toNat + s) (by omega)]
      rw [hqvy28 ((t).toNat + s) (by omega)]
      exact hbvy23 s hs
    have hb19 : ∀ s : Nat, s < 4 → sB z1 s (tpvy43 ((t).toNat + 4 + s)) := by
      intro s hs
      have e9 : (t).toNat + 4 + s = (t + 4).toNat + s := by omega
      rw [e9]
      rw [hqvy43 ((t + 4).toNat + s) (by omega)]
      rw [hqvy38 ((t + 4).toNat + s) (by omega)]
      rw [hqvy33 ((t + 4).toNat + s) (by omega)]
      exact hbvy28 s hs
    have hb29 : ∀ s : Nat, s < 4 → sB z2 s (tpvy43 ((t).toNat + 8 + s)) := by
      intro s hs
      have e9 : (t).toNat + 8 + s = (t + 4 + 4).toNat + s := by omega
      rw [e9]
      rw [hqvy43 ((t + 4 + 4).toNat + s) (by omega)]
      rw [hqvy38 ((t + 4 + 4).toNat + s) (by omega)]
      exact hbvy33 s hs
    have hb39 : ∀ s : Nat, s < 4 → sB z3 s (tpvy43 ((t).toNat + 12 + s)) := by
      intro s hs
      have e9 : (t).toNat + 12 + s = (t + 4 + 4 + 4).toNat + s := by omega
      rw [e9]
      rw [hqvy43 ((t + 4 + 4 + 4).toNat + s) (by omega)]
      exact hbvy38 s hs
    have hb49 : ∀ s : Nat, s < 4 → sB z4 s (tpvy43 ((t).toNat + 16 + s)) := by
      intro s hs
      have e9 : (t).toNat + 16 + s = (t + 4 + 4 + 4 + 4).toNat + s := by omega
      rw [e9]
      exact hbvy43 s hs
    exact z_iret C hr hlk dX9_feed_46 (by decide) (by decide) ⟨t + 4 + 4 + 4 + 4 + 4, rfl, rfl, rfl, by rw [if_pos (by omega)]; omega, ⟨_, by rw [if_pos (by omega), show t + 20 = t + 4 + 4 + 4 + 4 + 4 by omega]; exact hrecy48, fun _ => ⟨hfr, fun s hs => ⟨hb09 s hs, hb19 s hs, hb29 s hs, hb39 s hs, hb49 s hs⟩⟩, fun h9 => absurd h9 (by omega)⟩, fun j j1 j2 => by rw [hfvy43 _ (by omega) (by omega)]; rw [hfvy38 _ (by omega) (by omega)]; rw [hfvy33 _ (by omega) (by omega)]; rw [hfvy28 _ (by omega) (by omega)]; rw [hfvy23 _ (by omega) (by omega)]⟩
  · refine z_iconst (z := -1) C dX9_feed_13 rfl ?_
    have hrecy49 : okRec cs ad g N (t) (fp) (im) (nz) (kz) (sl) (ho) (ua) (st) (op) (ai) (fa) (mu) (tb) (tp) := ⟨ary1, bry1, cry1, dry1, ery1, fry1, gry11, hry1, ⟨_, iry1⟩, ⟨_, jry1⟩, kry1, lry1, mry1, nry1, ory1, pry1⟩
    exact z_iret C hr hlk dX9_feed_14 (by decide) (by decide) ⟨-1, rfl, rfl, rfl, by rw [if_neg (by omega)], ⟨tp, by rw [if_neg (by omega)]; exact hrecy49, fun h9 => absurd h9 (by omega), fun _ => rfl⟩, fun j j1 j2 => by rfl⟩
end
section
-- 53.words.lean.txt
-- words of str
theorem q_1166 : (Jvm.Cond.fieldLink "java/lang/String" (9 : Nat) "java/lang/String" "value" "[B") ∈ AW := AW_m5 206 (by decide +kernel) (by decide +kernel)
theorem q_1167 : (Jvm.Cond.fieldLink "java/lang/String" (15 : Nat) "java/lang/String" "coder" "B") ∈ AW := AW_m5 207 (by decide +kernel) (by decide +kernel)
theorem q_13 : (Jvm.Cond.initialized "java/lang/String") ∈ AW := AW_m1 13 (by decide +kernel) (by decide +kernel)
theorem q_22 : (Jvm.Cond.initialized "java/lang/StringLatin1") ∈ AW := AW_m1 22 (by decide +kernel) (by decide +kernel)
theorem q_23 : (Jvm.Cond.initialized "jdk/internal/util/Preconditions") ∈ AW := AW_m1 23 (by decide +kernel) (by decide +kernel)
theorem q_762 : (Jvm.Cond.methodLink "java/lang/String" (335 : Nat) ({ cls := "java/lang/String", name := "coder", desc := "()B" } : Jvm.MethodName)) ∈ AW := AW_m4 42 (by decide +kernel) (by decide +kernel)
theorem q_763 : (Jvm.Cond.instanceMethod ({ cls := "java/lang/String", name := "coder", desc := "()B" } : Jvm.MethodName)) ∈ AW := AW_m4 43 (by decide +kernel) (by decide +kernel)
theorem q_764 : (Jvm.Cond.selects "java/lang/String" ({ cls := "java/lang/String", name := "coder", desc := "()B" } : Jvm.MethodName) ({ cls := "java/lang/String", name := "coder", desc := "()B" } : Jvm.MethodName)) ∈ AW := AW_m4 44 (by decide +kernel) (by decide +kernel)
theorem q_765 : (Jvm.Cond.code ({ cls := "java/lang/String", name := "coder", desc := "()B" } : Jvm.MethodName) prog_25_method_152_code (1 : Nat) (Option.some Jvm.ClassFile.FieldType.byte)) ∈ AW := AW_m4 45 (by decide +kernel) (by decide +kernel)
theorem q_766 : (Jvm.Cond.fieldLink "java/lang/String" (38 : Nat) "java/lang/String" "COMPACT_STRINGS" "Z") ∈ AW := AW_m4 46 (by decide +kernel) (by decide +kernel)
theorem q_771 : (Jvm.Cond.methodLink "java/lang/String" (492 : Nat) ({ cls := "java/lang/String", name := "isLatin1", desc := "()Z" } : Jvm.MethodName)) ∈ AW := AW_m4 51 (by decide +kernel) (by decide +kernel)
theorem q_772 : (Jvm.Cond.instanceMethod ({ cls := "java/lang/String", name := "isLatin1", desc := "()Z" } : Jvm.MethodName)) ∈ AW := AW_m4 52 (by decide +kernel) (by decide +kernel)
theorem q_773 : (Jvm.Cond.selects "java/lang/String" ({ cls := "java/lang/String", name := "isLatin1", desc := "()Z" } : Jvm.MethodName) ({ cls := "java/lang/String", name := "isLatin1", desc := "()Z" } : Jvm.MethodName)) ∈ AW := AW_m4 53 (by decide +kernel) (by decide +kernel)
theorem q_774 : (Jvm.Cond.code ({ cls := "java/lang/String", name := "isLatin1", desc := "()Z" } : Jvm.MethodName) prog_25_method_154_code (1 : Nat) (Option.some Jvm.ClassFile.FieldType.boolean)) ∈ AW := AW_m4 54 (by decide +kernel) (by decide +kernel)
theorem q_775 : (Jvm.Cond.methodLink "java/lang/String" (495 : Nat) ({ cls := "java/lang/StringLatin1", name := "charAt", desc := "([BI)C" } : Jvm.MethodName)) ∈ AW := AW_m4 55 (by decide +kernel) (by decide +kernel)
theorem q_776 : (Jvm.Cond.static ({ cls := "java/lang/StringLatin1", name := "charAt", desc := "([BI)C" } : Jvm.MethodName)) ∈ AW := AW_m4 56 (by decide +kernel) (by decide +kernel)
theorem q_777 : (Jvm.Cond.code ({ cls := "java/lang/StringLatin1", name := "charAt", desc := "([BI)C" } : Jvm.MethodName) prog_27_method_2_code (2 : Nat) (Option.some Jvm.ClassFile.FieldType.char)) ∈ AW := AW_m4 57 (by decide +kernel) (by decide +kernel)
theorem q_778 : (Jvm.Cond.methodLink "java/lang/StringLatin1" (9 : Nat) ({ cls := "java/lang/String", name := "checkIndex", desc := "(II)V" } : Jvm.MethodName)) ∈ AW := AW_m4 58 (by decide +kernel) (by decide +kernel)
theorem q_779 : (Jvm.Cond.static ({ cls := "java/lang/String", name := "checkIndex", desc := "(II)V" } : Jvm.MethodName)) ∈ AW := AW_m4 59 (by decide +kernel) (by decide +kernel)
theorem q_780 : (Jvm.Cond.code ({ cls := "java/lang/String", name := "checkIndex", desc := "(II)V" } : Jvm.MethodName) prog_25_method_155_code (2 : Nat) (Option.none : Option Jvm.ClassFile.FieldType)) ∈ AW := AW_m4 60 (by decide +kernel) (by decide +kernel)
theorem q_781 : (Jvm.Cond.fieldLink "java/lang/String" (1053 : Nat) "jdk/internal/util/Preconditions" "SIOOBE_FORMATTER" "Ljava/util/function/BiFunction;") ∈ AW := AW_m4 61 (by decide +kernel) (by decide +kernel)
theorem q_783 : (Jvm.Cond.methodLink "java/lang/String" (1059 : Nat) ({ cls := "jdk/internal/util/Preconditions", name := "checkIndex", desc := "(IILjava/util/function/BiFunction;)I" } : Jvm.MethodName)) ∈ AW := AW_m4 63 (by decide +kernel) (by decide +kernel)
theorem q_784 : (Jvm.Cond.static ({ cls := "jdk/internal/util/Preconditions", name := "checkIndex", desc := "(IILjava/util/function/BiFunction;)I" } : Jvm.MethodName)) ∈ AW := AW_m4 64 (by decide +kernel) (by decide +kernel)
theorem q_785 : (Jvm.Cond.code ({ cls := "jdk/internal/util/Preconditions", name := "checkIndex", desc := "(IILjava/util/function/BiFunction;)I" } : Jvm.MethodName) prog_36_method_11_code (3 : Nat) (Option.some Jvm.ClassFile.FieldType.int)) ∈ AW := AW_m4 65 (by decide +kernel) (by decide +kernel)
theorem hd_yJ0_coder_7d493 : yJ0_coder_7d493.cls ≠ "java/lang/invoke/MethodHandle" ∧ yJ0_coder_7d493.cls ≠ "java/lang/invoke/VarHandle" ∧ (parseMethodDescriptor yJ0_coder_7d493.desc).map (fun d => d.parameters.length) = some 0 := by decide +kernel
theorem hd_yJ3_checkIndex_8e157 : yJ3_checkIndex_8e157.cls ≠ "java/lang/invoke/MethodHandle" ∧ yJ3_checkIndex_8e157.cls ≠ "java/lang/invoke/VarHandle" ∧ (parseMethodDescriptor yJ3_checkIndex_8e157.desc).map (fun d => d.parameters.length) = some 3 := by decide +kernel
theorem hd_yJ0_checkIndex_df160 : yJ0_checkIndex_df160.cls ≠ "java/lang/invoke/MethodHandle" ∧ yJ0_checkIndex_df160.cls ≠ "java/lang/invoke/VarHandle" ∧ (parseMethodDescriptor yJ0_checkIndex_df160.desc).map (fun d => d.parameters.length) = some 2 := by decide +kernel
theorem hd_yJ0_isLatin1_aae02 : yJ0_isLatin1_aae02.cls ≠ "java/lang/invoke/MethodHandle" ∧ yJ0_isLatin1_aae02.cls ≠ "java/lang/invoke/VarHandle" ∧ (parseMethodDescriptor yJ0_isLatin1_aae02.desc).map (fun d => d.parameters.length) = some 0 := by decide +kernel
theorem hd_yJ1_charAt_3b067 : yJ1_charAt_3b067.cls ≠ "java/lang/invoke/MethodHandle" ∧ yJ1_charAt_3b067.cls ≠ "java/lang/invoke/VarHandle" ∧ (parseMethodDescriptor yJ1_charAt_3b067.desc).map (fun d => d.parameters.length) = some 2 := by decide +kernel
theorem mv_yJ0_coder_7d493 : zWv yJ0_coder_7d493 cJ0_coder_7d493 1 (some .byte) := ⟨q_763, q_764, q_13, q_765⟩
theorem ms_yJ3_checkIndex_8e157 : zWs yJ3_checkIndex_8e157 cJ3_checkIndex_8e157 3 (some .int) := ⟨q_784, q_23, q_785⟩
theorem ms_yJ0_checkIndex_df160 : zWs yJ0_checkIndex_df160 cJ0_checkIndex_df160 2 none := ⟨q_779, q_13, q_780⟩
theorem mv_yJ0_isLatin1_aae02 : zWv yJ0_isLatin1_aae02 cJ0_isLatin1_aae02 1 (some .boolean) := ⟨q_772, q_773, q_13, q_774⟩
theorem ms_yJ1_charAt_3b067 : zWs yJ1_charAt_3b067 cJ1_charAt_3b067 2 (some .char) := ⟨q_776, q_22, q_777⟩
end
section
-- 54.dec.lean.txt
-- decode rows of str
theorem dJ0_coder_7d493_0 : decode cJ0_coder_7d493 0 = .ok (.getstatic 38, 3) := by decide +kernel
theorem dJ0_coder_7d493_3 : decode cJ0_coder_7d493 3 = .ok (.ifCond .eq 10, 3) := by decide +kernel
theorem dJ0_coder_7d493_6 : decode cJ0_coder_7d493 6 = .ok (.aload_n 0, 1) := by decide +kernel
theorem dJ0_coder_7d493_7 : decode cJ0_coder_7d493 7 = .ok (.getfield 15, 3) := by decide +kernel
theorem dJ0_coder_7d493_10 : decode cJ0_coder_7d493 10 = .ok (.goto 4, 3) := by decide +kernel
theorem dJ0_coder_7d493_14 : decode cJ0_coder_7d493 14 = .ok (.ireturn, 1) := by decide +kernel
theorem dJ0_isLatin1_aae02_0 : decode cJ0_isLatin1_aae02 0 = .ok (.getstatic 38, 3) := by decide +kernel
theorem dJ0_isLatin1_aae02_3 : decode cJ0_isLatin1_aae02 3 = .ok (.ifCond .eq 14, 3) := by decide +kernel
theorem dJ0_isLatin1_aae02_6 : decode cJ0_isLatin1_aae02 6 = .ok (.aload_n 0, 1) := by decide +kernel
theorem dJ0_isLatin1_aae02_7 : decode cJ0_isLatin1_aae02 7 = .ok (.getfield 15, 3) := by decide +kernel
theorem dJ0_isLatin1_aae02_10 : decode cJ0_isLatin1_aae02 10 = .ok (.ifCond .ne 7, 3) := by decide +kernel
theorem dJ0_isLatin1_aae02_13 : decode cJ0_isLatin1_aae02 13 = .ok (.iconst 1, 1) := by decide +kernel
theorem dJ0_isLatin1_aae02_14 : decode cJ0_isLatin1_aae02 14 = .ok (.goto 4, 3) := by decide +kernel
theorem dJ0_isLatin1_aae02_18 : decode cJ0_isLatin1_aae02 18 = .ok (.ireturn, 1) := by decide +kernel
theorem dJ0_length_8abf5_0 : decode cJ0_length_8abf5 0 = .ok (.aload_n 0, 1) := by decide +kernel
theorem dJ0_length_8abf5_1 : decode cJ0_length_8abf5 1 = .ok (.getfield 9, 3) := by decide +kernel
theorem dJ0_length_8abf5_4 : decode cJ0_length_8abf5 4 = .ok (.arraylength, 1) := by decide +kernel
theorem dJ0_length_8abf5_5 : decode cJ0_length_8abf5 5 = .ok (.aload_n 0, 1) := by decide +kernel
theorem dJ0_length_8abf5_6 : decode cJ0_length_8abf5 6 = .ok (.invokevirtual 335, 3) := by decide +kernel
theorem dJ0_length_8abf5_9 : decode cJ0_length_8abf5 9 = .ok (.ishr, 1) := by decide +kernel
theorem dJ0_length_8abf5_10 : decode cJ0_length_8abf5 10 = .ok (.ireturn, 1) := by decide +kernel
theorem dJ3_checkIndex_8e157_0 : decode cJ3_checkIndex_8e157 0 = .ok (.iload_n 0, 1) := by decide +kernel
theorem dJ3_checkIndex_8e157_1 : decode cJ3_checkIndex_8e157 1 = .ok (.ifCond .lt 8, 3) := by decide +kernel
theorem dJ3_checkIndex_8e157_4 : decode cJ3_checkIndex_8e157 4 = .ok (.iload_n 0, 1) := by decide +kernel
theorem dJ3_checkIndex_8e157_5 : decode cJ3_checkIndex_8e157 5 = .ok (.iload_n 1, 1) := by decide +kernel
theorem dJ3_checkIndex_8e157_6 : decode cJ3_checkIndex_8e157 6 = .ok (.if_icmp .lt 10, 3) := by decide +kernel
theorem dJ3_checkIndex_8e157_16 : decode cJ3_checkIndex_8e157 16 = .ok (.iload_n 0, 1) := by decide +kernel
theorem dJ3_checkIndex_8e157_17 : decode cJ3_checkIndex_8e157 17 = .ok (.ireturn, 1) := by decide +kernel
theorem dJ0_checkIndex_df160_0 : decode cJ0_checkIndex_df160 0 = .ok (.iload_n 0, 1) := by decide +kernel
theorem dJ0_checkIndex_df160_1 : decode cJ0_checkIndex_df160 1 = .ok (.iload_n 1, 1) := by decide +kernel
theorem dJ0_checkIndex_df160_2 : decode cJ0_checkIndex_df160 2 = .ok (.getstatic 1053, 3) := by decide +kernel
theorem dJ0_checkIndex_df160_5 : decode cJ0_checkIndex_df160 5 = .ok (.invokestatic 1059, 3) := by decide +kernel
theorem dJ0_checkIndex_df160_8 : decode cJ0_checkIndex_df160 8 = .ok (.pop, 1) := by decide +kernel
theorem dJ0_checkIndex_df160_9 : decode cJ0_checkIndex_df160 9 = .ok (.return_, 1) := by decide +kernel
theorem dJ1_charAt_3b067_0 : decode cJ1_charAt_3b067 0 = .ok (.iload_n 1, 1) := by decide +kernel
theorem dJ1_charAt_3b067_1 : decode cJ1_charAt_3b067 1 = .ok (.aload_n 0, 1) := by decide +kernel
theorem dJ1_charAt_3b067_2 : decode cJ1_charAt_3b067 2 = .ok (.arraylength, 1) := by decide +kernel
theorem dJ1_charAt_3b067_3 : decode cJ1_charAt_3b067 3 = .ok (.invokestatic 9, 3) := by decide +kernel
theorem dJ1_charAt_3b067_6 : decode cJ1_charAt_3b067 6 = .ok (.aload_n 0, 1) := by decide +kernel
theorem dJ1_charAt_3b067_7 : decode cJ1_charAt_3b067 7 = .ok (.iload_n 1, 1) := by decide +kernel
theorem dJ1_charAt_3b067_8 : decode cJ1_charAt_3b067 8 = .ok (.baload, 1) := by decide +kernel
theorem dJ1_charAt_3b067_9 : decode cJ1_charAt_3b067 9 = .ok (.sipush 255, 3) := by decide +kernel
theorem dJ1_charAt_3b067_12 : decode cJ1_charAt_3b067 12 = .ok (.iand, 1) := by decide +kernel
theorem dJ1_charAt_3b067_13 : decode cJ1_charAt_3b067 13 = .ok (.i2c, 1) := by decide +kernel
theorem dJ1_charAt_3b067_14 : decode cJ1_charAt_3b067 14 = .ok (.ireturn, 1) := by decide +kernel
theorem dJ0_charAt_5068e_0 : decode cJ0_charAt_5068e 0 = .ok (.aload_n 0, 1) := by decide +kernel
theorem dJ0_charAt_5068e_1 : decode cJ0_charAt_5068e 1 = .ok (.invokevirtual 492, 3) := by decide +kernel
theorem dJ0_charAt_5068e_4 : decode cJ0_charAt_5068e 4 = .ok (.ifCond .eq 12, 3) := by decide +kernel
theorem dJ0_charAt_5068e_7 : decode cJ0_charAt_5068e 7 = .ok (.aload_n 0, 1) := by decide +kernel
theorem dJ0_charAt_5068e_8 : decode cJ0_charAt_5068e 8 = .ok (.getfield 9, 3) := by decide +kernel
theorem dJ0_charAt_5068e_11 : decode cJ0_charAt_5068e 11 = .ok (.iload_n 1, 1) := by decide +kernel
theorem dJ0_charAt_5068e_12 : decode cJ0_charAt_5068e 12 = .ok (.invokestatic 495, 3) := by decide +kernel
theorem dJ0_charAt_5068e_15 : decode cJ0_charAt_5068e 15 = .ok (.ireturn, 1) := by decide +kernel
end
section
-- 55.str.lean.txt
theorem zC.S {p : Program} {s : State} {m : MethodId} {args : Array Value} {c : Code} {cc : ByteArray} {nL : Nat} {own : String} {D : va_G} {A : Nat → Prop} {cs : Nat → ClassId} {tt : Nat} (C : zC p s m args c cc nL own D A cs tt) : zS A cs s := C.2.2.2.2.2.2.2.2.2.2.2.2.2
theorem SKL_len : ∀ q ∈ SKL, 1 ≤ q.2.2.2.2.length ∧ q.2.2.2.2.length ≤ 6 := by decide
theorem ldcw_str {p : Program} {l : Launch} {e : Env} {R : Room} {s : State} {m : MethodId} {args : Array Value} {below : List Frame} {meth : Method} {c : Code} {T : State} {locs : List Loc} {cells slots : Nat} (X : Stand p l e R s m args below meth c T locs cells slots) (hexec : p.tables.exec = Jvm.exec) {own text : String} {index a : Nat} (hown : s.vm.findClass own = some m.cls) (hconst : (Cond.stringRef own index text).before args s = true) (hev : (Term.string own index).eval args s none [] s = some (.ref a)) {g : JFrame} (hg : g.method = m) (hdg : decode c.code g.pc = .ok (.ldc_w index, 3)) : ∀ target, Steps p.tables e below (T.setTop { g with pc := g.pc + 3, stack := .ref a :: g.stack }) target → Steps p.tables e below (T.setTop g) target := by
  obtain ⟨k, cf, i, a', hk, hcf, hcp, -, hr, hev'⟩ := Cond.stringRef_spec hown hconst
  cases hev.symm.trans hev'
  obtain ⟨k', hk', he⟩ := X.warmed.alike.2.2 _ _ hk
  have hr' : k'.resolved[index]? = some (some (.string a)) := by
    rcases X.warmed.entry hk hk' index with h | ⟨h, -⟩
    · rw [h]; exact hr
    · rw [hr] at h; cases h
  intro target hrest
  subst hg
  jvm_step X.here [hexec, hdg, ldc_w.wp_string (e := e) (s := T) (f := g) X.here.top hk' (by rw [he]; exact hcf) hcp hr']
  exact hrest
section ZSTR
variable {p : Program} {l : Launch} {e : Env} {R : Room} {s : State} {m : MethodId} {args : Array Value} {below : List Frame} {meth : Method} {c : Code} {Q : State → Prop} {D : va_G} {A : Nat → Prop} {cs : Nat → ClassId} {tt : Nat} {cc : ByteArray} {nL : Nat} {own : String} {N : Nat} {ad : Nat → Nat} {g : Nat → va_E} {k n pc : Nat} {lv lv' : List (Nat × Value)} {rest : List Value} {Qr : zR} {st : List Value} {q : String × Nat × String × Nat × List Int32}
theorem z_ldcS (C : zC p s m args c cc nL own D A cs tt) (hq : q ∈ SKL) {idx : Nat} (ho : q.1 = own) (hi : q.2.1 = idx) (hdg : decode cc pc = .ok (.ldc idx, 2)) (kk : zV p l e R s m args below meth c Q D A nL N ad g k n (pc + 2) (lv) (.ref (cs (100 + q.2.2.2.1)) :: rest)) : zV p l e R s m args below meth c Q D A nL N ad g k n (pc) (lv) (rest) := fun H locs ls hP hD hS hl => by
  subst ho; subst hi
  exact va_ldcS C.1 C.2.1 C.2.2.2.1 (C.S.1 q hq).1 hdg (kk H locs ls hP hD hS hl)
theorem z_ldcwS (C : zC p s m args c cc nL own D A cs tt) (hq : q ∈ SKL) {idx : Nat} (ho : q.1 = own) (hi : q.2.1 = idx) (hdg : decode cc pc = .ok (.ldc_w idx, 3)) (kk : zV p l e R s m args below meth c Q D A nL N ad g k n (pc + 3) (lv) (.ref (cs (100 + q.2.2.2.1)) :: rest)) : zV p l e R s m args below meth c Q D A nL N ad g k n (pc) (lv) (rest) := fun H locs ls hP hD hS hl => by
  subst ho; subst hi
  intro T hT X
  obtain ⟨t, a1, b1⟩ := kk H locs ls hP hD hS hl T hT X
  have hz := (C.S.1 q hq).1
  exact ⟨t, ldcw_str X C.1 C.2.2.2.1 (text := q.2.2.1) hz.1 hz.2 (g := F0 m pc ls rest) rfl (by rw [C.2.1]; exact hdg) t a1, b1⟩
theorem z_sval (C : zC p s m args c cc nL own D A cs tt) (hq : q ∈ SKL) {idx : Nat} (hlk : Cond.fieldLink own idx "java/lang/String" "value" "[B" ∈ AW) (hdg : decode cc pc = .ok (.getfield idx, 3)) (kk : zV p l e R s m args below meth c Q D A nL N ad g k n (pc + 3) (lv) (.ref (cs (200 + q.2.2.2.1)) :: rest)) : zV p l e R s m args below meth c Q D A nL N ad g k n (pc) (lv) (.ref (cs (100 + q.2.2.2.1)) :: rest) := fun H locs ls hP hD hS hl => vk_getf C.1 C.2.1 (C.S.1 q hq).2.2.2.1 hS C.2.2.2.1 (C.2.2.2.2.1 _ hlk) (fun _ h => h) hdg (kk H locs ls hP hD hS hl)
theorem z_scod (C : zC p s m args c cc nL own D A cs tt) (hq : q ∈ SKL) {idx : Nat} (hlk : Cond.fieldLink own idx "java/lang/String" "coder" "B" ∈ AW) (hdg : decode cc pc = .ok (.getfield idx, 3)) (kk : zV p l e R s m args below meth c Q D A nL N ad g k n (pc + 3) (lv) (.int (zI 0) :: rest)) : zV p l e R s m args below meth c Q D A nL N ad g k n (pc) (lv) (.ref (cs (100 + q.2.2.2.1)) :: rest) := fun H locs ls hP hD hS hl => vk_getf C.1 C.2.1 (C.S.1 q hq).2.2.1 hS C.2.2.2.1 (C.2.2.2.2.1 _ hlk) (fun _ h => h) hdg (kk H locs ls hP hD hS hl)
theorem z_salen (C : zC p s m args c cc nL own D A cs tt) (hq : q ∈ SKL) (hdg : decode cc pc = .ok (.arraylength, 1)) (kk : zV p l e R s m args below meth c Q D A nL N ad g k n (pc + 1) (lv) (.int (zI (q.2.2.2.2.length : Int)) :: rest)) : zV p l e R s m args below meth c Q D A nL N ad g k n (pc) (lv) (.ref (cs (200 + q.2.2.2.1)) :: rest) := fun H locs ls hP hD hS hl => va_tlen C.1 C.2.1 (C.S.1 q hq).2.2.2.2 hS (zI_nat _) hdg (kk H locs ls hP hD hS hl)
theorem z_sbald (C : zC p s m args c cc nL own D A cs tt) (hq : q ∈ SKL) (j : Nat) {z y : Int} (hz : z = (j : Int)) (hj : j < q.2.2.2.2.length) (hv : q.2.2.2.2.getD j 0 = zI y) (hdg : decode cc pc = .ok (.baload, 1)) (kk : zV p l e R s m args below meth c Q D A nL N ad g k n (pc + 1) (lv) (.int (zI y) :: rest)) : zV p l e R s m args below meth c Q D A nL N ad g k n (pc) (lv) (.int (zI z) :: .ref (cs (200 + q.2.2.2.1)) :: rest) := fun H locs ls hP hD hS hl => by
  subst hz
  have hL := SKL_len q hq
  exact va_tb C.1 C.2.1 (C.S.1 q hq).2.2.2.2 hS (zI_in hj (by omega)) (show Value.int (q.2.2.2.2.getD (zI (j : Int)).toNatClampNeg 0) = .int (zI y) by rw [zI_clN (by omega), hv]) hdg (kk H locs ls hP hD hS hl)
theorem z_gsQ (C : zC p s m args c cc nL own D A cs tt) {idx : Nat} (hlk : Cond.fieldLink own idx "jdk/internal/util/Preconditions" "SIOOBE_FORMATTER" "Ljava/util/function/BiFunction;" ∈ AW) (hdg : decode cc pc = .ok (.getstatic idx, 3)) (kn : zV p l e R s m args below meth c Q D A nL N ad g k n (pc + 3) (lv) (.null :: rest)) (kr : ∀ t : Nat, zV p l e R s m args below meth c Q D A nL N ad g k n (pc + 3) (lv) (.ref t :: rest)) : zV p l e R s m args below meth c Q D A nL N ad g k n (pc) (lv) (rest) := fun H locs ls hP hD hS hl => by
  rcases C.S.2.2 with h | ⟨t, h⟩
  · exact va_gets C.1 C.2.1 h hS C.2.2.2.1 (C.2.2.2.2.1 _ hlk) (fun _ h => h) hdg (kn H locs ls hP hD hS hl)
  · exact va_gets C.1 C.2.1 h hS C.2.2.2.1 (C.2.2.2.2.1 _ hlk) (fun _ h => h) hdg (kr t H locs ls hP hD hS hl)
theorem z_cVs (C : zC p s m args c cc nL own D A cs tt) {y : MethodName} {cb : ByteArray} {mL index : Nat} {ret : Option FieldType} {rm : Room} {As : List Value} (hq : q ∈ SKL) (hM : zM l y cb mL ret rm D A cs tt N ad g (.ref (cs (100 + q.2.2.2.1)) :: As) Qr) (hyc : y.cls = "java/lang/String") (hw : zWv y cb mL ret) (hlk : Cond.methodLink own index y ∈ AW) (hd : y.cls ≠ "java/lang/invoke/MethodHandle" ∧ y.cls ≠ "java/lang/invoke/VarHandle" ∧ (parseMethodDescriptor y.desc).map (fun d => d.parameters.length) = some As.length) (hR : rm.frames + 1 ≤ R.frames ∧ 8 + (mL + 11) + rm.locals ≤ R.locals) (hrest : (rest.map fun v => v.category).sum ≤ 8) (hf : k + rm.cells ≤ R.cells ∧ n + rm.slots ≤ R.slots) (hdg : decode cc pc = .ok (.invokevirtual index, 3)) (hst : st = As.reverse ++ .ref (cs (100 + q.2.2.2.1)) :: rest)
    (kk : ∀ (r : Option Value) (N' : Nat) (ad' : Nat → Nat) (g' : Nat → va_E), Qr r N' ad' g' → zV p l e R s m args below meth c Q D A nL N' ad' g' (k + rm.cells) (n + rm.slots) (pc + 3) (lv) (r.toList ++ rest)) : zV p l e R s m args below meth c Q D A nL N ad g k n (pc) (lv) (st) := fun H locs ls hP hD hS hl => by
  have hG : GoodIn AW (wsV own index y.cls y (Cond.code y cb mL ret :: AW)) := AW_in (fun w h => by
    rcases List.mem_append.mp h with h | h
    · rcases List.mem_cons.mp h with rfl | h
      · exact hlk
      · rcases List.mem_cons.mp h with rfl | h
        · exact hw.1
        · rcases List.mem_cons.mp h with rfl | h
          · exact hw.2.1
          · rcases List.mem_cons.mp h with rfl | h
            · exact hw.2.2.1
            · exact absurd h List.not_mem_nil
    · rcases List.mem_cons.mp h with rfl | h
      · exact hw.2.2.2
      · exact h)
  have hrc : ∃ cell : Cell, H[cs (100 + q.2.2.2.1)]? = some cell ∧ cell.vm.isStatics = false ∧ s.vm.findClass y.cls = some cell.cls := by
    obtain ⟨cell, h1, h2, h3, h4⟩ := (C.S.1 q hq).2.1.kept hS.2.1
    exact ⟨cell, h1, h2, by rw [hyc]; exact h3⟩
  exact z_run (va_runV (As := As) (rest := rest) ⟨C.1, C.2.1, C.2.2.1, C.2.2.2.1, C.2.2.2.2.1⟩ hM (cwV As.length C.2.2.2.2.1 hG rfl rfl rfl ⟨rfl, hd⟩ hR) ⟨zPre.blind, hrc, (z_preS C hP hD hS).2⟩ rfl rfl hl.1 hst (lv_room hrest) hdg hf) hS hl kk
end ZSTR

theorem skm0 : (("SnowRecorder$TextReader", 61, "slope", 0, [115, 108, 111, 112, 101]) : String × Nat × String × Nat × List Int32) ∈ SKL := List.mem_of_getElem? (i := 0) rfl
theorem skm1 : (("SnowRecorder$TextReader", 71, "layer", 1, [108, 97, 121, 101, 114]) : String × Nat × String × Nat × List Int32) ∈ SKL := List.mem_of_getElem? (i := 1) rfl
theorem skm2 : (("SnowRecorder", 495, "powder", 2, [112, 111, 119, 100, 101, 114]) : String × Nat × String × Nat × List Int32) ∈ SKL := List.mem_of_getElem? (i := 2) rfl
theorem skm3 : (("SnowRecorder", 497, "grains", 3, [103, 114, 97, 105, 110, 115]) : String × Nat × String × Nat × List Int32) ∈ SKL := List.mem_of_getElem? (i := 3) rfl
theorem skm4 : (("SnowRecorder", 499, "facets", 4, [102, 97, 99, 101, 116, 115]) : String × Nat × String × Nat × List Int32) ∈ SKL := List.mem_of_getElem? (i := 4) rfl
theorem skm5 : (("SnowRecorder", 501, "crust", 5, [99, 114, 117, 115, 116]) : String × Nat × String × Nat × List Int32) ∈ SKL := List.mem_of_getElem? (i := 5) rfl
theorem skm6 : (("SnowRecorder", 503, "hoar", 6, [104, 111, 97, 114]) : String × Nat × String × Nat × List Int32) ∈ SKL := List.mem_of_getElem? (i := 6) rfl
theorem skm7 : (("SnowRecorder$TextReader", 76, "hour", 7, [104, 111, 117, 114]) : String × Nat × String × Nat × List Int32) ∈ SKL := List.mem_of_getElem? (i := 7) rfl
theorem skm8 : (("SnowRecorder$TextReader", 149, "snow", 8, [115, 110, 111, 119]) : String × Nat × String × Nat × List Int32) ∈ SKL := List.mem_of_getElem? (i := 8) rfl
theorem skm9 : (("SnowRecorder$TextReader", 151, "rain", 9, [114, 97, 105, 110]) : String × Nat × String × Nat × List Int32) ∈ SKL := List.mem_of_getElem? (i := 9) rfl
theorem skm10 : (("SnowRecorder$TextReader", 153, "hoar", 10, [104, 111, 97, 114]) : String × Nat × String × Nat × List Int32) ∈ SKL := List.mem_of_getElem? (i := 10) rfl
theorem skm11 : (("SnowRecorder$TextReader", 81, "strong", 11, [115, 116, 114, 111, 110, 103]) : String × Nat × String × Nat × List Int32) ∈ SKL := List.mem_of_getElem? (i := 11) rfl
theorem skm12 : (("SnowRecorder$TextReader", 87, "holds", 12, [104, 111, 108, 100, 115]) : String × Nat × String × Nat × List Int32) ∈ SKL := List.mem_of_getElem? (i := 12) rfl
theorem skm13 : (("SnowRecorder$TextReader", 89, "stiff", 13, [115, 116, 105, 102, 102]) : String × Nat × String × Nat × List Int32) ∈ SKL := List.mem_of_getElem? (i := 13) rfl
theorem skm14 : (("SnowRecorder", 487, " of ", 14, [32, 111, 102, 32]) : String × Nat × String × Nat × List Int32) ∈ SKL := List.mem_of_getElem? (i := 14) rfl
theorem skm15 : (("SnowRecorder", 489, " wet ", 15, [32, 119, 101, 116, 32]) : String × Nat × String × Nat × List Int32) ∈ SKL := List.mem_of_getElem? (i := 15) rfl
theorem skm16 : (("SnowRecorder", 491, " in ", 16, [32, 105, 110, 32]) : String × Nat × String × Nat × List Int32) ∈ SKL := List.mem_of_getElem? (i := 16) rfl
theorem skm17 : (("SnowRecorder", 493, " at ", 17, [32, 97, 116, 32]) : String × Nat × String × Nat × List Int32) ∈ SKL := List.mem_of_getElem? (i := 17) rfl
set_option maxRecDepth 100000 in
set_option maxHeartbeats 4000000 in
theorem c_coder (l : Launch) (D : va_G) (A : Nat → Prop) (cs : Nat → ClassId) (tt : Nat) (N : Nat) (ad : Nat → Nat) (g : Nat → va_E) (q : String × Nat × String × Nat × List Int32) (hq : q ∈ SKL) : zM l yJ0_coder_7d493 cJ0_coder_7d493 1 (some .byte) ({ frames := 1, cells := 0, slots := 0, locals := 60 } : Room) D A cs tt N ad g [.ref (cs (100 + q.2.2.2.1))] (rI0 N ad fun r g' => r = 0 ∧ g = g') := by
  have hqL := SKL_len q hq
  refine z_of (by decide) (Nat.le_of_ble_eq_true rfl) ?_
  intro p e s m below meth c C hr hlk hnm
  refine z_lv (lv' := [(0, .ref (cs (100 + q.2.2.2.1)))]) [0] rfl ?_
  refine z_getZ C q_766 dJ0_coder_7d493_0 ?_
  refine z_if_eq (tgt := 13) C dJ0_coder_7d493_3 (by decide) (by omega) (fun h => absurd h (by omega)) (fun _ => ?_)
  refine z_aload_n C 0 dJ0_coder_7d493_6 rfl ?_
  refine z_scod C hq q_1167 dJ0_coder_7d493_7 ?_
  refine z_goto (tgt := 14) C dJ0_coder_7d493_10 (by decide) ?_
  exact z_zret C hr hlk dJ0_coder_7d493_14 (by decide) (by decide) (by decide) ⟨0, rfl, rfl, rfl, rfl, rfl⟩

set_option maxRecDepth 100000 in
set_option maxHeartbeats 4000000 in
theorem c_isLatin1 (l : Launch) (D : va_G) (A : Nat → Prop) (cs : Nat → ClassId) (tt : Nat) (N : Nat) (ad : Nat → Nat) (g : Nat → va_E) (q : String × Nat × String × Nat × List Int32) (hq : q ∈ SKL) : zM l yJ0_isLatin1_aae02 cJ0_isLatin1_aae02 1 (some .boolean) ({ frames := 1, cells := 0, slots := 0, locals := 60 } : Room) D A cs tt N ad g [.ref (cs (100 + q.2.2.2.1))] (rI0 N ad fun r g' => r = 1 ∧ g = g') := by
  have hqL := SKL_len q hq
  refine z_of (by decide) (Nat.le_of_ble_eq_true rfl) ?_
  intro p e s m below meth c C hr hlk hnm
  refine z_lv (lv' := [(0, .ref (cs (100 + q.2.2.2.1)))]) [0] rfl ?_
  refine z_getZ C q_766 dJ0_isLatin1_aae02_0 ?_
  refine z_if_eq (tgt := 17) C dJ0_isLatin1_aae02_3 (by decide) (by omega) (fun h => absurd h (by omega)) (fun _ => ?_)
  refine z_aload_n C 0 dJ0_isLatin1_aae02_6 rfl ?_
  refine z_scod C hq q_1167 dJ0_isLatin1_aae02_7 ?_
  refine z_if_ne (tgt := 17) C dJ0_isLatin1_aae02_10 (by decide) (by omega) (fun h => absurd h (by omega)) (fun _ => ?_)
  refine z_iconst (z := 1) C dJ0_isLatin1_aae02_13 rfl ?_
  refine z_goto (tgt := 18) C dJ0_isLatin1_aae02_14 (by decide) ?_
  exact z_zret C hr hlk dJ0_isLatin1_aae02_18 (by decide) (by decide) (by decide) ⟨1, rfl, rfl, rfl, rfl, rfl⟩

theorem c16 {x : Int} (h : 0 ≤ x ∧ x ≤ 65535) : (zI x).toUInt32.toUInt16.toUInt32.toInt32 = zI x := by
  obtain ⟨n, rfl⟩ := Int.eq_ofNat_of_zero_le h.1
  rw [← zI_nat, ← Int32.toBitVec_inj]
  apply BitVec.eq_of_toNat_eq
  simp
  omega
theorem m16 {x : Int} (h : 0 ≤ x ∧ x ≤ 65535) : ((zI x).toUInt32 % 65536).toInt32 = zI x := by
  obtain ⟨n, rfl⟩ := Int.eq_ofNat_of_zero_le h.1
  rw [← zI_nat, ← Int32.toBitVec_inj]
  apply BitVec.eq_of_toNat_eq
  simp
  omega
theorem nc16 {x : Int} (h : 0 ≤ x ∧ x ≤ 65535) : narrow .char (.int (zI x)) = .int (zI x) := congrArg Value.int (c16 h)
theorem shr0 (x : Int) : zI x >>> (zI 0 &&& 31) = zI x := by simp [show zI 0 = (0 : Int32) from rfl]
set_option maxRecDepth 100000 in
set_option maxHeartbeats 4000000 in
theorem c_slen (l : Launch) (D : va_G) (A : Nat → Prop) (cs : Nat → ClassId) (tt : Nat) (N : Nat) (ad : Nat → Nat) (g : Nat → va_E) (q : String × Nat × String × Nat × List Int32) (hq : q ∈ SKL) : zM l yJ0_length_8abf5 cJ0_length_8abf5 1 (some .int) ({ frames := 2, cells := 0, slots := 0, locals := 120 } : Room) D A cs tt N ad g [.ref (cs (100 + q.2.2.2.1))] (rI0 N ad fun r g' => r = (q.2.2.2.2.length : Int) ∧ g = g') := by
  have hqL := SKL_len q hq
  refine z_of (by decide) (Nat.le_of_ble_eq_true rfl) ?_
  intro p e s m below meth c C hr hlk hnm
  refine z_lv (lv' := [(0, .ref (cs (100 + q.2.2.2.1)))]) [0] rfl ?_
  refine z_aload_n C 0 dJ0_length_8abf5_0 rfl ?_
  refine z_sval C hq q_1166 dJ0_length_8abf5_1 ?_
  refine z_salen C hq dJ0_length_8abf5_4 ?_
  refine z_aload_n C 0 dJ0_length_8abf5_5 rfl ?_
  refine z_cVs (As := []) (rest := [.int (zI ((q.2.2.2.2.length : Int)))]) C hq (c_coder l D A cs tt N ad _ q hq) rfl mv_yJ0_coder_7d493 q_762 hd_yJ0_coder_7d493 (by decide) (Nat.le_of_ble_eq_true rfl) (by decide) dJ0_length_8abf5_6 rfl (kI0 fun vy1 gvy1 hvy1 => ?_)
  obtain ⟨rfl, rfl⟩ := hvy1
  refine z_ishr (z := (q.2.2.2.2.length : Int)) C dJ0_length_8abf5_9 (shr0 _) ?_
  exact z_iret C hr hlk dJ0_length_8abf5_10 (by decide) (by decide) ⟨(q.2.2.2.2.length : Int), rfl, rfl, rfl, rfl, rfl⟩

set_option maxRecDepth 100000 in
set_option maxHeartbeats 4000000 in
theorem c_ckI_n (l : Launch) (D : va_G) (A : Nat → Prop) (cs : Nat → ClassId) (tt : Nat) (N : Nat) (ad : Nat → Nat) (g : Nat → va_E) (z n9 : Int) (hz : 0 ≤ z ∧ z < n9 ∧ n9 ≤ 2147483647) : zM l yJ3_checkIndex_8e157 cJ3_checkIndex_8e157 3 (some .int) ({ frames := 1, cells := 0, slots := 0, locals := 60 } : Room) D A cs tt N ad g [.int (zI (z)), .int (zI (n9)), .null] (rI0 N ad fun r g' => r = z ∧ g = g') := by
  refine z_of (by decide) (Nat.le_of_ble_eq_true rfl) ?_
  intro p e s m below meth c C hr hlk hnm
  refine z_lv (lv' := [(0, .int (zI (z))), (1, .int (zI (n9))), (2, .null)]) [0, 1, 2] rfl ?_
  refine z_iload_n C 0 dJ3_checkIndex_8e157_0 rfl ?_
  refine z_if_lt (tgt := 9) C dJ3_checkIndex_8e157_1 (by decide) (by omega) (fun h => absurd h (by omega)) (fun _ => ?_)
  refine z_iload_n C 0 dJ3_checkIndex_8e157_4 rfl ?_
  refine z_iload_n C 1 dJ3_checkIndex_8e157_5 rfl ?_
  refine z_icmp_lt (tgt := 16) C dJ3_checkIndex_8e157_6 (by decide) (by omega) (by omega) (fun _ => ?_) (fun h => absurd h (by omega))
  refine z_iload_n C 0 dJ3_checkIndex_8e157_16 rfl ?_
  exact z_iret C hr hlk dJ3_checkIndex_8e157_17 (by decide) (by decide) ⟨z, rfl, rfl, rfl, rfl, rfl⟩

set_option maxRecDepth 100000 in
set_option maxHeartbeats 4000000 in
theorem c_ckI_r (l : Launch) (D : va_G) (A : Nat → Prop) (cs : Nat → ClassId) (tt : Nat) (N : Nat) (ad : Nat → Nat) (g : Nat → va_E) (z n9 : Int) (hz : 0 ≤ z ∧ z < n9 ∧ n9 ≤ 2147483647) (t9 : Nat) : zM l yJ3_checkIndex_8e157 cJ3_checkIndex_8e157 3 (some .int) ({ frames := 1, cells := 0, slots := 0, locals := 60 } : Room) D A cs tt N ad g [.int (zI (z)), .int (zI (n9)), .ref t9] (rI0 N ad fun r g' => r = z ∧ g = g') := by
  refine z_of (by decide) (Nat.le_of_ble_eq_true rfl) ?_
  intro p e s m below meth c C hr hlk hnm
  refine z_lv (lv' := [(0, .int (zI (z))), (1, .int (zI (n9))), (2, .ref t9)]) [0, 1, 2] rfl ?_
  refine z_iload_n C 0 dJ3_checkIndex_8e157_0 rfl ?_
  refine z_if_lt (tgt := 9) C dJ3_checkIndex_8e157_1 (by decide) (by omega) (fun h => absurd h (by omega)) (fun _ => ?_)
  refine z_iload_n C 0 dJ3_checkIndex_8e157_4 rfl ?_
  refine z_iload_n C 1 dJ3_checkIndex_8e157_5 rfl ?_
  refine z_icmp_lt (tgt := 16) C dJ3_checkIndex_8e157_6 (by decide) (by omega) (by omega) (fun _ => ?_) (fun h => absurd h (by omega))
  refine z_iload_n C 0 dJ3_checkIndex_8e157_16 rfl ?_
  exact z_iret C hr hlk dJ3_checkIndex_8e157_17 (by decide) (by decide) ⟨z, rfl, rfl, rfl, rfl, rfl⟩

set_option maxRecDepth 100000 in
set_option maxHeartbeats 4000000 in
theorem c_ckS (l : Launch) (D : va_G) (A : Nat → Prop) (cs : Nat → ClassId) (tt : Nat) (N : Nat) (ad : Nat → Nat) (g : Nat → va_E) (z n9 : Int) (hz : 0 ≤ z ∧ z < n9 ∧ n9 ≤ 2147483647) : zM l yJ0_checkIndex_df160 cJ0_checkIndex_df160 2 none ({ frames := 2, cells := 0, slots := 0, locals := 120 } : Room) D A cs tt N ad g [.int (zI (z)), .int (zI (n9))] (rV0 N ad fun g' => g = g') := by
  refine z_of (by decide) (Nat.le_of_ble_eq_true rfl) ?_
  intro p e s m below meth c C hr hlk hnm
  refine z_lv (lv' := [(0, .int (zI (z))), (1, .int (zI (n9)))]) [0, 1] rfl ?_
  refine z_iload_n C 0 dJ0_checkIndex_df160_0 rfl ?_
  refine z_iload_n C 1 dJ0_checkIndex_df160_1 rfl ?_
  refine z_gsQ C q_781 dJ0_checkIndex_df160_2 ?_ (fun t9 => ?_)
  · refine z_cS (As := [.int (zI (z)), .int (zI (n9)), .null]) (rest := []) C (c_ckI_n l D A cs tt N ad _ (z) (n9) (by omega)) ms_yJ3_checkIndex_8e157 q_783 hd_yJ3_checkIndex_8e157 (by decide) (Nat.le_of_ble_eq_true rfl) (by decide) dJ0_checkIndex_df160_5 rfl (kI0 fun vy1 gvy1 hvy1 => ?_)
    obtain ⟨rfl, rfl⟩ := hvy1
    refine z_pop C dJ0_checkIndex_df160_8 rfl ?_
    exact z_vret C hr hlk dJ0_checkIndex_df160_9 (by decide) (by decide) ⟨rfl, rfl, rfl, rfl⟩
  · refine z_cS (As := [.int (zI (z)), .int (zI (n9)), .ref t9]) (rest := []) C (c_ckI_r l D A cs tt N ad _ (z) (n9) (by omega) _) ms_yJ3_checkIndex_8e157 q_783 hd_yJ3_checkIndex_8e157 (by decide) (Nat.le_of_ble_eq_true rfl) (by decide) dJ0_checkIndex_df160_5 rfl (kI0 fun vy2 gvy2 hvy2 => ?_)
    obtain ⟨rfl, rfl⟩ := hvy2
    refine z_pop C dJ0_checkIndex_df160_8 rfl ?_
    exact z_vret C hr hlk dJ0_checkIndex_df160_9 (by decide) (by decide) ⟨rfl, rfl, rfl, rfl⟩

set_option maxRecDepth 100000 in
set_option maxHeartbeats 4000000 in
theorem c_L1charAt (l : Launch) (D : va_G) (A : Nat → Prop) (cs : Nat → ClassId) (tt : Nat) (N : Nat) (ad : Nat → Nat) (g : Nat → va_E) (q : String × Nat × String × Nat × List Int32) (hq : q ∈ SKL) (z : Int) (hz : 0 ≤ z ∧ z < (q.2.2.2.2.length : Int)) : zM l yJ1_charAt_3b067 cJ1_charAt_3b067 2 (some .char) ({ frames := 3, cells := 0, slots := 0, locals := 180 } : Room) D A cs tt N ad g [.ref (cs (200 + q.2.2.2.1)), .int (zI (z))] (rI0 N ad fun r g' => (0 ≤ r ∧ r ≤ 255) ∧ g = g') := by
  have hqL := SKL_len q hq
  refine z_of (by decide) (Nat.le_of_ble_eq_true rfl) ?_
  intro p e s m below meth c C hr hlk hnm
  refine z_lv (lv' := [(0, .ref (cs (200 + q.2.2.2.1))), (1, .int (zI (z)))]) [0, 1] rfl ?_
  refine z_iload_n C 1 dJ1_charAt_3b067_0 rfl ?_
  refine z_aload_n C 0 dJ1_charAt_3b067_1 rfl ?_
  refine z_salen C hq dJ1_charAt_3b067_2 ?_
  refine z_cS (As := [.int (zI (z)), .int (zI ((q.2.2.2.2.length : Int)))]) (rest := []) C (c_ckS l D A cs tt N ad _ (z) ((q.2.2.2.2.length : Int)) (by omega)) ms_yJ0_checkIndex_df160 q_778 hd_yJ0_checkIndex_df160 (by decide) (Nat.le_of_ble_eq_true rfl) (by decide) dJ1_charAt_3b067_3 rfl (kV0 fun gvy1 hvy1 => ?_)
  obtain rfl := hvy1
  refine z_aload_n C 0 dJ1_charAt_3b067_6 rfl ?_
  refine z_iload_n C 1 dJ1_charAt_3b067_7 rfl ?_
  obtain ⟨yy2, eyy2, hyy2⟩ := zI_of (q.2.2.2.2.getD ((z).toNat) 0)
  refine z_sbald (y := yy2) C hq ((z).toNat) (by omega) (by omega) eyy2 dJ1_charAt_3b067_8 ?_
  refine z_sipush (z := 255) C dJ1_charAt_3b067_9 (by decide) ?_
  obtain ⟨xy3, exy4, hxy5⟩ := zI_and (zI (yy2)) (m := zI 255) 8 (by decide)
  refine z_iand (z := xy3) C dJ1_charAt_3b067_12 exy4 ?_
  refine z_i2c (z := xy3) C dJ1_charAt_3b067_13 (m16 (by omega)) ?_
  exact z_zret C hr hlk dJ1_charAt_3b067_14 (nc16 (by omega)) (by decide) (by decide) ⟨xy3, rfl, rfl, rfl, by omega, rfl⟩

set_option maxRecDepth 100000 in
set_option maxHeartbeats 4000000 in
theorem c_scharAt (l : Launch) (D : va_G) (A : Nat → Prop) (cs : Nat → ClassId) (tt : Nat) (N : Nat) (ad : Nat → Nat) (g : Nat → va_E) (q : String × Nat × String × Nat × List Int32) (hq : q ∈ SKL) (z : Int) (hz : 0 ≤ z ∧ z < (q.2.2.2.2.length : Int)) : zM l yJ0_charAt_5068e cJ0_charAt_5068e 2 (some .char) ({ frames := 4, cells := 0, slots := 0, locals := 240 } : Room) D A cs tt N ad g [.ref (cs (100 + q.2.2.2.1)), .int (zI (z))] (rI0 N ad fun r g' => (0 ≤ r ∧ r ≤ 255) ∧ g = g') := by
  have hqL := SKL_len q hq
  refine z_of (by decide) (Nat.le_of_ble_eq_true rfl) ?_
  intro p e s m below meth c C hr hlk hnm
  refine z_lv (lv' := [(0, .ref (cs (100 + q.2.2.2.1))), (1, .int (zI (z)))]) [0, 1] rfl ?_
  refine z_aload_n C 0 dJ0_charAt_5068e_0 rfl ?_
  refine z_cVs (As := []) (rest := []) C hq (c_isLatin1 l D A cs tt N ad _ q hq) rfl mv_yJ0_isLatin1_aae02 q_771 hd_yJ0_isLatin1_aae02 (by decide) (Nat.le_of_ble_eq_true rfl) (by decide) dJ0_charAt_5068e_1 rfl (kI0 fun vy1 gvy1 hvy1 => ?_)
  obtain ⟨rfl, rfl⟩ := hvy1
  refine z_if_eq (tgt := 16) C dJ0_charAt_5068e_4 (by decide) (by omega) (fun h => absurd h (by omega)) (fun _ => ?_)
  refine z_aload_n C 0 dJ0_charAt_5068e_7 rfl ?_
  refine z_sval C hq q_1166 dJ0_charAt_5068e_8 ?_
  refine z_iload_n C 1 dJ0_charAt_5068e_11 rfl ?_
  refine z_cS (As := [.ref (cs (200 + q.2.2.2.1)), .int (zI (z))]) (rest := []) C (c_L1charAt l D A cs tt N ad _ q hq (z) (by omega)) ms_yJ1_charAt_3b067 q_775 hd_yJ1_charAt_3b067 (by decide) (Nat.le_of_ble_eq_true rfl) (by decide) dJ0_charAt_5068e_12 rfl (kI0 fun vy2 gvy2 hvy2 => ?_)
  obtain ⟨hvy2, rfl⟩ := hvy2
  exact z_zret C hr hlk dJ0_charAt_5068e_15 (nc16 (by omega)) (by decide) (by decide) ⟨vy2, rfl, rfl, rfl, by omega, rfl⟩
end
section
-- 56.words.lean.txt
-- words of read
theorem n_834 : (Jvm.Cond.methodLinkNest "SnowRecorder$TextReader" (158 : Nat) ({ cls := "SnowRecorder", name := "kindWord", desc := "(I)Ljava/lang/String;" } : Jvm.MethodName) "SnowRecorder") ∈ NW := NW_m4 114 (by decide +kernel) (by decide +kernel)
theorem q_742 : (Jvm.Cond.methodLink "SnowRecorder$TextReader" (54 : Nat) ({ cls := "SnowRecorder$TextReader", name := "peek", desc := "()V" } : Jvm.MethodName)) ∈ AW := AW_m4 22 (by decide +kernel) (by decide +kernel)
theorem q_744 : (Jvm.Cond.instanceMethod ({ cls := "SnowRecorder$TextReader", name := "peek", desc := "()V" } : Jvm.MethodName)) ∈ AW := AW_m4 24 (by decide +kernel) (by decide +kernel)
theorem q_745 : (Jvm.Cond.code ({ cls := "SnowRecorder$TextReader", name := "peek", desc := "()V" } : Jvm.MethodName) prog_9_method_15_code (1 : Nat) (Option.none : Option Jvm.ClassFile.FieldType)) ∈ AW := AW_m4 25 (by decide +kernel) (by decide +kernel)
theorem q_746 : (Jvm.Cond.methodLink "SnowRecorder$TextReader" (171 : Nat) ({ cls := "SnowRecorder$TextReader", name := "typeOf", desc := "(I)I" } : Jvm.MethodName)) ∈ AW := AW_m4 26 (by decide +kernel) (by decide +kernel)
theorem q_747 : (Jvm.Cond.static ({ cls := "SnowRecorder$TextReader", name := "typeOf", desc := "(I)I" } : Jvm.MethodName)) ∈ AW := AW_m4 27 (by decide +kernel) (by decide +kernel)
theorem q_748 : (Jvm.Cond.code ({ cls := "SnowRecorder$TextReader", name := "typeOf", desc := "(I)I" } : Jvm.MethodName) prog_9_method_16_code (1 : Nat) (Option.some Jvm.ClassFile.FieldType.int)) ∈ AW := AW_m4 28 (by decide +kernel) (by decide +kernel)
theorem q_754 : (Jvm.Cond.methodLink "SnowRecorder$TextReader" (63 : Nat) ({ cls := "SnowRecorder$TextReader", name := "is", desc := "(Ljava/lang/String;)Z" } : Jvm.MethodName)) ∈ AW := AW_m4 34 (by decide +kernel) (by decide +kernel)
theorem q_756 : (Jvm.Cond.instanceMethod ({ cls := "SnowRecorder$TextReader", name := "is", desc := "(Ljava/lang/String;)Z" } : Jvm.MethodName)) ∈ AW := AW_m4 36 (by decide +kernel) (by decide +kernel)
theorem q_757 : (Jvm.Cond.code ({ cls := "SnowRecorder$TextReader", name := "is", desc := "(Ljava/lang/String;)Z" } : Jvm.MethodName) prog_9_method_13_code (3 : Nat) (Option.some Jvm.ClassFile.FieldType.boolean)) ∈ AW := AW_m4 37 (by decide +kernel) (by decide +kernel)
theorem q_758 : (Jvm.Cond.methodLink "SnowRecorder$TextReader" (162 : Nat) ({ cls := "java/lang/String", name := "length", desc := "()I" } : Jvm.MethodName)) ∈ AW := AW_m4 38 (by decide +kernel) (by decide +kernel)
theorem q_759 : (Jvm.Cond.instanceMethod ({ cls := "java/lang/String", name := "length", desc := "()I" } : Jvm.MethodName)) ∈ AW := AW_m4 39 (by decide +kernel) (by decide +kernel)
theorem q_760 : (Jvm.Cond.selects "java/lang/String" ({ cls := "java/lang/String", name := "length", desc := "()I" } : Jvm.MethodName) ({ cls := "java/lang/String", name := "length", desc := "()I" } : Jvm.MethodName)) ∈ AW := AW_m4 40 (by decide +kernel) (by decide +kernel)
theorem q_761 : (Jvm.Cond.code ({ cls := "java/lang/String", name := "length", desc := "()I" } : Jvm.MethodName) prog_25_method_54_code (1 : Nat) (Option.some Jvm.ClassFile.FieldType.int)) ∈ AW := AW_m4 41 (by decide +kernel) (by decide +kernel)
theorem q_767 : (Jvm.Cond.methodLink "SnowRecorder$TextReader" (167 : Nat) ({ cls := "java/lang/String", name := "charAt", desc := "(I)C" } : Jvm.MethodName)) ∈ AW := AW_m4 47 (by decide +kernel) (by decide +kernel)
theorem q_768 : (Jvm.Cond.instanceMethod ({ cls := "java/lang/String", name := "charAt", desc := "(I)C" } : Jvm.MethodName)) ∈ AW := AW_m4 48 (by decide +kernel) (by decide +kernel)
theorem q_769 : (Jvm.Cond.selects "java/lang/String" ({ cls := "java/lang/String", name := "charAt", desc := "(I)C" } : Jvm.MethodName) ({ cls := "java/lang/String", name := "charAt", desc := "(I)C" } : Jvm.MethodName)) ∈ AW := AW_m4 49 (by decide +kernel) (by decide +kernel)
theorem q_770 : (Jvm.Cond.code ({ cls := "java/lang/String", name := "charAt", desc := "(I)C" } : Jvm.MethodName) prog_25_method_56_code (2 : Nat) (Option.some Jvm.ClassFile.FieldType.char)) ∈ AW := AW_m4 50 (by decide +kernel) (by decide +kernel)
theorem q_809 : (Jvm.Cond.methodLink "SnowRecorder$TextReader" (91 : Nat) ({ cls := "SnowRecorder$TextReader", name := "fail", desc := "(II)V" } : Jvm.MethodName)) ∈ AW := AW_m4 89 (by decide +kernel) (by decide +kernel)
theorem q_811 : (Jvm.Cond.instanceMethod ({ cls := "SnowRecorder$TextReader", name := "fail", desc := "(II)V" } : Jvm.MethodName)) ∈ AW := AW_m4 91 (by decide +kernel) (by decide +kernel)
theorem q_812 : (Jvm.Cond.code ({ cls := "SnowRecorder$TextReader", name := "fail", desc := "(II)V" } : Jvm.MethodName) prog_9_method_12_code (3 : Nat) (Option.none : Option Jvm.ClassFile.FieldType)) ∈ AW := AW_m4 92 (by decide +kernel) (by decide +kernel)
theorem q_813 : (Jvm.Cond.methodLink "SnowRecorder$TextReader" (98 : Nat) ({ cls := "SnowRecorder$TextReader", name := "take", desc := "()V" } : Jvm.MethodName)) ∈ AW := AW_m4 93 (by decide +kernel) (by decide +kernel)
theorem q_815 : (Jvm.Cond.instanceMethod ({ cls := "SnowRecorder$TextReader", name := "take", desc := "()V" } : Jvm.MethodName)) ∈ AW := AW_m4 95 (by decide +kernel) (by decide +kernel)
theorem q_816 : (Jvm.Cond.code ({ cls := "SnowRecorder$TextReader", name := "take", desc := "()V" } : Jvm.MethodName) prog_9_method_14_code (1 : Nat) (Option.none : Option Jvm.ClassFile.FieldType)) ∈ AW := AW_m4 96 (by decide +kernel) (by decide +kernel)
theorem q_835 : (Jvm.Cond.static ({ cls := "SnowRecorder", name := "kindWord", desc := "(I)Ljava/lang/String;" } : Jvm.MethodName)) ∈ AW := AW_m4 115 (by decide +kernel) (by decide +kernel)
theorem q_836 : (Jvm.Cond.code ({ cls := "SnowRecorder", name := "kindWord", desc := "(I)Ljava/lang/String;" } : Jvm.MethodName) prog_1_method_62_code (1 : Nat) (Option.some (Jvm.ClassFile.FieldType.object "java/lang/String"))) ∈ AW := AW_m4 116 (by decide +kernel) (by decide +kernel)
theorem s_11 : Cond.selects "SnowRecorder$TextReader" ({ cls := "SnowRecorder$TextReader", name := "is", desc := "(Ljava/lang/String;)Z" } : Jvm.MethodName) ({ cls := "SnowRecorder$TextReader", name := "is", desc := "(Ljava/lang/String;)Z" } : Jvm.MethodName) ∈ AW := AW_m 11 (by decide +kernel) (by decide +kernel)
theorem s_13 : Cond.selects "SnowRecorder$TextReader" ({ cls := "SnowRecorder$TextReader", name := "fail", desc := "(II)V" } : Jvm.MethodName) ({ cls := "SnowRecorder$TextReader", name := "fail", desc := "(II)V" } : Jvm.MethodName) ∈ AW := AW_m 13 (by decide +kernel) (by decide +kernel)
theorem s_14 : Cond.selects "SnowRecorder$TextReader" ({ cls := "SnowRecorder$TextReader", name := "take", desc := "()V" } : Jvm.MethodName) ({ cls := "SnowRecorder$TextReader", name := "take", desc := "()V" } : Jvm.MethodName) ∈ AW := AW_m 14 (by decide +kernel) (by decide +kernel)
theorem s_9 : Cond.selects "SnowRecorder$TextReader" ({ cls := "SnowRecorder$TextReader", name := "peek", desc := "()V" } : Jvm.MethodName) ({ cls := "SnowRecorder$TextReader", name := "peek", desc := "()V" } : Jvm.MethodName) ∈ AW := AW_m 9 (by decide +kernel) (by decide +kernel)
theorem hd_yX7_typeOf : yX7_typeOf.cls ≠ "java/lang/invoke/MethodHandle" ∧ yX7_typeOf.cls ≠ "java/lang/invoke/VarHandle" ∧ (parseMethodDescriptor yX7_typeOf.desc).map (fun d => d.parameters.length) = some 1 := by decide +kernel
theorem hd_yX7_peek : yX7_peek.cls ≠ "java/lang/invoke/MethodHandle" ∧ yX7_peek.cls ≠ "java/lang/invoke/VarHandle" ∧ (parseMethodDescriptor yX7_peek.desc).map (fun d => d.parameters.length) = some 0 := by decide +kernel
theorem hd_yX7_take : yX7_take.cls ≠ "java/lang/invoke/MethodHandle" ∧ yX7_take.cls ≠ "java/lang/invoke/VarHandle" ∧ (parseMethodDescriptor yX7_take.desc).map (fun d => d.parameters.length) = some 0 := by decide +kernel
theorem hd_yX7_fail : yX7_fail.cls ≠ "java/lang/invoke/MethodHandle" ∧ yX7_fail.cls ≠ "java/lang/invoke/VarHandle" ∧ (parseMethodDescriptor yX7_fail.desc).map (fun d => d.parameters.length) = some 2 := by decide +kernel
theorem hd_yJ0_length_8abf5 : yJ0_length_8abf5.cls ≠ "java/lang/invoke/MethodHandle" ∧ yJ0_length_8abf5.cls ≠ "java/lang/invoke/VarHandle" ∧ (parseMethodDescriptor yJ0_length_8abf5.desc).map (fun d => d.parameters.length) = some 0 := by decide +kernel
theorem hd_yJ0_charAt_5068e : yJ0_charAt_5068e.cls ≠ "java/lang/invoke/MethodHandle" ∧ yJ0_charAt_5068e.cls ≠ "java/lang/invoke/VarHandle" ∧ (parseMethodDescriptor yJ0_charAt_5068e.desc).map (fun d => d.parameters.length) = some 1 := by decide +kernel
theorem hd_yX9_kindWord : yX9_kindWord.cls ≠ "java/lang/invoke/MethodHandle" ∧ yX9_kindWord.cls ≠ "java/lang/invoke/VarHandle" ∧ (parseMethodDescriptor yX9_kindWord.desc).map (fun d => d.parameters.length) = some 1 := by decide +kernel
theorem hd_yX7_is : yX7_is.cls ≠ "java/lang/invoke/MethodHandle" ∧ yX7_is.cls ≠ "java/lang/invoke/VarHandle" ∧ (parseMethodDescriptor yX7_is.desc).map (fun d => d.parameters.length) = some 1 := by decide +kernel
theorem ms_yX7_typeOf : zWs yX7_typeOf cX7_typeOf 1 (some .int) := ⟨q_747, q_2, q_748⟩
theorem mv_yX7_peek : zWv yX7_peek cX7_peek 1 none := ⟨q_744, s_9, q_2, q_745⟩
theorem mv_yX7_take : zWv yX7_take cX7_take 1 none := ⟨q_815, s_14, q_2, q_816⟩
theorem mv_yX7_fail : zWv yX7_fail cX7_fail 3 none := ⟨q_811, s_13, q_2, q_812⟩
theorem mv_yJ0_length_8abf5 : zWv yJ0_length_8abf5 cJ0_length_8abf5 1 (some .int) := ⟨q_759, q_760, q_13, q_761⟩
theorem mv_yJ0_charAt_5068e : zWv yJ0_charAt_5068e cJ0_charAt_5068e 2 (some .char) := ⟨q_768, q_769, q_13, q_770⟩
theorem ms_yX9_kindWord : zWs yX9_kindWord cX9_kindWord 1 (some (.object "java/lang/String")) := ⟨q_835, q_1, q_836⟩
theorem mv_yX7_is : zWv yX7_is cX7_is 3 (some .boolean) := ⟨q_756, s_11, q_2, q_757⟩
end
section
-- 57.dec.lean.txt
-- decode rows of read
theorem dX7_typeOf_0 : decode cX7_typeOf 0 = .ok (.iload_n 0, 1) := by decide +kernel
theorem dX7_typeOf_1 : decode cX7_typeOf 1 = .ok (.bipush 97, 2) := by decide +kernel
theorem dX7_typeOf_3 : decode cX7_typeOf 3 = .ok (.if_icmp .lt 11, 3) := by decide +kernel
theorem dX7_typeOf_14 : decode cX7_typeOf 14 = .ok (.iload_n 0, 1) := by decide +kernel
theorem dX7_typeOf_15 : decode cX7_typeOf 15 = .ok (.bipush 48, 2) := by decide +kernel
theorem dX7_typeOf_17 : decode cX7_typeOf 17 = .ok (.if_icmp .lt 11, 3) := by decide +kernel
theorem dX7_typeOf_28 : decode cX7_typeOf 28 = .ok (.iload_n 0, 1) := by decide +kernel
theorem dX7_typeOf_29 : decode cX7_typeOf 29 = .ok (.bipush 59, 2) := by decide +kernel
theorem dX7_typeOf_31 : decode cX7_typeOf 31 = .ok (.if_icmp .ne 7, 3) := by decide +kernel
theorem dX7_typeOf_38 : decode cX7_typeOf 38 = .ok (.iload_n 0, 1) := by decide +kernel
theorem dX7_typeOf_39 : decode cX7_typeOf 39 = .ok (.bipush 45, 2) := by decide +kernel
theorem dX7_typeOf_41 : decode cX7_typeOf 41 = .ok (.if_icmp .ne 7, 3) := by decide +kernel
theorem dX7_typeOf_48 : decode cX7_typeOf 48 = .ok (.iconst 5, 1) := by decide +kernel
theorem dX7_typeOf_49 : decode cX7_typeOf 49 = .ok (.ireturn, 1) := by decide +kernel
theorem dX7_typeOf_44 : decode cX7_typeOf 44 = .ok (.iconst 4, 1) := by decide +kernel
theorem dX7_typeOf_45 : decode cX7_typeOf 45 = .ok (.goto 4, 3) := by decide +kernel
theorem dX7_typeOf_34 : decode cX7_typeOf 34 = .ok (.iconst 3, 1) := by decide +kernel
theorem dX7_typeOf_35 : decode cX7_typeOf 35 = .ok (.goto 14, 3) := by decide +kernel
theorem dX7_typeOf_20 : decode cX7_typeOf 20 = .ok (.iload_n 0, 1) := by decide +kernel
theorem dX7_typeOf_21 : decode cX7_typeOf 21 = .ok (.bipush 57, 2) := by decide +kernel
theorem dX7_typeOf_23 : decode cX7_typeOf 23 = .ok (.if_icmp .gt 5, 3) := by decide +kernel
theorem dX7_typeOf_26 : decode cX7_typeOf 26 = .ok (.iconst 2, 1) := by decide +kernel
theorem dX7_typeOf_27 : decode cX7_typeOf 27 = .ok (.ireturn, 1) := by decide +kernel
theorem dX7_typeOf_6 : decode cX7_typeOf 6 = .ok (.iload_n 0, 1) := by decide +kernel
theorem dX7_typeOf_7 : decode cX7_typeOf 7 = .ok (.bipush 122, 2) := by decide +kernel
theorem dX7_typeOf_9 : decode cX7_typeOf 9 = .ok (.if_icmp .gt 5, 3) := by decide +kernel
theorem dX7_typeOf_12 : decode cX7_typeOf 12 = .ok (.iconst 1, 1) := by decide +kernel
theorem dX7_typeOf_13 : decode cX7_typeOf 13 = .ok (.ireturn, 1) := by decide +kernel
theorem dX7_peek_0 : decode cX7_peek 0 = .ok (.aload_n 0, 1) := by decide +kernel
theorem dX7_peek_1 : decode cX7_peek 1 = .ok (.aload_n 0, 1) := by decide +kernel
theorem dX7_peek_2 : decode cX7_peek 2 = .ok (.getfield 31, 3) := by decide +kernel
theorem dX7_peek_5 : decode cX7_peek 5 = .ok (.putfield 28, 3) := by decide +kernel
theorem dX7_peek_8 : decode cX7_peek 8 = .ok (.aload_n 0, 1) := by decide +kernel
theorem dX7_peek_9 : decode cX7_peek 9 = .ok (.getfield 28, 3) := by decide +kernel
theorem dX7_peek_12 : decode cX7_peek 12 = .ok (.aload_n 0, 1) := by decide +kernel
theorem dX7_peek_13 : decode cX7_peek 13 = .ok (.getfield 22, 3) := by decide +kernel
theorem dX7_peek_16 : decode cX7_peek 16 = .ok (.if_icmp .ge 44, 3) := by decide +kernel
theorem dX7_peek_60 : decode cX7_peek 60 = .ok (.aload_n 0, 1) := by decide +kernel
theorem dX7_peek_61 : decode cX7_peek 61 = .ok (.aload_n 0, 1) := by decide +kernel
theorem dX7_peek_62 : decode cX7_peek 62 = .ok (.getfield 28, 3) := by decide +kernel
theorem dX7_peek_65 : decode cX7_peek 65 = .ok (.aload_n 0, 1) := by decide +kernel
theorem dX7_peek_66 : decode cX7_peek 66 = .ok (.getfield 22, 3) := by decide +kernel
theorem dX7_peek_69 : decode cX7_peek 69 = .ok (.if_icmp .ge 18, 3) := by decide +kernel
theorem dX7_peek_87 : decode cX7_peek 87 = .ok (.iconst 0, 1) := by decide +kernel
theorem dX7_peek_88 : decode cX7_peek 88 = .ok (.putfield 25, 3) := by decide +kernel
theorem dX7_peek_91 : decode cX7_peek 91 = .ok (.aload_n 0, 1) := by decide +kernel
theorem dX7_peek_92 : decode cX7_peek 92 = .ok (.aload_n 0, 1) := by decide +kernel
theorem dX7_peek_93 : decode cX7_peek 93 = .ok (.getfield 28, 3) := by decide +kernel
theorem dX7_peek_96 : decode cX7_peek 96 = .ok (.aload_n 0, 1) := by decide +kernel
theorem dX7_peek_97 : decode cX7_peek 97 = .ok (.getfield 22, 3) := by decide +kernel
theorem dX7_peek_100 : decode cX7_peek 100 = .ok (.if_icmp .ge 12, 3) := by decide +kernel
theorem dX7_peek_112 : decode cX7_peek 112 = .ok (.aload_n 0, 1) := by decide +kernel
theorem dX7_peek_113 : decode cX7_peek 113 = .ok (.getfield 22, 3) := by decide +kernel
theorem dX7_peek_116 : decode cX7_peek 116 = .ok (.putfield 31, 3) := by decide +kernel
theorem dX7_peek_119 : decode cX7_peek 119 = .ok (.aload_n 0, 1) := by decide +kernel
theorem dX7_peek_120 : decode cX7_peek 120 = .ok (.getfield 25, 3) := by decide +kernel
theorem dX7_peek_123 : decode cX7_peek 123 = .ok (.iconst 1, 1) := by decide +kernel
theorem dX7_peek_124 : decode cX7_peek 124 = .ok (.if_icmp .eq 11, 3) := by decide +kernel
theorem dX7_peek_127 : decode cX7_peek 127 = .ok (.aload_n 0, 1) := by decide +kernel
theorem dX7_peek_128 : decode cX7_peek 128 = .ok (.getfield 25, 3) := by decide +kernel
theorem dX7_peek_131 : decode cX7_peek 131 = .ok (.iconst 2, 1) := by decide +kernel
theorem dX7_peek_132 : decode cX7_peek 132 = .ok (.if_icmp .ne 46, 3) := by decide +kernel
theorem dX7_peek_178 : decode cX7_peek 178 = .ok (.return_, 1) := by decide +kernel
theorem dX7_peek_103 : decode cX7_peek 103 = .ok (.aload_n 0, 1) := by decide +kernel
theorem dX7_peek_104 : decode cX7_peek 104 = .ok (.getfield 28, 3) := by decide +kernel
theorem dX7_peek_107 : decode cX7_peek 107 = .ok (.iconst 1, 1) := by decide +kernel
theorem dX7_peek_108 : decode cX7_peek 108 = .ok (.iadd, 1) := by decide +kernel
theorem dX7_peek_109 : decode cX7_peek 109 = .ok (.goto 7, 3) := by decide +kernel
theorem dX7_peek_72 : decode cX7_peek 72 = .ok (.aload_n 0, 1) := by decide +kernel
theorem dX7_peek_73 : decode cX7_peek 73 = .ok (.getfield 18, 3) := by decide +kernel
theorem dX7_peek_76 : decode cX7_peek 76 = .ok (.aload_n 0, 1) := by decide +kernel
theorem dX7_peek_77 : decode cX7_peek 77 = .ok (.getfield 28, 3) := by decide +kernel
theorem dX7_peek_80 : decode cX7_peek 80 = .ok (.baload, 1) := by decide +kernel
theorem dX7_peek_81 : decode cX7_peek 81 = .ok (.invokestatic 171, 3) := by decide +kernel
theorem dX7_peek_84 : decode cX7_peek 84 = .ok (.goto 4, 3) := by decide +kernel
theorem dX7_peek_135 : decode cX7_peek 135 = .ok (.aload_n 0, 1) := by decide +kernel
theorem dX7_peek_136 : decode cX7_peek 136 = .ok (.getfield 31, 3) := by decide +kernel
theorem dX7_peek_139 : decode cX7_peek 139 = .ok (.aload_n 0, 1) := by decide +kernel
theorem dX7_peek_140 : decode cX7_peek 140 = .ok (.getfield 22, 3) := by decide +kernel
theorem dX7_peek_143 : decode cX7_peek 143 = .ok (.if_icmp .ge 35, 3) := by decide +kernel
theorem dX7_peek_146 : decode cX7_peek 146 = .ok (.aload_n 0, 1) := by decide +kernel
theorem dX7_peek_147 : decode cX7_peek 147 = .ok (.getfield 18, 3) := by decide +kernel
theorem dX7_peek_150 : decode cX7_peek 150 = .ok (.aload_n 0, 1) := by decide +kernel
theorem dX7_peek_151 : decode cX7_peek 151 = .ok (.getfield 31, 3) := by decide +kernel
theorem dX7_peek_154 : decode cX7_peek 154 = .ok (.baload, 1) := by decide +kernel
theorem dX7_peek_155 : decode cX7_peek 155 = .ok (.invokestatic 171, 3) := by decide +kernel
theorem dX7_peek_158 : decode cX7_peek 158 = .ok (.aload_n 0, 1) := by decide +kernel
theorem dX7_peek_159 : decode cX7_peek 159 = .ok (.getfield 25, 3) := by decide +kernel
theorem dX7_peek_162 : decode cX7_peek 162 = .ok (.if_icmp .ne 16, 3) := by decide +kernel
theorem dX7_peek_165 : decode cX7_peek 165 = .ok (.aload_n 0, 1) := by decide +kernel
theorem dX7_peek_166 : decode cX7_peek 166 = .ok (.dup, 1) := by decide +kernel
theorem dX7_peek_167 : decode cX7_peek 167 = .ok (.getfield 31, 3) := by decide +kernel
theorem dX7_peek_170 : decode cX7_peek 170 = .ok (.iconst 1, 1) := by decide +kernel
theorem dX7_peek_171 : decode cX7_peek 171 = .ok (.iadd, 1) := by decide +kernel
theorem dX7_peek_172 : decode cX7_peek 172 = .ok (.putfield 31, 3) := by decide +kernel
theorem dX7_peek_175 : decode cX7_peek 175 = .ok (.goto (-40), 3) := by decide +kernel
theorem dX7_peek_19 : decode cX7_peek 19 = .ok (.aload_n 0, 1) := by decide +kernel
theorem dX7_peek_20 : decode cX7_peek 20 = .ok (.getfield 18, 3) := by decide +kernel
theorem dX7_peek_23 : decode cX7_peek 23 = .ok (.aload_n 0, 1) := by decide +kernel
theorem dX7_peek_24 : decode cX7_peek 24 = .ok (.getfield 28, 3) := by decide +kernel
theorem dX7_peek_27 : decode cX7_peek 27 = .ok (.baload, 1) := by decide +kernel
theorem dX7_peek_28 : decode cX7_peek 28 = .ok (.bipush 32, 2) := by decide +kernel
theorem dX7_peek_30 : decode cX7_peek 30 = .ok (.if_icmp .eq 17, 3) := by decide +kernel
theorem dX7_peek_47 : decode cX7_peek 47 = .ok (.aload_n 0, 1) := by decide +kernel
theorem dX7_peek_48 : decode cX7_peek 48 = .ok (.dup, 1) := by decide +kernel
theorem dX7_peek_49 : decode cX7_peek 49 = .ok (.getfield 28, 3) := by decide +kernel
theorem dX7_peek_52 : decode cX7_peek 52 = .ok (.iconst 1, 1) := by decide +kernel
theorem dX7_peek_53 : decode cX7_peek 53 = .ok (.iadd, 1) := by decide +kernel
theorem dX7_peek_54 : decode cX7_peek 54 = .ok (.putfield 28, 3) := by decide +kernel
theorem dX7_peek_57 : decode cX7_peek 57 = .ok (.goto (-49), 3) := by decide +kernel
theorem dX7_peek_33 : decode cX7_peek 33 = .ok (.aload_n 0, 1) := by decide +kernel
theorem dX7_peek_34 : decode cX7_peek 34 = .ok (.getfield 18, 3) := by decide +kernel
theorem dX7_peek_37 : decode cX7_peek 37 = .ok (.aload_n 0, 1) := by decide +kernel
theorem dX7_peek_38 : decode cX7_peek 38 = .ok (.getfield 28, 3) := by decide +kernel
theorem dX7_peek_41 : decode cX7_peek 41 = .ok (.baload, 1) := by decide +kernel
theorem dX7_peek_42 : decode cX7_peek 42 = .ok (.bipush 10, 2) := by decide +kernel
theorem dX7_peek_44 : decode cX7_peek 44 = .ok (.if_icmp .ne 16, 3) := by decide +kernel
theorem dX7_take_0 : decode cX7_take 0 = .ok (.aload_n 0, 1) := by decide +kernel
theorem dX7_take_1 : decode cX7_take 1 = .ok (.getfield 15, 3) := by decide +kernel
theorem dX7_take_4 : decode cX7_take 4 = .ok (.ifCond .ne 15, 3) := by decide +kernel
theorem dX7_take_19 : decode cX7_take 19 = .ok (.return_, 1) := by decide +kernel
theorem dX7_take_7 : decode cX7_take 7 = .ok (.aload_n 0, 1) := by decide +kernel
theorem dX7_take_8 : decode cX7_take 8 = .ok (.aload_n 0, 1) := by decide +kernel
theorem dX7_take_9 : decode cX7_take 9 = .ok (.getfield 28, 3) := by decide +kernel
theorem dX7_take_12 : decode cX7_take 12 = .ok (.putfield 34, 3) := by decide +kernel
theorem dX7_take_15 : decode cX7_take 15 = .ok (.aload_n 0, 1) := by decide +kernel
theorem dX7_take_16 : decode cX7_take 16 = .ok (.invokevirtual 54, 3) := by decide +kernel
theorem dX7_fail_0 : decode cX7_fail 0 = .ok (.aload_n 0, 1) := by decide +kernel
theorem dX7_fail_1 : decode cX7_fail 1 = .ok (.getfield 15, 3) := by decide +kernel
theorem dX7_fail_4 : decode cX7_fail 4 = .ok (.ifCond .ne 13, 3) := by decide +kernel
theorem dX7_fail_17 : decode cX7_fail 17 = .ok (.return_, 1) := by decide +kernel
theorem dX7_fail_7 : decode cX7_fail 7 = .ok (.aload_n 0, 1) := by decide +kernel
theorem dX7_fail_8 : decode cX7_fail 8 = .ok (.iload_n 1, 1) := by decide +kernel
theorem dX7_fail_9 : decode cX7_fail 9 = .ok (.putfield 15, 3) := by decide +kernel
theorem dX7_fail_12 : decode cX7_fail 12 = .ok (.aload_n 0, 1) := by decide +kernel
theorem dX7_fail_13 : decode cX7_fail 13 = .ok (.iload_n 2, 1) := by decide +kernel
theorem dX7_fail_14 : decode cX7_fail 14 = .ok (.putfield 9, 3) := by decide +kernel
theorem dX7_close_0 : decode cX7_close 0 = .ok (.aload_n 0, 1) := by decide +kernel
theorem dX7_close_1 : decode cX7_close 1 = .ok (.getfield 25, 3) := by decide +kernel
theorem dX7_close_4 : decode cX7_close 4 = .ok (.iconst 3, 1) := by decide +kernel
theorem dX7_close_5 : decode cX7_close 5 = .ok (.if_icmp .eq 12, 3) := by decide +kernel
theorem dX7_close_17 : decode cX7_close 17 = .ok (.aload_n 0, 1) := by decide +kernel
theorem dX7_close_18 : decode cX7_close 18 = .ok (.invokevirtual 98, 3) := by decide +kernel
theorem dX7_close_21 : decode cX7_close 21 = .ok (.return_, 1) := by decide +kernel
theorem dX7_close_8 : decode cX7_close 8 = .ok (.aload_n 0, 1) := by decide +kernel
theorem dX7_close_9 : decode cX7_close 9 = .ok (.iconst 1, 1) := by decide +kernel
theorem dX7_close_10 : decode cX7_close 10 = .ok (.aload_n 0, 1) := by decide +kernel
theorem dX7_close_11 : decode cX7_close 11 = .ok (.getfield 28, 3) := by decide +kernel
theorem dX7_close_14 : decode cX7_close 14 = .ok (.invokevirtual 91, 3) := by decide +kernel
theorem dX7_is_0 : decode cX7_is 0 = .ok (.aload_n 0, 1) := by decide +kernel
theorem dX7_is_1 : decode cX7_is 1 = .ok (.getfield 25, 3) := by decide +kernel
theorem dX7_is_4 : decode cX7_is 4 = .ok (.iconst 1, 1) := by decide +kernel
theorem dX7_is_5 : decode cX7_is 5 = .ok (.if_icmp .ne 19, 3) := by decide +kernel
theorem dX7_is_24 : decode cX7_is 24 = .ok (.iconst 0, 1) := by decide +kernel
theorem dX7_is_25 : decode cX7_is 25 = .ok (.ireturn, 1) := by decide +kernel
theorem dX7_is_8 : decode cX7_is 8 = .ok (.aload_n 0, 1) := by decide +kernel
theorem dX7_is_9 : decode cX7_is 9 = .ok (.getfield 31, 3) := by decide +kernel
theorem dX7_is_12 : decode cX7_is 12 = .ok (.aload_n 0, 1) := by decide +kernel
theorem dX7_is_13 : decode cX7_is 13 = .ok (.getfield 28, 3) := by decide +kernel
theorem dX7_is_16 : decode cX7_is 16 = .ok (.isub, 1) := by decide +kernel
theorem dX7_is_17 : decode cX7_is 17 = .ok (.aload_n 1, 1) := by decide +kernel
theorem dX7_is_18 : decode cX7_is 18 = .ok (.invokevirtual 162, 3) := by decide +kernel
theorem dX7_is_21 : decode cX7_is 21 = .ok (.if_icmp .eq 5, 3) := by decide +kernel
theorem dX7_is_26 : decode cX7_is 26 = .ok (.iconst 0, 1) := by decide +kernel
theorem dX7_is_27 : decode cX7_is 27 = .ok (.istore_n 2, 1) := by decide +kernel
theorem dX7_is_28 : decode cX7_is 28 = .ok (.iload_n 2, 1) := by decide +kernel
theorem dX7_is_29 : decode cX7_is 29 = .ok (.aload_n 1, 1) := by decide +kernel
theorem dX7_is_30 : decode cX7_is 30 = .ok (.invokevirtual 162, 3) := by decide +kernel
theorem dX7_is_33 : decode cX7_is 33 = .ok (.if_icmp .ge 30, 3) := by decide +kernel
theorem dX7_is_63 : decode cX7_is 63 = .ok (.iconst 1, 1) := by decide +kernel
theorem dX7_is_64 : decode cX7_is 64 = .ok (.ireturn, 1) := by decide +kernel
theorem dX7_is_36 : decode cX7_is 36 = .ok (.aload_n 0, 1) := by decide +kernel
theorem dX7_is_37 : decode cX7_is 37 = .ok (.getfield 18, 3) := by decide +kernel
theorem dX7_is_40 : decode cX7_is 40 = .ok (.aload_n 0, 1) := by decide +kernel
theorem dX7_is_41 : decode cX7_is 41 = .ok (.getfield 28, 3) := by decide +kernel
theorem dX7_is_44 : decode cX7_is 44 = .ok (.iload_n 2, 1) := by decide +kernel
theorem dX7_is_45 : decode cX7_is 45 = .ok (.iadd, 1) := by decide +kernel
theorem dX7_is_46 : decode cX7_is 46 = .ok (.baload, 1) := by decide +kernel
theorem dX7_is_47 : decode cX7_is 47 = .ok (.aload_n 1, 1) := by decide +kernel
theorem dX7_is_48 : decode cX7_is 48 = .ok (.iload_n 2, 1) := by decide +kernel
theorem dX7_is_49 : decode cX7_is 49 = .ok (.invokevirtual 167, 3) := by decide +kernel
theorem dX7_is_52 : decode cX7_is 52 = .ok (.if_icmp .eq 5, 3) := by decide +kernel
theorem dX7_is_57 : decode cX7_is 57 = .ok (.iinc 2 1, 3) := by decide +kernel
theorem dX7_is_60 : decode cX7_is 60 = .ok (.goto (-32), 3) := by decide +kernel
theorem dX7_is_55 : decode cX7_is 55 = .ok (.iconst 0, 1) := by decide +kernel
theorem dX7_is_56 : decode cX7_is 56 = .ok (.ireturn, 1) := by decide +kernel
theorem dX9_kindWord_0 : decode cX9_kindWord 0 = .ok (.iload_n 0, 1) := by decide +kernel
theorem dX9_kindWord_1 : decode cX9_kindWord 1 = .ok (.tableswitch 47 0 3 #[31, 35, 39, 43], 31) := by decide +kernel
theorem dX9_kindWord_48 : decode cX9_kindWord 48 = .ok (.ldc_w 503, 3) := by decide +kernel
theorem dX9_kindWord_51 : decode cX9_kindWord 51 = .ok (.areturn, 1) := by decide +kernel
theorem dX9_kindWord_32 : decode cX9_kindWord 32 = .ok (.ldc_w 495, 3) := by decide +kernel
theorem dX9_kindWord_35 : decode cX9_kindWord 35 = .ok (.areturn, 1) := by decide +kernel
theorem dX9_kindWord_36 : decode cX9_kindWord 36 = .ok (.ldc_w 497, 3) := by decide +kernel
theorem dX9_kindWord_39 : decode cX9_kindWord 39 = .ok (.areturn, 1) := by decide +kernel
theorem dX9_kindWord_40 : decode cX9_kindWord 40 = .ok (.ldc_w 499, 3) := by decide +kernel
theorem dX9_kindWord_43 : decode cX9_kindWord 43 = .ok (.areturn, 1) := by decide +kernel
theorem dX9_kindWord_44 : decode cX9_kindWord 44 = .ok (.ldc_w 501, 3) := by decide +kernel
theorem dX9_kindWord_47 : decode cX9_kindWord 47 = .ok (.areturn, 1) := by decide +kernel
theorem dX7_kind_0 : decode cX7_kind 0 = .ok (.iconst 0, 1) := by decide +kernel
theorem dX7_kind_1 : decode cX7_kind 1 = .ok (.istore_n 1, 1) := by decide +kernel
theorem dX7_kind_2 : decode cX7_kind 2 = .ok (.iload_n 1, 1) := by decide +kernel
theorem dX7_kind_3 : decode cX7_kind 3 = .ok (.iconst 5, 1) := by decide +kernel
theorem dX7_kind_4 : decode cX7_kind 4 = .ok (.if_icmp .ge 26, 3) := by decide +kernel
theorem dX7_kind_30 : decode cX7_kind 30 = .ok (.aload_n 0, 1) := by decide +kernel
theorem dX7_kind_31 : decode cX7_kind 31 = .ok (.iconst 1, 1) := by decide +kernel
theorem dX7_kind_32 : decode cX7_kind 32 = .ok (.aload_n 0, 1) := by decide +kernel
theorem dX7_kind_33 : decode cX7_kind 33 = .ok (.getfield 28, 3) := by decide +kernel
theorem dX7_kind_36 : decode cX7_kind 36 = .ok (.invokevirtual 91, 3) := by decide +kernel
theorem dX7_kind_39 : decode cX7_kind 39 = .ok (.iconst 0, 1) := by decide +kernel
theorem dX7_kind_40 : decode cX7_kind 40 = .ok (.ireturn, 1) := by decide +kernel
theorem dX7_kind_7 : decode cX7_kind 7 = .ok (.aload_n 0, 1) := by decide +kernel
theorem dX7_kind_8 : decode cX7_kind 8 = .ok (.iload_n 1, 1) := by decide +kernel
theorem dX7_kind_9 : decode cX7_kind 9 = .ok (.invokestatic 158, 3) := by decide +kernel
theorem dX7_kind_12 : decode cX7_kind 12 = .ok (.invokevirtual 63, 3) := by decide +kernel
theorem dX7_kind_15 : decode cX7_kind 15 = .ok (.ifCond .eq 9, 3) := by decide +kernel
theorem dX7_kind_24 : decode cX7_kind 24 = .ok (.iinc 1 1, 3) := by decide +kernel
theorem dX7_kind_27 : decode cX7_kind 27 = .ok (.goto (-25), 3) := by decide +kernel
theorem dX7_kind_18 : decode cX7_kind 18 = .ok (.aload_n 0, 1) := by decide +kernel
theorem dX7_kind_19 : decode cX7_kind 19 = .ok (.invokevirtual 98, 3) := by decide +kernel
theorem dX7_kind_22 : decode cX7_kind 22 = .ok (.iload_n 1, 1) := by decide +kernel
theorem dX7_kind_23 : decode cX7_kind 23 = .ok (.ireturn, 1) := by decide +kernel
theorem dX7_number_0 : decode cX7_number 0 = .ok (.aload_n 0, 1) := by decide +kernel
theorem dX7_number_1 : decode cX7_number 1 = .ok (.getfield 25, 3) := by decide +kernel
theorem dX7_number_4 : decode cX7_number 4 = .ok (.iconst 2, 1) := by decide +kernel
theorem dX7_number_5 : decode cX7_number 5 = .ok (.if_icmp .eq 14, 3) := by decide +kernel
theorem dX7_number_19 : decode cX7_number 19 = .ok (.iconst 0, 1) := by decide +kernel
theorem dX7_number_20 : decode cX7_number 20 = .ok (.istore_n 3, 1) := by decide +kernel
theorem dX7_number_21 : decode cX7_number 21 = .ok (.aload_n 0, 1) := by decide +kernel
theorem dX7_number_22 : decode cX7_number 22 = .ok (.getfield 28, 3) := by decide +kernel
theorem dX7_number_25 : decode cX7_number 25 = .ok (.istore 4, 2) := by decide +kernel
theorem dX7_number_27 : decode cX7_number 27 = .ok (.iload 4, 2) := by decide +kernel
theorem dX7_number_29 : decode cX7_number 29 = .ok (.aload_n 0, 1) := by decide +kernel
theorem dX7_number_30 : decode cX7_number 30 = .ok (.getfield 31, 3) := by decide +kernel
theorem dX7_number_33 : decode cX7_number 33 = .ok (.if_icmp .ge 30, 3) := by decide +kernel
theorem dX7_number_63 : decode cX7_number 63 = .ok (.aload_n 0, 1) := by decide +kernel
theorem dX7_number_64 : decode cX7_number 64 = .ok (.getfield 31, 3) := by decide +kernel
theorem dX7_number_67 : decode cX7_number 67 = .ok (.aload_n 0, 1) := by decide +kernel
theorem dX7_number_68 : decode cX7_number 68 = .ok (.getfield 28, 3) := by decide +kernel
theorem dX7_number_71 : decode cX7_number 71 = .ok (.isub, 1) := by decide +kernel
theorem dX7_number_72 : decode cX7_number 72 = .ok (.iconst 4, 1) := by decide +kernel
theorem dX7_number_73 : decode cX7_number 73 = .ok (.if_icmp .gt 13, 3) := by decide +kernel
theorem dX7_number_86 : decode cX7_number 86 = .ok (.aload_n 0, 1) := by decide +kernel
theorem dX7_number_87 : decode cX7_number 87 = .ok (.iconst 2, 1) := by decide +kernel
theorem dX7_number_88 : decode cX7_number 88 = .ok (.aload_n 0, 1) := by decide +kernel
theorem dX7_number_89 : decode cX7_number 89 = .ok (.getfield 28, 3) := by decide +kernel
theorem dX7_number_92 : decode cX7_number 92 = .ok (.invokevirtual 91, 3) := by decide +kernel
theorem dX7_number_95 : decode cX7_number 95 = .ok (.iconst 0, 1) := by decide +kernel
theorem dX7_number_96 : decode cX7_number 96 = .ok (.ireturn, 1) := by decide +kernel
theorem dX7_number_76 : decode cX7_number 76 = .ok (.iload_n 3, 1) := by decide +kernel
theorem dX7_number_77 : decode cX7_number 77 = .ok (.iload_n 1, 1) := by decide +kernel
theorem dX7_number_78 : decode cX7_number 78 = .ok (.if_icmp .lt 8, 3) := by decide +kernel
theorem dX7_number_81 : decode cX7_number 81 = .ok (.iload_n 3, 1) := by decide +kernel
theorem dX7_number_82 : decode cX7_number 82 = .ok (.iload_n 2, 1) := by decide +kernel
theorem dX7_number_83 : decode cX7_number 83 = .ok (.if_icmp .le 14, 3) := by decide +kernel
theorem dX7_number_97 : decode cX7_number 97 = .ok (.aload_n 0, 1) := by decide +kernel
theorem dX7_number_98 : decode cX7_number 98 = .ok (.invokevirtual 98, 3) := by decide +kernel
theorem dX7_number_101 : decode cX7_number 101 = .ok (.iload_n 3, 1) := by decide +kernel
theorem dX7_number_102 : decode cX7_number 102 = .ok (.ireturn, 1) := by decide +kernel
theorem dX7_number_36 : decode cX7_number 36 = .ok (.iload_n 3, 1) := by decide +kernel
theorem dX7_number_37 : decode cX7_number 37 = .ok (.iload_n 2, 1) := by decide +kernel
theorem dX7_number_38 : decode cX7_number 38 = .ok (.if_icmp .gt 25, 3) := by decide +kernel
theorem dX7_number_41 : decode cX7_number 41 = .ok (.bipush 10, 2) := by decide +kernel
theorem dX7_number_43 : decode cX7_number 43 = .ok (.iload_n 3, 1) := by decide +kernel
theorem dX7_number_44 : decode cX7_number 44 = .ok (.imul, 1) := by decide +kernel
theorem dX7_number_45 : decode cX7_number 45 = .ok (.aload_n 0, 1) := by decide +kernel
theorem dX7_number_46 : decode cX7_number 46 = .ok (.getfield 18, 3) := by decide +kernel
theorem dX7_number_49 : decode cX7_number 49 = .ok (.iload 4, 2) := by decide +kernel
theorem dX7_number_51 : decode cX7_number 51 = .ok (.baload, 1) := by decide +kernel
theorem dX7_number_52 : decode cX7_number 52 = .ok (.iadd, 1) := by decide +kernel
theorem dX7_number_53 : decode cX7_number 53 = .ok (.bipush 48, 2) := by decide +kernel
theorem dX7_number_55 : decode cX7_number 55 = .ok (.isub, 1) := by decide +kernel
theorem dX7_number_56 : decode cX7_number 56 = .ok (.istore_n 3, 1) := by decide +kernel
theorem dX7_number_57 : decode cX7_number 57 = .ok (.iinc 4 1, 3) := by decide +kernel
theorem dX7_number_60 : decode cX7_number 60 = .ok (.goto (-33), 3) := by decide +kernel
theorem dX7_number_8 : decode cX7_number 8 = .ok (.aload_n 0, 1) := by decide +kernel
theorem dX7_number_9 : decode cX7_number 9 = .ok (.iconst 1, 1) := by decide +kernel
theorem dX7_number_10 : decode cX7_number 10 = .ok (.aload_n 0, 1) := by decide +kernel
theorem dX7_number_11 : decode cX7_number 11 = .ok (.getfield 28, 3) := by decide +kernel
theorem dX7_number_14 : decode cX7_number 14 = .ok (.invokevirtual 91, 3) := by decide +kernel
theorem dX7_number_17 : decode cX7_number 17 = .ok (.iconst 0, 1) := by decide +kernel
theorem dX7_number_18 : decode cX7_number 18 = .ok (.ireturn, 1) := by decide +kernel
theorem dX7_readFall_0 : decode cX7_readFall 0 = .ok (.aload_n 0, 1) := by decide +kernel
theorem dX7_readFall_1 : decode cX7_readFall 1 = .ok (.ldc 149, 2) := by decide +kernel
theorem dX7_readFall_3 : decode cX7_readFall 3 = .ok (.invokevirtual 63, 3) := by decide +kernel
theorem dX7_readFall_6 : decode cX7_readFall 6 = .ok (.ifCond .eq 7, 3) := by decide +kernel
theorem dX7_readFall_13 : decode cX7_readFall 13 = .ok (.aload_n 0, 1) := by decide +kernel
theorem dX7_readFall_14 : decode cX7_readFall 14 = .ok (.ldc 151, 2) := by decide +kernel
theorem dX7_readFall_16 : decode cX7_readFall 16 = .ok (.invokevirtual 63, 3) := by decide +kernel
theorem dX7_readFall_19 : decode cX7_readFall 19 = .ok (.ifCond .eq 7, 3) := by decide +kernel
theorem dX7_readFall_26 : decode cX7_readFall 26 = .ok (.aload_n 0, 1) := by decide +kernel
theorem dX7_readFall_27 : decode cX7_readFall 27 = .ok (.ldc 153, 2) := by decide +kernel
theorem dX7_readFall_29 : decode cX7_readFall 29 = .ok (.invokevirtual 63, 3) := by decide +kernel
theorem dX7_readFall_32 : decode cX7_readFall 32 = .ok (.ifCond .eq 7, 3) := by decide +kernel
theorem dX7_readFall_39 : decode cX7_readFall 39 = .ok (.iconst 0, 1) := by decide +kernel
theorem dX7_readFall_40 : decode cX7_readFall 40 = .ok (.istore_n 1, 1) := by decide +kernel
theorem dX7_readFall_41 : decode cX7_readFall 41 = .ok (.iload_n 1, 1) := by decide +kernel
theorem dX7_readFall_42 : decode cX7_readFall 42 = .ok (.ifCond .eq 7, 3) := by decide +kernel
theorem dX7_readFall_49 : decode cX7_readFall 49 = .ok (.iload_n 1, 1) := by decide +kernel
theorem dX7_readFall_50 : decode cX7_readFall 50 = .ok (.ireturn, 1) := by decide +kernel
theorem dX7_readFall_35 : decode cX7_readFall 35 = .ok (.iconst 3, 1) := by decide +kernel
theorem dX7_readFall_36 : decode cX7_readFall 36 = .ok (.goto 4, 3) := by decide +kernel
theorem dX7_readFall_45 : decode cX7_readFall 45 = .ok (.aload_n 0, 1) := by decide +kernel
theorem dX7_readFall_46 : decode cX7_readFall 46 = .ok (.invokevirtual 98, 3) := by decide +kernel
theorem dX7_readFall_22 : decode cX7_readFall 22 = .ok (.iconst 2, 1) := by decide +kernel
theorem dX7_readFall_23 : decode cX7_readFall 23 = .ok (.goto 17, 3) := by decide +kernel
theorem dX7_readFall_9 : decode cX7_readFall 9 = .ok (.iconst 1, 1) := by decide +kernel
theorem dX7_readFall_10 : decode cX7_readFall 10 = .ok (.goto 30, 3) := by decide +kernel
end
section
-- 58.read.lean.txt
abbrev rdC (ad : Nat → Nat) (pl co en ty a9 be tk td : Int) : va_E := oC 9 [.int (zI pl), .int (zI co), .ref (ad 1), .int (zI en), .int (zI ty), .int (zI a9), .int (zI be), .int (zI tk), .int (zI td)]
/-- the reader at work: its code co, the tape tp -/
abbrev okRun (cs : Nat → ClassId) (ad : Nat → Nat) (g : Nat → va_E) (co : Int) (tp : Nat → Int) : Prop := ∃ (pl en ty a9 be tk td : Int), (0 ≤ a9 ∧ a9 ≤ be ∧ be ≤ en ∧ en ≤ 900 ∧ 0 ≤ co ∧ co ≤ 5) ∧ (0 ≤ ty ∧ ty ≤ 5) ∧ g 2 = rdC ad pl co en ty a9 be tk td ∧ g 1 = bA cs 900 tp

set_option maxRecDepth 100000 in
set_option maxHeartbeats 4000000 in
theorem c_X7_is (l : Launch) (D : va_G) (A : Nat → Prop) (cs : Nat → ClassId) (tt : Nat) (N : Nat) (ad : Nat → Nat) (g : Nat → va_E) (hN : 952 ≤ N) (co : Int) (tp : Nat → Int) (hR : okRun cs ad g co tp) (q : String × Nat × String × Nat × List Int32) (hq : q ∈ SKL) : zM l yX7_is cX7_is 3 (some .boolean) ({ frames := 5, cells := 0, slots := 0, locals := 300 } : Room) D A cs tt N ad g [.ref (ad 2), .ref (cs (100 + q.2.2.2.1))] (rI0 N ad fun r g' => (0 ≤ r ∧ r ≤ 1) ∧ g = g') := by
  obtain ⟨pldy1, endy1, tydy1, a9dy1, bedy1, tkdy1, tddy1, hAdy1, hTdy1, hcdy1, hddy1⟩ := id hR
  have hay2 : zAt ad (2) (ad 2) := rfl
  have hay3 : zAt ad (1) (ad 1) := rfl
  have hqL := SKL_len q hq
  refine z_of (by decide) (Nat.le_of_ble_eq_true rfl) ?_
  intro p e s m below meth c C hr hlk hnm
  refine z_lv (lv' := [(0, .ref (ad 2)), (1, .ref (cs (100 + q.2.2.2.1)))]) [0, 1] rfl ?_
  refine z_aload_n C 0 dX7_is_0 rfl ?_
  refine z_get (v := .int (zI (tydy1))) C (lt_K hN (rfl : Nat.blt (2) 952 = true)) hay2 hcdy1 rfl inA_X7 4 (by decide) q_48 rfl rfl dX7_is_1 ?_
  refine z_iconst (z := 1) C dX7_is_4 rfl ?_
  refine z_icmp_ne (tgt := 24) C dX7_is_5 (by decide) (by omega) (by omega) (fun hby4 => ?_) (fun hby4 => ?_)
  · refine z_iconst (z := 0) C dX7_is_24 rfl ?_
    exact z_zret C hr hlk dX7_is_25 (by decide) (by decide) (by decide) ⟨0, rfl, rfl, rfl, by omega, rfl⟩
  · refine z_aload_n C 0 dX7_is_8 rfl ?_
    refine z_get (v := .int (zI (bedy1))) C (lt_K hN (rfl : Nat.blt (2) 952 = true)) hay2 hcdy1 rfl inA_X7 6 (by decide) q_50 rfl rfl dX7_is_9 ?_
    refine z_aload_n C 0 dX7_is_12 rfl ?_
    refine z_get (v := .int (zI (a9dy1))) C (lt_K hN (rfl : Nat.blt (2) 952 = true)) hay2 hcdy1 rfl inA_X7 5 (by decide) q_49 rfl rfl dX7_is_13 ?_
    refine z_isub C dX7_is_16 ?_
    refine z_aload_n C 1 dX7_is_17 rfl ?_
    refine z_cVs (As := []) (rest := [.int (zI (bedy1 - a9dy1))]) C hq (c_slen l D A cs tt N ad _ q hq) rfl mv_yJ0_length_8abf5 q_758 hd_yJ0_length_8abf5 (by decide) (Nat.le_of_ble_eq_true rfl) (by decide) dX7_is_18 rfl (kI0 fun vy5 gvy5 hvy5 => ?_)
    obtain ⟨rfl, rfl⟩ := hvy5
    refine z_icmp_eq (tgt := 26) C dX7_is_21 (by decide) (by omega) (by omega) (fun hby6 => ?_) (fun hby6 => ?_)
    · refine z_iconst (z := 0) C dX7_is_26 rfl ?_
      refine z_istore_n (lv' := [(2, .int (zI (0))), (0, .ref (ad 2)), (1, .ref (cs (100 + q.2.2.2.1)))]) C dX7_is_27 rfl (by decide) rfl ?_
      have lp : ∀ (n9 : Nat) (i : Int) (g1 : Nat → va_E), (6 - i).toNat = n9 → (g1 = g) → (0 ≤ i ∧ i ≤ (q.2.2.2.2.length : Int)) → zV p l e ({ frames := 5, cells := 0, slots := 0, locals := 300 } : Room) s m ([.ref (ad 2), .ref (cs (100 + q.2.2.2.1))] : List Value).toArray below meth c (MQ below (zPost D A (rI0 N ad fun r g' => (0 ≤ r ∧ r ≤ 1) ∧ g = g')) ([.ref (ad 2), .ref (cs (100 + q.2.2.2.1))] : List Value).toArray s ({ frames := 5, cells := 0, slots := 0, locals := 300 } : Room).cells ({ frames := 5, cells := 0, slots := 0, locals := 300 } : Room).slots A) D A 3 (N) ad g1 (0) (0) 28 [(2, .int (zI (i))), (0, .ref (ad 2)), (1, .ref (cs (100 + q.2.2.2.1)))] [] := by
        intro n9
        induction n9 using Nat.strongRecOn with
        | ind n9 ih =>
          intro i g1 hm9 hg1 hi9
          subst hg1
          refine z_iload_n C 0 dX7_is_28 rfl ?_
          refine z_aload_n C 2 dX7_is_29 rfl ?_
          refine z_cVs (As := []) (rest := [.int (zI (i))]) C hq (c_slen l D A cs tt N ad _ q hq) rfl mv_yJ0_length_8abf5 q_758 hd_yJ0_length_8abf5 (by decide) (Nat.le_of_ble_eq_true rfl) (by decide) dX7_is_30 rfl (kI0 fun vy7 gvy7 hvy7 => ?_)
          obtain ⟨rfl, rfl⟩ := hvy7
          refine z_icmp_ge (tgt := 63) C dX7_is_33 (by decide) (by omega) (by omega) (fun hby8 => ?_) (fun hby8 => ?_)
          · refine z_iconst (z := 1) C dX7_is_63 rfl ?_
            exact z_zret C hr hlk dX7_is_64 (by decide) (by decide) (by decide) ⟨1, rfl, rfl, rfl, by omega, rfl⟩
          · refine z_aload_n C 1 dX7_is_36 rfl ?_
            refine z_get (v := .ref (ad 1)) C (lt_K hN (rfl : Nat.blt (2) 952 = true)) hay2 hcdy1 rfl inA_X7 2 (by decide) q_46 rfl rfl dX7_is_37 ?_
            refine z_aload_n C 1 dX7_is_40 rfl ?_
            refine z_get (v := .int (zI (a9dy1))) C (lt_K hN (rfl : Nat.blt (2) 952 = true)) hay2 hcdy1 rfl inA_X7 5 (by decide) q_49 rfl rfl dX7_is_41 ?_
            refine z_iload_n C 0 dX7_is_44 rfl ?_
            refine z_iadd C dX7_is_45 ?_
            refine z_bald C (lt_K hN (rfl : Nat.blt (1) 952 = true)) hay3 hddy1 ((a9dy1 + i).toNat) (by omega) (by omega) (by decide) dX7_is_46 ?_
            refine z_aload_n C 2 dX7_is_47 rfl ?_
            refine z_iload_n C 0 dX7_is_48 rfl ?_
            refine z_cVs (As := [.int (zI (i))]) (rest := [.int (zI (tp ((a9dy1 + i).toNat)))]) C hq (c_scharAt l D A cs tt N ad _ q hq (i) (by omega)) rfl mv_yJ0_charAt_5068e q_767 hd_yJ0_charAt_5068e (by decide) (Nat.le_of_ble_eq_true rfl) (by decide) dX7_is_49 rfl (kI0 fun vy9 gvy9 hvy9 => ?_)
            obtain ⟨hvy9, rfl⟩ := hvy9
            obtain ⟨xy10, exy11, hxy12⟩ := zI_of (zI (tp ((a9dy1 + i).toNat)))
            rw [exy11]
            refine z_icmp_eq (tgt := 57) C dX7_is_52 (by decide) (by omega) (by omega) (fun hby13 => ?_) (fun hby13 => ?_)
            · refine z_iinc (z := i + 1) (lv' := [(2, .int (zI (i + 1))), (0, .ref (ad 2)), (1, .ref (cs (100 + q.2.2.2.1)))]) (j := 0) C dX7_is_57 rfl rfl (by decide) rfl ?_
              refine z_goto (tgt := 28) C dX7_is_60 (by decide) ?_
              refine z_lv (lv' := [(2, .int (zI (i + 1))), (0, .ref (ad 2)), (1, .ref (cs (100 + q.2.2.2.1)))]) [0, 1, 2] rfl ?_
              exact ih _ (by omega) (i + 1) _ rfl rfl (by omega)
            · refine z_iconst (z := 0) C dX7_is_55 rfl ?_
              exact z_zret C hr hlk dX7_is_56 (by decide) (by decide) (by decide) ⟨0, rfl, rfl, rfl, by omega, rfl⟩
      refine z_lv (lv' := [(2, .int (zI (0))), (0, .ref (ad 2)), (1, .ref (cs (100 + q.2.2.2.1)))]) [0, 1, 2] rfl ?_
      exact lp _ (0) _ rfl rfl (by omega)
    · refine z_iconst (z := 0) C dX7_is_24 rfl ?_
      exact z_zret C hr hlk dX7_is_25 (by decide) (by decide) (by decide) ⟨0, rfl, rfl, rfl, by omega, rfl⟩

set_option maxRecDepth 100000 in
set_option maxHeartbeats 4000000 in
theorem c_kindWord (l : Launch) (D : va_G) (A : Nat → Prop) (cs : Nat → ClassId) (tt : Nat) (N : Nat) (ad : Nat → Nat) (g : Nat → va_E) (z : Int) (hz : -2147483648 ≤ z ∧ z ≤ 2147483647) : zM l yX9_kindWord cX9_kindWord 1 (some (.object "java/lang/String")) ({ frames := 1, cells := 0, slots := 0, locals := 60 } : Room) D A cs tt N ad g [.int (zI (z))] (rR0 N ad fun a g' => (∃ q ∈ SKL, a = cs (100 + q.2.2.2.1)) ∧ g = g') := by
  refine z_of (by decide) (Nat.le_of_ble_eq_true rfl) ?_
  intro p e s m below meth c C hr hlk hnm
  refine z_lv (lv' := [(0, .int (zI (z)))]) [0] rfl ?_
  refine z_iload_n C 0 dX9_kindWord_0 rfl ?_
  by_cases hsy1 : z ≠ 0 ∧ z ≠ 1 ∧ z ≠ 2 ∧ z ≠ 3
  · refine z_tout (tgt := 48) C dX9_kindWord_1 (by omega) (by omega) (by decide) ?_
    refine z_ldcwS C skm6 rfl rfl dX9_kindWord_48 ?_
    exact z_aret C hr (Or.inl ⟨_, rfl⟩) hlk dX9_kindWord_51 (by decide) (by decide) ⟨_, rfl, rfl, rfl, ⟨_, skm6, rfl⟩, rfl⟩
  · rcases (show z = 0 ∨ z = 1 ∨ z = 2 ∨ z = 3 by omega) with rfl | rfl | rfl | rfl
    · refine z_tin (off := 31) (tgt := 32) C dX9_kindWord_1 (by omega) (by omega) (by omega) rfl (by decide) ?_
      refine z_ldcwS C skm2 rfl rfl dX9_kindWord_32 ?_
      exact z_aret C hr (Or.inl ⟨_, rfl⟩) hlk dX9_kindWord_35 (by decide) (by decide) ⟨_, rfl, rfl, rfl, ⟨_, skm2, rfl⟩, rfl⟩
    · refine z_tin (off := 35) (tgt := 36) C dX9_kindWord_1 (by omega) (by omega) (by omega) rfl (by decide) ?_
      refine z_ldcwS C skm3 rfl rfl dX9_kindWord_36 ?_
      exact z_aret C hr (Or.inl ⟨_, rfl⟩) hlk dX9_kindWord_39 (by decide) (by decide) ⟨_, rfl, rfl, rfl, ⟨_, skm3, rfl⟩, rfl⟩
    · refine z_tin (off := 39) (tgt := 40) C dX9_kindWord_1 (by omega) (by omega) (by omega) rfl (by decide) ?_
      refine z_ldcwS C skm4 rfl rfl dX9_kindWord_40 ?_
      exact z_aret C hr (Or.inl ⟨_, rfl⟩) hlk dX9_kindWord_43 (by decide) (by decide) ⟨_, rfl, rfl, rfl, ⟨_, skm4, rfl⟩, rfl⟩
    · refine z_tin (off := 43) (tgt := 44) C dX9_kindWord_1 (by omega) (by omega) (by omega) rfl (by decide) ?_
      refine z_ldcwS C skm5 rfl rfl dX9_kindWord_44 ?_
      exact z_aret C hr (Or.inl ⟨_, rfl⟩) hlk dX9_kindWord_47 (by decide) (by decide) ⟨_, rfl, rfl, rfl, ⟨_, skm5, rfl⟩, rfl⟩
end
section
-- 62.words.lean.txt
-- words of digit
theorem q_1104 : (Jvm.Cond.fieldLink "java/lang/Integer" (83 : Nat) "java/lang/Integer" "DigitOnes" "[B") ∈ AW := AW_m5 144 (by decide +kernel) (by decide +kernel)
theorem q_1106 : (Jvm.Cond.fieldLink "java/lang/Integer" (87 : Nat) "java/lang/Integer" "DigitTens" "[B") ∈ AW := AW_m5 146 (by decide +kernel) (by decide +kernel)
end
section
-- 63.dec.lean.txt
-- decode rows of digit
theorem dJ6_stringSize_0f7a4_0 : decode cJ6_stringSize_0f7a4 0 = .ok (.iconst 1, 1) := by decide +kernel
theorem dJ6_stringSize_0f7a4_1 : decode cJ6_stringSize_0f7a4 1 = .ok (.istore_n 1, 1) := by decide +kernel
theorem dJ6_stringSize_0f7a4_2 : decode cJ6_stringSize_0f7a4 2 = .ok (.iload_n 0, 1) := by decide +kernel
theorem dJ6_stringSize_0f7a4_3 : decode cJ6_stringSize_0f7a4 3 = .ok (.ifCond .lt 8, 3) := by decide +kernel
theorem dJ6_stringSize_0f7a4_11 : decode cJ6_stringSize_0f7a4 11 = .ok (.bipush (-10), 2) := by decide +kernel
theorem dJ6_stringSize_0f7a4_13 : decode cJ6_stringSize_0f7a4 13 = .ok (.istore_n 2, 1) := by decide +kernel
theorem dJ6_stringSize_0f7a4_14 : decode cJ6_stringSize_0f7a4 14 = .ok (.iconst 1, 1) := by decide +kernel
theorem dJ6_stringSize_0f7a4_15 : decode cJ6_stringSize_0f7a4 15 = .ok (.istore_n 3, 1) := by decide +kernel
theorem dJ6_stringSize_0f7a4_16 : decode cJ6_stringSize_0f7a4 16 = .ok (.iload_n 3, 1) := by decide +kernel
theorem dJ6_stringSize_0f7a4_17 : decode cJ6_stringSize_0f7a4 17 = .ok (.bipush 10, 2) := by decide +kernel
theorem dJ6_stringSize_0f7a4_19 : decode cJ6_stringSize_0f7a4 19 = .ok (.if_icmp .ge 23, 3) := by decide +kernel
theorem dJ6_stringSize_0f7a4_22 : decode cJ6_stringSize_0f7a4 22 = .ok (.iload_n 0, 1) := by decide +kernel
theorem dJ6_stringSize_0f7a4_23 : decode cJ6_stringSize_0f7a4 23 = .ok (.iload_n 2, 1) := by decide +kernel
theorem dJ6_stringSize_0f7a4_24 : decode cJ6_stringSize_0f7a4 24 = .ok (.if_icmp .le 7, 3) := by decide +kernel
theorem dJ6_stringSize_0f7a4_31 : decode cJ6_stringSize_0f7a4 31 = .ok (.bipush 10, 2) := by decide +kernel
theorem dJ6_stringSize_0f7a4_33 : decode cJ6_stringSize_0f7a4 33 = .ok (.iload_n 2, 1) := by decide +kernel
theorem dJ6_stringSize_0f7a4_34 : decode cJ6_stringSize_0f7a4 34 = .ok (.imul, 1) := by decide +kernel
theorem dJ6_stringSize_0f7a4_35 : decode cJ6_stringSize_0f7a4 35 = .ok (.istore_n 2, 1) := by decide +kernel
theorem dJ6_stringSize_0f7a4_36 : decode cJ6_stringSize_0f7a4 36 = .ok (.iinc 3 1, 3) := by decide +kernel
theorem dJ6_stringSize_0f7a4_39 : decode cJ6_stringSize_0f7a4 39 = .ok (.goto (-23), 3) := by decide +kernel
theorem dJ6_stringSize_0f7a4_42 : decode cJ6_stringSize_0f7a4 42 = .ok (.bipush 10, 2) := by decide +kernel
theorem dJ6_stringSize_0f7a4_44 : decode cJ6_stringSize_0f7a4 44 = .ok (.iload_n 1, 1) := by decide +kernel
theorem dJ6_stringSize_0f7a4_45 : decode cJ6_stringSize_0f7a4 45 = .ok (.iadd, 1) := by decide +kernel
theorem dJ6_stringSize_0f7a4_46 : decode cJ6_stringSize_0f7a4 46 = .ok (.ireturn, 1) := by decide +kernel
theorem dJ6_stringSize_0f7a4_27 : decode cJ6_stringSize_0f7a4 27 = .ok (.iload_n 3, 1) := by decide +kernel
theorem dJ6_stringSize_0f7a4_28 : decode cJ6_stringSize_0f7a4 28 = .ok (.iload_n 1, 1) := by decide +kernel
theorem dJ6_stringSize_0f7a4_29 : decode cJ6_stringSize_0f7a4 29 = .ok (.iadd, 1) := by decide +kernel
theorem dJ6_stringSize_0f7a4_30 : decode cJ6_stringSize_0f7a4 30 = .ok (.ireturn, 1) := by decide +kernel
theorem dJ6_stringSize_0f7a4_6 : decode cJ6_stringSize_0f7a4 6 = .ok (.iconst 0, 1) := by decide +kernel
theorem dJ6_stringSize_0f7a4_7 : decode cJ6_stringSize_0f7a4 7 = .ok (.istore_n 1, 1) := by decide +kernel
theorem dJ6_stringSize_0f7a4_8 : decode cJ6_stringSize_0f7a4 8 = .ok (.iload_n 0, 1) := by decide +kernel
theorem dJ6_stringSize_0f7a4_9 : decode cJ6_stringSize_0f7a4 9 = .ok (.ineg, 1) := by decide +kernel
theorem dJ6_stringSize_0f7a4_10 : decode cJ6_stringSize_0f7a4 10 = .ok (.istore_n 0, 1) := by decide +kernel
theorem dJ6_getChars_ba4f3_0 : decode cJ6_getChars_ba4f3 0 = .ok (.iload_n 1, 1) := by decide +kernel
theorem dJ6_getChars_ba4f3_1 : decode cJ6_getChars_ba4f3 1 = .ok (.istore 5, 2) := by decide +kernel
theorem dJ6_getChars_ba4f3_3 : decode cJ6_getChars_ba4f3 3 = .ok (.iload_n 0, 1) := by decide +kernel
theorem dJ6_getChars_ba4f3_4 : decode cJ6_getChars_ba4f3 4 = .ok (.ifCond .ge 7, 3) := by decide +kernel
theorem dJ6_getChars_ba4f3_11 : decode cJ6_getChars_ba4f3 11 = .ok (.iconst 0, 1) := by decide +kernel
theorem dJ6_getChars_ba4f3_12 : decode cJ6_getChars_ba4f3 12 = .ok (.istore 6, 2) := by decide +kernel
theorem dJ6_getChars_ba4f3_14 : decode cJ6_getChars_ba4f3 14 = .ok (.iload 6, 2) := by decide +kernel
theorem dJ6_getChars_ba4f3_16 : decode cJ6_getChars_ba4f3 16 = .ok (.ifCond .ne 6, 3) := by decide +kernel
theorem dJ6_getChars_ba4f3_19 : decode cJ6_getChars_ba4f3 19 = .ok (.iload_n 0, 1) := by decide +kernel
theorem dJ6_getChars_ba4f3_20 : decode cJ6_getChars_ba4f3 20 = .ok (.ineg, 1) := by decide +kernel
theorem dJ6_getChars_ba4f3_21 : decode cJ6_getChars_ba4f3 21 = .ok (.istore_n 0, 1) := by decide +kernel
theorem dJ6_getChars_ba4f3_22 : decode cJ6_getChars_ba4f3 22 = .ok (.iload_n 0, 1) := by decide +kernel
theorem dJ6_getChars_ba4f3_23 : decode cJ6_getChars_ba4f3 23 = .ok (.bipush (-100), 2) := by decide +kernel
theorem dJ6_getChars_ba4f3_25 : decode cJ6_getChars_ba4f3 25 = .ok (.if_icmp .gt 47, 3) := by decide +kernel
theorem dJ6_getChars_ba4f3_72 : decode cJ6_getChars_ba4f3 72 = .ok (.aload_n 2, 1) := by decide +kernel
theorem dJ6_getChars_ba4f3_73 : decode cJ6_getChars_ba4f3 73 = .ok (.iinc 5 (-1), 3) := by decide +kernel
theorem dJ6_getChars_ba4f3_76 : decode cJ6_getChars_ba4f3 76 = .ok (.iload 5, 2) := by decide +kernel
theorem dJ6_getChars_ba4f3_78 : decode cJ6_getChars_ba4f3 78 = .ok (.getstatic 83, 3) := by decide +kernel
theorem dJ6_getChars_ba4f3_81 : decode cJ6_getChars_ba4f3 81 = .ok (.iload_n 0, 1) := by decide +kernel
theorem dJ6_getChars_ba4f3_82 : decode cJ6_getChars_ba4f3 82 = .ok (.ineg, 1) := by decide +kernel
theorem dJ6_getChars_ba4f3_83 : decode cJ6_getChars_ba4f3 83 = .ok (.baload, 1) := by decide +kernel
theorem dJ6_getChars_ba4f3_84 : decode cJ6_getChars_ba4f3 84 = .ok (.bastore, 1) := by decide +kernel
theorem dJ6_getChars_ba4f3_85 : decode cJ6_getChars_ba4f3 85 = .ok (.iload_n 0, 1) := by decide +kernel
theorem dJ6_getChars_ba4f3_86 : decode cJ6_getChars_ba4f3 86 = .ok (.bipush (-9), 2) := by decide +kernel
theorem dJ6_getChars_ba4f3_88 : decode cJ6_getChars_ba4f3 88 = .ok (.if_icmp .ge 16, 3) := by decide +kernel
theorem dJ6_getChars_ba4f3_104 : decode cJ6_getChars_ba4f3 104 = .ok (.iload 6, 2) := by decide +kernel
theorem dJ6_getChars_ba4f3_106 : decode cJ6_getChars_ba4f3 106 = .ok (.ifCond .eq 12, 3) := by decide +kernel
theorem dJ6_getChars_ba4f3_118 : decode cJ6_getChars_ba4f3 118 = .ok (.iload 5, 2) := by decide +kernel
theorem dJ6_getChars_ba4f3_120 : decode cJ6_getChars_ba4f3 120 = .ok (.ireturn, 1) := by decide +kernel
theorem dJ6_getChars_ba4f3_91 : decode cJ6_getChars_ba4f3 91 = .ok (.aload_n 2, 1) := by decide +kernel
theorem dJ6_getChars_ba4f3_92 : decode cJ6_getChars_ba4f3 92 = .ok (.iinc 5 (-1), 3) := by decide +kernel
theorem dJ6_getChars_ba4f3_95 : decode cJ6_getChars_ba4f3 95 = .ok (.iload 5, 2) := by decide +kernel
theorem dJ6_getChars_ba4f3_97 : decode cJ6_getChars_ba4f3 97 = .ok (.getstatic 87, 3) := by decide +kernel
theorem dJ6_getChars_ba4f3_100 : decode cJ6_getChars_ba4f3 100 = .ok (.iload_n 0, 1) := by decide +kernel
theorem dJ6_getChars_ba4f3_101 : decode cJ6_getChars_ba4f3 101 = .ok (.ineg, 1) := by decide +kernel
theorem dJ6_getChars_ba4f3_102 : decode cJ6_getChars_ba4f3 102 = .ok (.baload, 1) := by decide +kernel
theorem dJ6_getChars_ba4f3_103 : decode cJ6_getChars_ba4f3 103 = .ok (.bastore, 1) := by decide +kernel
theorem dJ6_getChars_ba4f3_28 : decode cJ6_getChars_ba4f3 28 = .ok (.iload_n 0, 1) := by decide +kernel
theorem dJ6_getChars_ba4f3_29 : decode cJ6_getChars_ba4f3 29 = .ok (.bipush 100, 2) := by decide +kernel
theorem dJ6_getChars_ba4f3_31 : decode cJ6_getChars_ba4f3 31 = .ok (.idiv, 1) := by decide +kernel
theorem dJ6_getChars_ba4f3_32 : decode cJ6_getChars_ba4f3 32 = .ok (.istore_n 3, 1) := by decide +kernel
theorem dJ6_getChars_ba4f3_33 : decode cJ6_getChars_ba4f3 33 = .ok (.iload_n 3, 1) := by decide +kernel
theorem dJ6_getChars_ba4f3_34 : decode cJ6_getChars_ba4f3 34 = .ok (.bipush 100, 2) := by decide +kernel
theorem dJ6_getChars_ba4f3_36 : decode cJ6_getChars_ba4f3 36 = .ok (.imul, 1) := by decide +kernel
theorem dJ6_getChars_ba4f3_37 : decode cJ6_getChars_ba4f3 37 = .ok (.iload_n 0, 1) := by decide +kernel
theorem dJ6_getChars_ba4f3_38 : decode cJ6_getChars_ba4f3 38 = .ok (.isub, 1) := by decide +kernel
theorem dJ6_getChars_ba4f3_39 : decode cJ6_getChars_ba4f3 39 = .ok (.istore 4, 2) := by decide +kernel
theorem dJ6_getChars_ba4f3_41 : decode cJ6_getChars_ba4f3 41 = .ok (.iload_n 3, 1) := by decide +kernel
theorem dJ6_getChars_ba4f3_42 : decode cJ6_getChars_ba4f3 42 = .ok (.istore_n 0, 1) := by decide +kernel
theorem dJ6_getChars_ba4f3_43 : decode cJ6_getChars_ba4f3 43 = .ok (.aload_n 2, 1) := by decide +kernel
theorem dJ6_getChars_ba4f3_44 : decode cJ6_getChars_ba4f3 44 = .ok (.iinc 5 (-1), 3) := by decide +kernel
theorem dJ6_getChars_ba4f3_47 : decode cJ6_getChars_ba4f3 47 = .ok (.iload 5, 2) := by decide +kernel
theorem dJ6_getChars_ba4f3_49 : decode cJ6_getChars_ba4f3 49 = .ok (.getstatic 83, 3) := by decide +kernel
theorem dJ6_getChars_ba4f3_52 : decode cJ6_getChars_ba4f3 52 = .ok (.iload 4, 2) := by decide +kernel
theorem dJ6_getChars_ba4f3_54 : decode cJ6_getChars_ba4f3 54 = .ok (.baload, 1) := by decide +kernel
theorem dJ6_getChars_ba4f3_55 : decode cJ6_getChars_ba4f3 55 = .ok (.bastore, 1) := by decide +kernel
theorem dJ6_getChars_ba4f3_56 : decode cJ6_getChars_ba4f3 56 = .ok (.aload_n 2, 1) := by decide +kernel
theorem dJ6_getChars_ba4f3_57 : decode cJ6_getChars_ba4f3 57 = .ok (.iinc 5 (-1), 3) := by decide +kernel
theorem dJ6_getChars_ba4f3_60 : decode cJ6_getChars_ba4f3 60 = .ok (.iload 5, 2) := by decide +kernel
theorem dJ6_getChars_ba4f3_62 : decode cJ6_getChars_ba4f3 62 = .ok (.getstatic 87, 3) := by decide +kernel
theorem dJ6_getChars_ba4f3_65 : decode cJ6_getChars_ba4f3 65 = .ok (.iload 4, 2) := by decide +kernel
theorem dJ6_getChars_ba4f3_67 : decode cJ6_getChars_ba4f3 67 = .ok (.baload, 1) := by decide +kernel
theorem dJ6_getChars_ba4f3_68 : decode cJ6_getChars_ba4f3 68 = .ok (.bastore, 1) := by decide +kernel
theorem dJ6_getChars_ba4f3_69 : decode cJ6_getChars_ba4f3 69 = .ok (.goto (-47), 3) := by decide +kernel
theorem dJ6_getChars_ba4f3_7 : decode cJ6_getChars_ba4f3 7 = .ok (.iconst 1, 1) := by decide +kernel
theorem dJ6_getChars_ba4f3_8 : decode cJ6_getChars_ba4f3 8 = .ok (.goto 4, 3) := by decide +kernel
theorem dJ6_getChars_ba4f3_109 : decode cJ6_getChars_ba4f3 109 = .ok (.aload_n 2, 1) := by decide +kernel
theorem dJ6_getChars_ba4f3_110 : decode cJ6_getChars_ba4f3 110 = .ok (.iinc 5 (-1), 3) := by decide +kernel
theorem dJ6_getChars_ba4f3_113 : decode cJ6_getChars_ba4f3 113 = .ok (.iload 5, 2) := by decide +kernel
theorem dJ6_getChars_ba4f3_115 : decode cJ6_getChars_ba4f3 115 = .ok (.bipush 45, 2) := by decide +kernel
theorem dJ6_getChars_ba4f3_117 : decode cJ6_getChars_ba4f3 117 = .ok (.bastore, 1) := by decide +kernel
end
section
-- 64.digit.lean.txt
def sq0 : String × String × Nat × List Int32 := ("SnowRecorderModel", "KNOWN", 0, [115, 108, 111, 112, 101, 32, 108, 97, 121, 101, 114, 32, 104, 111, 117, 114, 32, 115, 110, 111, 119, 32, 114, 97, 105, 110, 32, 104, 111, 97, 114, 32, 115, 116, 114, 111, 110, 103, 32, 104, 111, 108, 100, 115, 32, 115, 116, 105, 102, 102, 32, 112, 111, 119, 100, 101, 114, 32, 103, 114, 97, 105, 110, 115, 32, 102, 97, 99, 101, 116, 115, 32, 99, 114, 117, 115, 116, 32])
theorem stm0 : sq0 ∈ STL := List.mem_of_getElem? (i := 0) rfl
theorem stl0 : sq0.2.2.2.length = 78 := rfl
def sq1 : String × String × Nat × List Int32 := ("java/lang/Integer", "DigitOnes", 1, [48, 49, 50, 51, 52, 53, 54, 55, 56, 57, 48, 49, 50, 51, 52, 53, 54, 55, 56, 57, 48, 49, 50, 51, 52, 53, 54, 55, 56, 57, 48, 49, 50, 51, 52, 53, 54, 55, 56, 57, 48, 49, 50, 51, 52, 53, 54, 55, 56, 57, 48, 49, 50, 51, 52, 53, 54, 55, 56, 57, 48, 49, 50, 51, 52, 53, 54, 55, 56, 57, 48, 49, 50, 51, 52, 53, 54, 55, 56, 57, 48, 49, 50, 51, 52, 53, 54, 55, 56, 57, 48, 49, 50, 51, 52, 53, 54, 55, 56, 57])
theorem stm1 : sq1 ∈ STL := List.mem_of_getElem? (i := 1) rfl
theorem stl1 : sq1.2.2.2.length = 100 := rfl
def sq2 : String × String × Nat × List Int32 := ("java/lang/Integer", "DigitTens", 2, [48, 48, 48, 48, 48, 48, 48, 48, 48, 48, 49, 49, 49, 49, 49, 49, 49, 49, 49, 49, 50, 50, 50, 50, 50, 50, 50, 50, 50, 50, 51, 51, 51, 51, 51, 51, 51, 51, 51, 51, 52, 52, 52, 52, 52, 52, 52, 52, 52, 52, 53, 53, 53, 53, 53, 53, 53, 53, 53, 53, 54, 54, 54, 54, 54, 54, 54, 54, 54, 54, 55, 55, 55, 55, 55, 55, 55, 55, 55, 55, 56, 56, 56, 56, 56, 56, 56, 56, 56, 56, 57, 57, 57, 57, 57, 57, 57, 57, 57, 57])
theorem stm2 : sq2 ∈ STL := List.mem_of_getElem? (i := 2) rfl
theorem stl2 : sq2.2.2.2.length = 100 := rfl
theorem stv1 : ∀ x ∈ sq1.2.2.2, 48 ≤ x.toInt ∧ x.toInt ≤ 57 := by decide
theorem stv2 : ∀ x ∈ sq2.2.2.2, 48 ≤ x.toInt ∧ x.toInt ≤ 57 := by decide
theorem getD_b {L : List Int32} (h : ∀ x ∈ L, 48 ≤ x.toInt ∧ x.toInt ≤ 57) {j : Nat} (hj : j < L.length) : ∃ y : Int, L.getD j 0 = zI y ∧ 48 ≤ y ∧ y ≤ 57 := by
  have e : L.getD j 0 = L[j] := by simp [List.getD, hj]
  exact ⟨(L.getD j 0).toInt, (Int32.ofInt_toInt _).symm, by rw [e]; exact (h _ (List.getElem_mem hj)).1, by rw [e]; exact (h _ (List.getElem_mem hj)).2⟩
theorem tdn {a : Int} (h : a ≤ 0) : ∃ x, a.tdiv 100 = x ∧ a ≤ 100 * x ∧ 100 * x ≤ a + 99 ∧ x ≤ 0 := by
  obtain ⟨n, hn⟩ := Int.eq_ofNat_of_zero_le (show 0 ≤ -a by omega)
  have e : a = -(n : Int) := by omega
  subst e
  refine ⟨_, rfl, ?_⟩
  rw [Int.neg_tdiv, Int.tdiv_eq_ediv_of_nonneg (by omega)]
  omega
theorem uB {r : Nat → Int} {k : Nat} {v : Int} (h : ∀ j, -128 ≤ r j ∧ r j ≤ 127) (hv : -128 ≤ v ∧ v ≤ 127) : ∀ j, -128 ≤ uZ r k v j ∧ uZ r k v j ≤ 127 := fun j => by
  by_cases e : j = k
  · rw [e, uZ_s]; exact hv
  · rw [uZ_n _ _ e]; exact h j
section ZST
variable {p : Program} {l : Launch} {e : Env} {R : Room} {s : State} {m : MethodId} {args : Array Value} {below : List Frame} {meth : Method} {c : Code} {Q : State → Prop} {D : va_G} {A : Nat → Prop} {cs : Nat → ClassId} {tt : Nat} {cc : ByteArray} {nL : Nat} {own : String} {N : Nat} {ad : Nat → Nat} {g : Nat → va_E} {k n pc : Nat} {lv lv' : List (Nat × Value)} {rest : List Value} {q : String × String × Nat × List Int32}
theorem z_getSt (C : zC p s m args c cc nL own D A cs tt) (hq : q ∈ STL) {idx : Nat} (hlk : Cond.fieldLink own idx q.1 q.2.1 "[B" ∈ AW) (hdg : decode cc pc = .ok (.getstatic idx, 3)) (kk : zV p l e R s m args below meth c Q D A nL N ad g k n (pc + 3) (lv) (.ref (cs (300 + q.2.2.1)) :: rest)) : zV p l e R s m args below meth c Q D A nL N ad g k n (pc) (lv) (rest) := fun H locs ls hP hD hS hl => va_gets C.1 C.2.1 (C.S.2.1 q hq).1 hS C.2.2.2.1 (C.2.2.2.2.1 _ hlk) (fun _ h => h) hdg (kk H locs ls hP hD hS hl)
theorem z_stbald (C : zC p s m args c cc nL own D A cs tt) (hq : q ∈ STL) (j : Nat) {z y : Int} (hz : z = (j : Int)) (hj : j < q.2.2.2.length) (hL : q.2.2.2.length ≤ 2147483647) (hv : q.2.2.2.getD j 0 = zI y) (hdg : decode cc pc = .ok (.baload, 1)) (kk : zV p l e R s m args below meth c Q D A nL N ad g k n (pc + 1) (lv) (.int (zI y) :: rest)) : zV p l e R s m args below meth c Q D A nL N ad g k n (pc) (lv) (.int (zI z) :: .ref (cs (300 + q.2.2.1)) :: rest) := fun H locs ls hP hD hS hl => by
  subst hz
  exact va_tb C.1 C.2.1 (C.S.2.1 q hq).2 hS (zI_in hj hL) (show Value.int (q.2.2.2.getD (zI (j : Int)).toNatClampNeg 0) = .int (zI y) by rw [zI_clN (by omega), hv]) hdg (kk H locs ls hP hD hS hl)
end ZST

set_option maxRecDepth 100000 in
set_option maxHeartbeats 4000000 in
theorem c_strSize (l : Launch) (D : va_G) (A : Nat → Prop) (cs : Nat → ClassId) (tt : Nat) (N : Nat) (ad : Nat → Nat) (g : Nat → va_E) (z : Int) (hz : -2147483648 ≤ z ∧ z ≤ 2147483647) : zM l yJ6_stringSize_0f7a4 cJ6_stringSize_0f7a4 4 (some .int) ({ frames := 1, cells := 0, slots := 0, locals := 60 } : Room) D A cs tt N ad g [.int (zI (z))] (rI0 N ad fun r g' => (1 ≤ r ∧ r ≤ 11) ∧ ((0 ≤ z ∧ ((1 ≤ r ∧ -10 < -(z)) ∨ (2 ≤ r ∧ -100 < -(z)) ∨ (3 ≤ r ∧ -1000 < -(z)) ∨ (4 ≤ r ∧ -10000 < -(z)) ∨ (5 ≤ r ∧ -100000 < -(z)) ∨ (6 ≤ r ∧ -1000000 < -(z)) ∨ (7 ≤ r ∧ -10000000 < -(z)) ∨ (8 ≤ r ∧ -100000000 < -(z)) ∨ (9 ≤ r ∧ -1000000000 < -(z)) ∨ (10 ≤ r ∧ -10000000000 < -(z)))) ∨ (z < 0 ∧ ((1 ≤ r - 1 ∧ -10 < z) ∨ (2 ≤ r - 1 ∧ -100 < z) ∨ (3 ≤ r - 1 ∧ -1000 < z) ∨ (4 ≤ r - 1 ∧ -10000 < z) ∨ (5 ≤ r - 1 ∧ -100000 < z) ∨ (6 ≤ r - 1 ∧ -1000000 < z) ∨ (7 ≤ r - 1 ∧ -10000000 < z) ∨ (8 ≤ r - 1 ∧ -100000000 < z) ∨ (9 ≤ r - 1 ∧ -1000000000 < z) ∨ (10 ≤ r - 1 ∧ -10000000000 < z)))) ∧ g = g') := by
  refine z_of (by decide) (Nat.le_of_ble_eq_true rfl) ?_
  intro p e s m below meth c C hr hlk hnm
  refine z_lv (lv' := [(0, .int (zI (z)))]) [0] rfl ?_
  refine z_iconst (z := 1) C dJ6_stringSize_0f7a4_0 rfl ?_
  refine z_istore_n (lv' := [(1, .int (zI (1))), (0, .int (zI (z)))]) C dJ6_stringSize_0f7a4_1 rfl (by decide) rfl ?_
  refine z_iload_n C 1 dJ6_stringSize_0f7a4_2 rfl ?_
  refine z_if_lt (tgt := 11) C dJ6_stringSize_0f7a4_3 (by decide) (by omega) (fun hby1 => ?_) (fun hby1 => ?_)
  · refine z_bipush (z := -10) C dJ6_stringSize_0f7a4_11 (by decide) ?_
    refine z_istore_n (lv' := [(2, .int (zI (-10))), (1, .int (zI (1))), (0, .int (zI (z)))]) C dJ6_stringSize_0f7a4_13 rfl (by decide) rfl ?_
    refine z_iconst (z := 1) C dJ6_stringSize_0f7a4_14 rfl ?_
    refine z_istore_n (lv' := [(3, .int (zI (1))), (2, .int (zI (-10))), (1, .int (zI (1))), (0, .int (zI (z)))]) C dJ6_stringSize_0f7a4_15 rfl (by decide) rfl ?_
    refine z_iload_n C 0 dJ6_stringSize_0f7a4_16 rfl ?_
    refine z_bipush (z := 10) C dJ6_stringSize_0f7a4_17 (by decide) ?_
    refine z_icmp_ge (tgt := 42) C dJ6_stringSize_0f7a4_19 (by decide) (by omega) (by omega) (fun h => absurd h (by omega)) (fun _ => ?_)
    refine z_iload_n C 3 dJ6_stringSize_0f7a4_22 rfl ?_
    refine z_iload_n C 1 dJ6_stringSize_0f7a4_23 rfl ?_
    refine z_icmp_le (tgt := 31) C dJ6_stringSize_0f7a4_24 (by decide) (by omega) (by omega) (fun hby2 => ?_) (fun hby2 => ?_)
    · refine z_bipush (z := 10) C dJ6_stringSize_0f7a4_31 (by decide) ?_
      refine z_iload_n C 1 dJ6_stringSize_0f7a4_33 rfl ?_
      refine z_imul C dJ6_stringSize_0f7a4_34 ?_
      refine z_istore_n (lv' := [(2, .int (zI (10 * (-10)))), (3, .int (zI (1))), (1, .int (zI (1))), (0, .int (zI (z)))]) C dJ6_stringSize_0f7a4_35 rfl (by decide) rfl ?_
      refine z_iinc (z := 2) (lv' := [(3, .int (zI (2))), (2, .int (zI (10 * (-10)))), (1, .int (zI (1))), (0, .int (zI (z)))]) (j := 1) C dJ6_stringSize_0f7a4_36 rfl (congrArg zI (by omega)) (by decide) rfl ?_
      refine z_goto (tgt := 16) C dJ6_stringSize_0f7a4_39 (by decide) ?_
      refine z_iload_n C 0 dJ6_stringSize_0f7a4_16 rfl ?_
      refine z_bipush (z := 10) C dJ6_stringSize_0f7a4_17 (by decide) ?_
      refine z_icmp_ge (tgt := 42) C dJ6_stringSize_0f7a4_19 (by decide) (by omega) (by omega) (fun h => absurd h (by omega)) (fun _ => ?_)
      refine z_iload_n C 3 dJ6_stringSize_0f7a4_22 rfl ?_
      refine z_iload_n C 1 dJ6_stringSize_0f7a4_23 rfl ?_
      refine z_icmp_le (tgt := 31) C dJ6_stringSize_0f7a4_24 (by decide) (by omega) (by omega) (fun hby3 => ?_) (fun hby3 => ?_)
      · refine z_bipush (z := 10) C dJ6_stringSize_0f7a4_31 (by decide) ?_
        refine z_iload_n C 1 dJ6_stringSize_0f7a4_33 rfl ?_
        refine z_imul C dJ6_stringSize_0f7a4_34 ?_
        refine z_istore_n (lv' := [(2, .int (zI (10 * (10 * (-10))))), (3, .int (zI (2))), (1, .int (zI (1))), (0, .int (zI (z)))]) C dJ6_stringSize_0f7a4_35 rfl (by decide) rfl ?_
        refine z_iinc (z := 3) (lv' := [(3, .int (zI (3))), (2, .int (zI (10 * (10 * (-10))))), (1, .int (zI (1))), (0, .int (zI (z)))]) (j := 1) C dJ6_stringSize_0f7a4_36 rfl (congrArg zI (by omega)) (by decide) rfl ?_
        refine z_goto (tgt := 16) C dJ6_stringSize_0f7a4_39 (by decide) ?_
        refine z_iload_n C 0 dJ6_stringSize_0f7a4_16 rfl ?_
        refine z_bipush (z := 10) C dJ6_stringSize_0f7a4_17 (by decide) ?_
        refine z_icmp_ge (tgt := 42) C dJ6_stringSize_0f7a4_19 (by decide) (by omega) (by omega) (fun h => absurd h (by omega)) (fun _ => ?_)
        refine z_iload_n C 3 dJ6_stringSize_0f7a4_22 rfl ?_
        refine z_iload_n C 1 dJ6_stringSize_0f7a4_23 rfl ?_
        refine z_icmp_le (tgt := 31) C dJ6_stringSize_0f7a4_24 (by decide) (by omega) (by omega) (fun hby4 => ?_) (fun hby4 => ?_)
        · refine z_bipush (z := 10) C dJ6_stringSize_0f7a4_31 (by decide) ?_
          refine z_iload_n C 1 dJ6_stringSize_0f7a4_33 rfl ?_
          refine z_imul C dJ6_stringSize_0f7a4_34 ?_
          refine z_istore_n (lv' := [(2, .int (zI (10 * (10 * (10 * (-10)))))), (3, .int (zI (3))), (1, .int (zI (1))), (0, .int (zI (z)))]) C dJ6_stringSize_0f7a4_35 rfl (by decide) rfl ?_
          refine z_iinc (z := 4) (lv' := [(3, .int (zI (4))), (2, .int (zI (10 * (10 * (10 * (-10)))))), (1, .int (zI (1))), (0, .int (zI (z)))]) (j := 1) C dJ6_stringSize_0f7a4_36 rfl (congrArg zI (by omega)) (by decide) rfl ?_
          refine z_goto (tgt := 16) C dJ6_stringSize_0f7a4_39 (by decide) ?_
          refine z_iload_n C 0 dJ6_stringSize_0f7a4_16 rfl ?_
          refine z_bipush (z := 10) C dJ6_stringSize_0f7a4_17 (by decide) ?_
          refine z_icmp_ge (tgt := 42) C dJ6_stringSize_0f7a4_19 (by decide) (by omega) (by omega) (fun h => absurd h (by omega)) (fun _ => ?_)
          refine z_iload_n C 3 dJ6_stringSize_0f7a4_22 rfl ?_
          refine z_iload_n C 1 dJ6_stringSize_0f7a4_23 rfl ?_
          refine z_icmp_le (tgt := 31) C dJ6_stringSize_0f7a4_24 (by decide) (by omega) (by omega) (fun hby5 => ?_) (fun hby5 => ?_)
          · refine z_bipush (z := 10) C dJ6_stringSize_0f7a4_31 (by decide) ?_
            refine z_iload_n C 1 dJ6_stringSize_0f7a4_33 rfl ?_
            refine z_imul C dJ6_stringSize_0f7a4_34 ?_
            refine z_istore_n (lv' := [(2, .int (zI (10 * (10 * (10 * (10 * (-10))))))), (3, .int (zI (4))), (1, .int (zI (1))), (0, .int (zI (z)))]) C dJ6_stringSize_0f7a4_35 rfl (by decide) rfl ?_
            refine z_iinc (z := 5) (lv' := [(3, .int (zI (5))), (2, .int (zI (10 * (10 * (10 * (10 * (-10))))))), (1, .int (zI (1))), (0, .int (zI (z)))]) (j := 1) C dJ6_stringSize_0f7a4_36 rfl (congrArg zI (by omega)) (by decide) rfl ?_
            refine z_goto (tgt := 16) C dJ6_stringSize_0f7a4_39 (by decide) ?_
            refine z_iload_n C 0 dJ6_stringSize_0f7a4_16 rfl ?_
            refine z_bipush (z := 10) C dJ6_stringSize_0f7a4_17 (by decide) ?_
            refine z_icmp_ge (tgt := 42) C dJ6_stringSize_0f7a4_19 (by decide) (by omega) (by omega) (fun h => absurd h (by omega)) (fun _ => ?_)
            refine z_iload_n C 3 dJ6_stringSize_0f7a4_22 rfl ?_
            refine z_iload_n C 1 dJ6_stringSize_0f7a4_23 rfl ?_
            refine z_icmp_le (tgt := 31) C dJ6_stringSize_0f7a4_24 (by decide) (by omega) (by omega) (fun hby6 => ?_) (fun hby6 => ?_)
            · refine z_bipush (z := 10) C dJ6_stringSize_0f7a4_31 (by decide) ?_
              refine z_iload_n C 1 dJ6_stringSize_0f7a4_33 rfl ?_
              refine z_imul C dJ6_stringSize_0f7a4_34 ?_
              refine z_istore_n (lv' := [(2, .int (zI (10 * (10 * (10 * (10 * (10 * (-10)))))))), (3, .int (zI (5))), (1, .int (zI (1))), (0, .int (zI (z)))]) C dJ6_stringSize_0f7a4_35 rfl (by decide) rfl ?_
              refine z_iinc (z := 6) (lv' := [(3, .int (zI (6))), (2, .int (zI (10 * (10 * (10 * (10 * (10 * (-10)))))))), (1, .int (zI (1))), (0, .int (zI (z)))]) (j := 1) C dJ6_stringSize_0f7a4_36 rfl (congrArg zI (by omega)) (by decide) rfl ?_
              refine z_goto (tgt := 16) C dJ6_stringSize_0f7a4_39 (by decide) ?_
              refine z_iload_n C 0 dJ6_stringSize_0f7a4_16 rfl ?_
              refine z_bipush (z := 10) C dJ6_stringSize_0f7a4_17 (by decide) ?_
              refine z_icmp_ge (tgt := 42) C dJ6_stringSize_0f7a4_19 (by decide) (by omega) (by omega) (fun h => absurd h (by omega)) (fun _ => ?_)
              refine z_iload_n C 3 dJ6_stringSize_0f7a4_22 rfl ?_
              refine z_iload_n C 1 dJ6_stringSize_0f7a4_23 rfl ?_
              refine z_icmp_le (tgt := 31) C dJ6_stringSize_0f7a4_24 (by decide) (by omega) (by omega) (fun hby7 => ?_) (fun hby7 => ?_)
              · refine z_bipush (z := 10) C dJ6_stringSize_0f7a4_31 (by decide) ?_
                refine z_iload_n C 1 dJ6_stringSize_0f7a4_33 rfl ?_
                refine z_imul C dJ6_stringSize_0f7a4_34 ?_
                refine z_istore_n (lv' := [(2, .int (zI (10 * (10 * (10 * (10 * (10 * (10 * (-10))))))))), (3, .int (zI (6))), (1, .int (zI (1))), (0, .int (zI (z)))]) C dJ6_stringSize_0f7a4_35 rfl (by decide) rfl ?_
                refine z_iinc (z := 7) (lv' := [(3, .int (zI (7))), (2, .int (zI (10 * (10 * (10 * (10 * (10 * (10 * (-10))))))))), (1, .int (zI (1))), (0, .int (zI (z)))]) (j := 1) C dJ6_stringSize_0f7a4_36 rfl (congrArg zI (by omega)) (by decide) rfl ?_
                refine z_goto (tgt := 16) C dJ6_stringSize_0f7a4_39 (by decide) ?_
                refine z_iload_n C 0 dJ6_stringSize_0f7a4_16 rfl ?_
                refine z_bipush (z := 10) C dJ6_stringSize_0f7a4_17 (by decide) ?_
                refine z_icmp_ge (tgt := 42) C dJ6_stringSize_0f7a4_19 (by decide) (by omega) (by omega) (fun h => absurd h (by omega)) (fun _ => ?_)
                refine z_iload_n C 3 dJ6_stringSize_0f7a4_22 rfl ?_
                refine z_iload_n C 1 dJ6_stringSize_0f7a4_23 rfl ?_
                refine z_icmp_le (tgt := 31) C dJ6_stringSize_0f7a4_24 (by decide) (by omega) (by omega) (fun hby8 => ?_) (fun hby8 => ?_)
                · refine z_bipush (z := 10) C dJ6_stringSize_0f7a4_31 (by decide) ?_
                  refine z_iload_n C 1 dJ6_stringSize_0f7a4_33 rfl ?_
                  refine z_imul C dJ6_stringSize_0f7a4_34 ?_
                  refine z_istore_n (lv' := [(2, .int (zI (10 * (10 * (10 * (10 * (10 * (10 * (10 * (-10)))))))))), (3, .int (zI (7))), (1, .int (zI (1))), (0, .int (zI (z)))]) C dJ6_stringSize_0f7a4_35 rfl (by decide) rfl ?_
                  refine z_iinc (z := 8) (lv' := [(3, .int (zI (8))), (2, .int (zI (10 * (10 * (10 * (10 * (10 * (10 * (10 * (-10)))))))))), (1, .int (zI (1))), (0, .int (zI (z)))]) (j := 1) C dJ6_stringSize_0f7a4_36 rfl (congrArg zI (by omega)) (by decide) rfl ?_
                  refine z_goto (tgt := 16) C dJ6_stringSize_0f7a4_39 (by decide) ?_
                  refine z_iload_n C 0 dJ6_stringSize_0f7a4_16 rfl ?_
                  refine z_bipush (z := 10) C dJ6_stringSize_0f7a4_17 (by decide) ?_
                  refine z_icmp_ge (tgt := 42) C dJ6_stringSize_0f7a4_19 (by decide) (by omega) (by omega) (fun h => absurd h (by omega)) (fun _ => ?_)
                  refine z_iload_n C 3 dJ6_stringSize_0f7a4_22 rfl ?_
                  refine z_iload_n C 1 dJ6_stringSize_0f7a4_23 rfl ?_
                  refine z_icmp_le (tgt := 31) C dJ6_stringSize_0f7a4_24 (by decide) (by omega) (by omega) (fun hby9 => ?_) (fun hby9 => ?_)
                  · refine z_bipush (z := 10) C dJ6_stringSize_0f7a4_31 (by decide) ?_
                    refine z_iload_n C 1 dJ6_stringSize_0f7a4_33 rfl ?_
                    refine z_imul C dJ6_stringSize_0f7a4_34 ?_
                    refine z_istore_n (lv' := [(2, .int (zI (10 * (10 * (10 * (10 * (10 * (10 * (10 * (10 * (-10))))))))))), (3, .int (zI (8))), (1, .int (zI (1))), (0, .int (zI (z)))]) C dJ6_stringSize_0f7a4_35 rfl (by decide) rfl ?_
                    refine z_iinc (z := 9) (lv' := [(3, .int (zI (9))), (2, .int (zI (10 * (10 * (10 * (10 * (10 * (10 * (10 * (10 * (-10))))))))))), (1, .int (zI (1))), (0, .int (zI (z)))]) (j := 1) C dJ6_stringSize_0f7a4_36 rfl (congrArg zI (by omega)) (by decide) rfl ?_
                    refine z_goto (tgt := 16) C dJ6_stringSize_0f7a4_39 (by decide) ?_
                    refine z_iload_n C 0 dJ6_stringSize_0f7a4_16 rfl ?_
                    refine z_bipush (z := 10) C dJ6_stringSize_0f7a4_17 (by decide) ?_
                    refine z_icmp_ge (tgt := 42) C dJ6_stringSize_0f7a4_19 (by decide) (by omega) (by omega) (fun h => absurd h (by omega)) (fun _ => ?_)
                    refine z_iload_n C 3 dJ6_stringSize_0f7a4_22 rfl ?_
                    refine z_iload_n C 1 dJ6_stringSize_0f7a4_23 rfl ?_
                    refine z_icmp_le (tgt := 31) C dJ6_stringSize_0f7a4_24 (by decide) (by omega) (by omega) (fun hby10 => ?_) (fun hby10 => ?_)
                    · refine z_bipush (z := 10) C dJ6_stringSize_0f7a4_31 (by decide) ?_
                      refine z_iload_n C 1 dJ6_stringSize_0f7a4_33 rfl ?_
                      refine z_imul C dJ6_stringSize_0f7a4_34 ?_
                      refine z_istore_n (lv' := [(2, .int (zI (10 * (10 * (10 * (10 * (10 * (10 * (10 * (10 * (10 * (-10)))))))))))), (3, .int (zI (9))), (1, .int (zI (1))), (0, .int (zI (z)))]) C dJ6_stringSize_0f7a4_35 rfl (by decide) rfl ?_
                      refine z_iinc (z := 10) (lv' := [(3, .int (zI (10))), (2, .int (zI (10 * (10 * (10 * (10 * (10 * (10 * (10 * (10 * (10 * (-10)))))))))))), (1, .int (zI (1))), (0, .int (zI (z)))]) (j := 1) C dJ6_stringSize_0f7a4_36 rfl (congrArg zI (by omega)) (by decide) rfl ?_
                      refine z_goto (tgt := 16) C dJ6_stringSize_0f7a4_39 (by decide) ?_
                      refine z_iload_n C 0 dJ6_stringSize_0f7a4_16 rfl ?_
                      refine z_bipush (z := 10) C dJ6_stringSize_0f7a4_17 (by decide) ?_
                      refine z_icmp_ge (tgt := 42) C dJ6_stringSize_0f7a4_19 (by decide) (by omega) (by omega) (fun _ => ?_) (fun h => absurd h (by omega))
                      refine z_bipush (z := 10) C dJ6_stringSize_0f7a4_42 (by decide) ?_
                      refine z_iload_n C 2 dJ6_stringSize_0f7a4_44 rfl ?_
                      refine z_iadd C dJ6_stringSize_0f7a4_45 ?_
                      exact z_iret C hr hlk dJ6_stringSize_0f7a4_46 (by decide) (by decide) ⟨10 + 1, rfl, rfl, rfl, by omega, by omega, rfl⟩
                    · refine z_iload_n C 0 dJ6_stringSize_0f7a4_27 rfl ?_
                      refine z_iload_n C 2 dJ6_stringSize_0f7a4_28 rfl ?_
                      refine z_iadd C dJ6_stringSize_0f7a4_29 ?_
                      exact z_iret C hr hlk dJ6_stringSize_0f7a4_30 (by decide) (by decide) ⟨9 + 1, rfl, rfl, rfl, by omega, by omega, rfl⟩
                  · refine z_iload_n C 0 dJ6_stringSize_0f7a4_27 rfl ?_
                    refine z_iload_n C 2 dJ6_stringSize_0f7a4_28 rfl ?_
                    refine z_iadd C dJ6_stringSize_0f7a4_29 ?_
                    exact z_iret C hr hlk dJ6_stringSize_0f7a4_30 (by decide) (by decide) ⟨8 + 1, rfl, rfl, rfl, by omega, by omega, rfl⟩
                · refine z_iload_n C 0 dJ6_stringSize_0f7a4_27 rfl ?_
                  refine z_iload_n C 2 dJ6_stringSize_0f7a4_28 rfl ?_
                  refine z_iadd C dJ6_stringSize_0f7a4_29 ?_
                  exact z_iret C hr hlk dJ6_stringSize_0f7a4_30 (by decide) (by decide) ⟨7 + 1, rfl, rfl, rfl, by omega, by omega, rfl⟩
              · refine z_iload_n C 0 dJ6_stringSize_0f7a4_27 rfl ?_
                refine z_iload_n C 2 dJ6_stringSize_0f7a4_28 rfl ?_
                refine z_iadd C dJ6_stringSize_0f7a4_29 ?_
                exact z_iret C hr hlk dJ6_stringSize_0f7a4_30 (by decide) (by decide) ⟨6 + 1, rfl, rfl, rfl, by omega, by omega, rfl⟩
            · refine z_iload_n C 0 dJ6_stringSize_0f7a4_27 rfl ?_
              refine z_iload_n C 2 dJ6_stringSize_0f7a4_28 rfl ?_
              refine z_iadd C dJ6_stringSize_0f7a4_29 ?_
              exact z_iret C hr hlk dJ6_stringSize_0f7a4_30 (by decide) (by decide) ⟨5 + 1, rfl, rfl, rfl, by omega, by omega, rfl⟩
          · refine z_iload_n C 0 dJ6_stringSize_0f7a4_27 rfl ?_
            refine z_iload_n C 2 dJ6_stringSize_0f7a4_28 rfl ?_
            refine z_iadd C dJ6_stringSize_0f7a4_29 ?_
            exact z_iret C hr hlk dJ6_stringSize_0f7a4_30 (by decide) (by decide) ⟨4 + 1, rfl, rfl, rfl, by omega, by omega, rfl⟩
        · refine z_iload_n C 0 dJ6_stringSize_0f7a4_27 rfl ?_
          refine z_iload_n C 2 dJ6_stringSize_0f7a4_28 rfl ?_
          refine z_iadd C dJ6_stringSize_0f7a4_29 ?_
          exact z_iret C hr hlk dJ6_stringSize_0f7a4_30 (by decide) (by decide) ⟨3 + 1, rfl, rfl, rfl, by omega, by omega, rfl⟩
      · refine z_iload_n C 0 dJ6_stringSize_0f7a4_27 rfl ?_
        refine z_iload_n C 2 dJ6_stringSize_0f7a4_28 rfl ?_
        refine z_iadd C dJ6_stringSize_0f7a4_29 ?_
        exact z_iret C hr hlk dJ6_stringSize_0f7a4_30 (by decide) (by decide) ⟨2 + 1, rfl, rfl, rfl, by omega, by omega, rfl⟩
    · refine z_iload_n C 0 dJ6_stringSize_0f7a4_27 rfl ?_
      refine z_iload_n C 2 dJ6_stringSize_0f7a4_28 rfl ?_
      refine z_iadd C dJ6_stringSize_0f7a4_29 ?_
      exact z_iret C hr hlk dJ6_stringSize_0f7a4_30 (by decide) (by decide) ⟨1 + 1, rfl, rfl, rfl, by omega, by omega, rfl⟩
  · refine z_iconst (z := 0) C dJ6_stringSize_0f7a4_6 rfl ?_
    refine z_istore_n (lv' := [(1, .int (zI (0))), (0, .int (zI (z)))]) C dJ6_stringSize_0f7a4_7 rfl (by decide) rfl ?_
    refine z_iload_n C 1 dJ6_stringSize_0f7a4_8 rfl ?_
    refine z_ineg C dJ6_stringSize_0f7a4_9 ?_
    refine z_istore_n (lv' := [(0, .int (zI (-(z)))), (1, .int (zI (0)))]) C dJ6_stringSize_0f7a4_10 rfl (by decide) rfl ?_
    refine z_bipush (z := -10) C dJ6_stringSize_0f7a4_11 (by decide) ?_
    refine z_istore_n (lv' := [(2, .int (zI (-10))), (0, .int (zI (-(z)))), (1, .int (zI (0)))]) C dJ6_stringSize_0f7a4_13 rfl (by decide) rfl ?_
    refine z_iconst (z := 1) C dJ6_stringSize_0f7a4_14 rfl ?_
    refine z_istore_n (lv' := [(3, .int (zI (1))), (2, .int (zI (-10))), (0, .int (zI (-(z)))), (1, .int (zI (0)))]) C dJ6_stringSize_0f7a4_15 rfl (by decide) rfl ?_
    refine z_iload_n C 0 dJ6_stringSize_0f7a4_16 rfl ?_
    refine z_bipush (z := 10) C dJ6_stringSize_0f7a4_17 (by decide) ?_
    refine z_icmp_ge (tgt := 42) C dJ6_stringSize_0f7a4_19 (by decide) (by omega) (by omega) (fun h => absurd h (by omega)) (fun _ => ?_)
    refine z_iload_n C 2 dJ6_stringSize_0f7a4_22 rfl ?_
    refine z_iload_n C 1 dJ6_stringSize_0f7a4_23 rfl ?_
    refine z_icmp_le (tgt := 31) C dJ6_stringSize_0f7a4_24 (by decide) (by omega) (by omega) (fun hby11 => ?_) (fun hby11 => ?_)
    · refine z_bipush (z := 10) C dJ6_stringSize_0f7a4_31 (by decide) ?_
      refine z_iload_n C 1 dJ6_stringSize_0f7a4_33 rfl ?_
      refine z_imul C dJ6_stringSize_0f7a4_34 ?_
      refine z_istore_n (lv' := [(2, .int (zI (10 * (-10)))), (3, .int (zI (1))), (0, .int (zI (-(z)))), (1, .int (zI (0)))]) C dJ6_stringSize_0f7a4_35 rfl (by decide) rfl ?_
      refine z_iinc (z := 2) (lv' := [(3, .int (zI (2))), (2, .int (zI (10 * (-10)))), (0, .int (zI (-(z)))), (1, .int (zI (0)))]) (j := 1) C dJ6_stringSize_0f7a4_36 rfl (congrArg zI (by omega)) (by decide) rfl ?_
      refine z_goto (tgt := 16) C dJ6_stringSize_0f7a4_39 (by decide) ?_
      refine z_iload_n C 0 dJ6_stringSize_0f7a4_16 rfl ?_
      refine z_bipush (z := 10) C dJ6_stringSize_0f7a4_17 (by decide) ?_
      refine z_icmp_ge (tgt := 42) C dJ6_stringSize_0f7a4_19 (by decide) (by omega) (by omega) (fun h => absurd h (by omega)) (fun _ => ?_)
      refine z_iload_n C 2 dJ6_stringSize_0f7a4_22 rfl ?_
      refine z_iload_n C 1 dJ6_stringSize_0f7a4_23 rfl ?_
      refine z_icmp_le (tgt := 31) C dJ6_stringSize_0f7a4_24 (by decide) (by omega) (by omega) (fun hby12 => ?_) (fun hby12 => ?_)
      · refine z_bipush (z := 10) C dJ6_stringSize_0f7a4_31 (by decide) ?_
        refine z_iload_n C 1 dJ6_stringSize_0f7a4_33 rfl ?_
        refine z_imul C dJ6_stringSize_0f7a4_34 ?_
        refine z_istore_n (lv' := [(2, .int (zI (10 * (10 * (-10))))), (3, .int (zI (2))), (0, .int (zI (-(z)))), (1, .int (zI (0)))]) C dJ6_stringSize_0f7a4_35 rfl (by decide) rfl ?_
        refine z_iinc (z := 3) (lv' := [(3, .int (zI (3))), (2, .int (zI (10 * (10 * (-10))))), (0, .int (zI (-(z)))), (1, .int (zI (0)))]) (j := 1) C dJ6_stringSize_0f7a4_36 rfl (congrArg zI (by omega)) (by decide) rfl ?_
        refine z_goto (tgt := 16) C dJ6_stringSize_0f7a4_39 (by decide) ?_
        refine z_iload_n C 0 dJ6_stringSize_0f7a4_16 rfl ?_
        refine z_bipush (z := 10) C dJ6_stringSize_0f7a4_17 (by decide) ?_
        refine z_icmp_ge (tgt := 42) C dJ6_stringSize_0f7a4_19 (by decide) (by omega) (by omega) (fun h => absurd h (by omega)) (fun _ => ?_)
        refine z_iload_n C 2 dJ6_stringSize_0f7a4_22 rfl ?_
        refine z_iload_n C 1 dJ6_stringSize_0f7a4_23 rfl ?_
        refine z_icmp_le (tgt := 31) C dJ6_stringSize_0f7a4_24 (by decide) (by omega) (by omega) (fun hby13 => ?_) (fun hby13 => ?_)
        · refine z_bipush (z := 10) C dJ6_stringSize_0f7a4_31 (by decide) ?_
          refine z_iload_n C 1 dJ6_stringSize_0f7a4_33 rfl ?_
          refine z_imul C dJ6_stringSize_0f7a4_34 ?_
          refine z_istore_n (lv' := [(2, .int (zI (10 * (10 * (10 * (-10)))))), (3, .int (zI (3))), (0, .int (zI (-(z)))), (1, .int (zI (0)))]) C dJ6_stringSize_0f7a4_35 rfl (by decide) rfl ?_
          refine z_iinc (z := 4) (lv' := [(3, .int (zI (4))), (2, .int (zI (10 * (10 * (10 * (-10)))))), (0, .int (zI (-(z)))), (1, .int (zI (0)))]) (j := 1) C dJ6_stringSize_0f7a4_36 rfl (congrArg zI (by omega)) (by decide) rfl ?_
          refine z_goto (tgt := 16) C dJ6_stringSize_0f7a4_39 (by decide) ?_
          refine z_iload_n C 0 dJ6_stringSize_0f7a4_16 rfl ?_
          refine z_bipush (z := 10) C dJ6_stringSize_0f7a4_17 (by decide) ?_
          refine z_icmp_ge (tgt := 42) C dJ6_stringSize_0f7a4_19 (by decide) (by omega) (by omega) (fun h => absurd h (by omega)) (fun _ => ?_)
          refine z_iload_n C 2 dJ6_stringSize_0f7a4_22 rfl ?_
          refine z_iload_n C 1 dJ6_stringSize_0f7a4_23 rfl ?_
          refine z_icmp_le (tgt := 31) C dJ6_stringSize_0f7a4_24 (by decide) (by omega) (by omega) (fun hby14 => ?_) (fun hby14 => ?_)
          · refine z_bipush (z := 10) C dJ6_stringSize_0f7a4_31 (by decide) ?_
            refine z_iload_n C 1 dJ6_stringSize_0f7a4_33 rfl ?_
            refine z_imul C dJ6_stringSize_0f7a4_34 ?_
            refine z_istore_n (lv' := [(2, .int (zI (10 * (10 * (10 * (10 * (-10))))))), (3, .int (zI (4))), (0, .int (zI (-(z)))), (1, .int (zI (0)))]) C dJ6_stringSize_0f7a4_35 rfl (by decide) rfl ?_
            refine z_iinc (z := 5) (lv' := [(3, .int (zI (5))), (2, .int (zI (10 * (10 * (10 * (10 * (-10))))))), (0, .int (zI (-(z)))), (1, .int (zI (0)))]) (j := 1) C dJ6_stringSize_0f7a4_36 rfl (congrArg zI (by omega)) (by decide) rfl ?_
            refine z_goto (tgt := 16) C dJ6_stringSize_0f7a4_39 (by decide) ?_
            refine z_iload_n C 0 dJ6_stringSize_0f7a4_16 rfl ?_
            refine z_bipush (z := 10) C dJ6_stringSize_0f7a4_17 (by decide) ?_
            refine z_icmp_ge (tgt := 42) C dJ6_stringSize_0f7a4_19 (by decide) (by omega) (by omega) (fun h => absurd h (by omega)) (fun _ => ?_)
            refine z_iload_n C 2 dJ6_stringSize_0f7a4_22 rfl ?_
            refine z_iload_n C 1 dJ6_stringSize_0f7a4_23 rfl ?_
            refine z_icmp_le (tgt := 31) C dJ6_stringSize_0f7a4_24 (by decide) (by omega) (by omega) (fun hby15 => ?_) (fun hby15 => ?_)
            · refine z_bipush (z := 10) C dJ6_stringSize_0f7a4_31 (by decide) ?_
              refine z_iload_n C 1 dJ6_stringSize_0f7a4_33 rfl ?_
              refine z_imul C dJ6_stringSize_0f7a4_34 ?_
              refine z_istore_n (lv' := [(2, .int (zI (10 * (10 * (10 * (10 * (10 * (-10)))))))), (3, .int (zI (5))), (0, .int (zI (-(z)))), (1, .int (zI (0)))]) C dJ6_stringSize_0f7a4_35 rfl (by decide) rfl ?_
              refine z_iinc (z := 6) (lv' := [(3, .int (zI (6))), (2, .int (zI (10 * (10 * (10 * (10 * (10 * (-10)))))))), (0, .int (zI (-(z)))), (1, .int (zI (0)))]) (j := 1) C dJ6_stringSize_0f7a4_36 rfl (congrArg zI (by omega)) (by decide) rfl ?_
              refine z_goto (tgt := 16) C dJ6_stringSize_0f7a4_39 (by decide) ?_
              refine z_iload_n C 0 dJ6_stringSize_0f7a4_16 rfl ?_
              refine z_bipush (z := 10) C dJ6_stringSize_0f7a4_17 (by decide) ?_
              refine z_icmp_ge (tgt := 42) C dJ6_stringSize_0f7a4_19 (by decide) (by omega) (by omega) (fun h => absurd h (by omega)) (fun _ => ?_)
              refine z_iload_n C 2 dJ6_stringSize_0f7a4_22 rfl ?_
              refine z_iload_n C 1 dJ6_stringSize_0f7a4_23 rfl ?_
              refine z_icmp_le (tgt := 31) C dJ6_stringSize_0f7a4_24 (by decide) (by omega) (by omega) (fun hby16 => ?_) (fun hby16 => ?_)
              · refine z_bipush (z := 10) C dJ6_stringSize_0f7a4_31 (by decide) ?_
                refine z_iload_n C 1 dJ6_stringSize_0f7a4_33 rfl ?_
                refine z_imul C dJ6_stringSize_0f7a4_34 ?_
                refine z_istore_n (lv' := [(2, .int (zI (10 * (10 * (10 * (10 * (10 * (10 * (-10))))))))), (3, .int (zI (6))), (0, .int (zI (-(z)))), (1, .int (zI (0)))]) C dJ6_stringSize_0f7a4_35 rfl (by decide) rfl ?_
                refine z_iinc (z := 7) (lv' := [(3, .int (zI (7))), (2, .int (zI (10 * (10 * (10 * (10 * (10 * (10 * (-10))))))))), (0, .int (zI (-(z)))), (1, .int (zI (0)))]) (j := 1) C dJ6_stringSize_0f7a4_36 rfl (congrArg zI (by omega)) (by decide) rfl ?_
                refine z_goto (tgt := 16) C dJ6_stringSize_0f7a4_39 (by decide) ?_
                refine z_iload_n C 0 dJ6_stringSize_0f7a4_16 rfl ?_
                refine z_bipush (z := 10) C dJ6_stringSize_0f7a4_17 (by decide) ?_
                refine z_icmp_ge (tgt := 42) C dJ6_stringSize_0f7a4_19 (by decide) (by omega) (by omega) (fun h => absurd h (by omega)) (fun _ => ?_)
                refine z_iload_n C 2 dJ6_stringSize_0f7a4_22 rfl ?_
                refine z_iload_n C 1 dJ6_stringSize_0f7a4_23 rfl ?_
                refine z_icmp_le (tgt := 31) C dJ6_stringSize_0f7a4_24 (by decide) (by omega) (by omega) (fun hby17 => ?_) (fun hby17 => ?_)
                · refine z_bipush (z := 10) C dJ6_stringSize_0f7a4_31 (by decide) ?_
                  refine z_iload_n C 1 dJ6_stringSize_0f7a4_33 rfl ?_
                  refine z_imul C dJ6_stringSize_0f7a4_34 ?_
                  refine z_istore_n (lv' := [(2, .int (zI (10 * (10 * (10 * (10 * (10 * (10 * (10 * (-10)))))))))), (3, .int (zI (7))), (0, .int (zI (-(z)))), (1, .int (zI (0)))]) C dJ6_stringSize_0f7a4_35 rfl (by decide) rfl ?_
                  refine z_iinc (z := 8) (lv' := [(3, .int (zI (8))), (2, .int (zI (10 * (10 * (10 * (10 * (10 * (10 * (10 * (-10)))))))))), (0, .int (zI (-(z)))), (1, .int (zI (0)))]) (j := 1) C dJ6_stringSize_0f7a4_36 rfl (congrArg zI (by omega)) (by decide) rfl ?_
                  refine z_goto (tgt := 16) C dJ6_stringSize_0f7a4_39 (by decide) ?_
                  refine z_iload_n C 0 dJ6_stringSize_0f7a4_16 rfl ?_
                  refine z_bipush (z := 10) C dJ6_stringSize_0f7a4_17 (by decide) ?_
                  refine z_icmp_ge (tgt := 42) C dJ6_stringSize_0f7a4_19 (by decide) (by omega) (by omega) (fun h => absurd h (by omega)) (fun _ => ?_)
                  refine z_iload_n C 2 dJ6_stringSize_0f7a4_22 rfl ?_
                  refine z_iload_n C 1 dJ6_stringSize_0f7a4_23 rfl ?_
                  refine z_icmp_le (tgt := 31) C dJ6_stringSize_0f7a4_24 (by decide) (by omega) (by omega) (fun hby18 => ?_) (fun hby18 => ?_)
                  · refine z_bipush (z := 10) C dJ6_stringSize_0f7a4_31 (by decide) ?_
                    refine z_iload_n C 1 dJ6_stringSize_0f7a4_33 rfl ?_
                    refine z_imul C dJ6_stringSize_0f7a4_34 ?_
                    refine z_istore_n (lv' := [(2, .int (zI (10 * (10 * (10 * (10 * (10 * (10 * (10 * (10 * (-10))))))))))), (3, .int (zI (8))), (0, .int (zI (-(z)))), (1, .int (zI (0)))]) C dJ6_stringSize_0f7a4_35 rfl (by decide) rfl ?_
                    refine z_iinc (z := 9) (lv' := [(3, .int (zI (9))), (2, .int (zI (10 * (10 * (10 * (10 * (10 * (10 * (10 * (10 * (-10))))))))))), (0, .int (zI (-(z)))), (1, .int (zI (0)))]) (j := 1) C dJ6_stringSize_0f7a4_36 rfl (congrArg zI (by omega)) (by decide) rfl ?_
                    refine z_goto (tgt := 16) C dJ6_stringSize_0f7a4_39 (by decide) ?_
                    refine z_iload_n C 0 dJ6_stringSize_0f7a4_16 rfl ?_
                    refine z_bipush (z := 10) C dJ6_stringSize_0f7a4_17 (by decide) ?_
                    refine z_icmp_ge (tgt := 42) C dJ6_stringSize_0f7a4_19 (by decide) (by omega) (by omega) (fun h => absurd h (by omega)) (fun _ => ?_)
                    refine z_iload_n C 2 dJ6_stringSize_0f7a4_22 rfl ?_
                    refine z_iload_n C 1 dJ6_stringSize_0f7a4_23 rfl ?_
                    refine z_icmp_le (tgt := 31) C dJ6_stringSize_0f7a4_24 (by decide) (by omega) (by omega) (fun hby19 => ?_) (fun hby19 => ?_)
                    · refine z_bipush (z := 10) C dJ6_stringSize_0f7a4_31 (by decide) ?_
                      refine z_iload_n C 1 dJ6_stringSize_0f7a4_33 rfl ?_
                      refine z_imul C dJ6_stringSize_0f7a4_34 ?_
                      refine z_istore_n (lv' := [(2, .int (zI (10 * (10 * (10 * (10 * (10 * (10 * (10 * (10 * (10 * (-10)))))))))))), (3, .int (zI (9))), (0, .int (zI (-(z)))), (1, .int (zI (0)))]) C dJ6_stringSize_0f7a4_35 rfl (by decide) rfl ?_
                      refine z_iinc (z := 10) (lv' := [(3, .int (zI (10))), (2, .int (zI (10 * (10 * (10 * (10 * (10 * (10 * (10 * (10 * (10 * (-10)))))))))))), (0, .int (zI (-(z)))), (1, .int (zI (0)))]) (j := 1) C dJ6_stringSize_0f7a4_36 rfl (congrArg zI (by omega)) (by decide) rfl ?_
                      refine z_goto (tgt := 16) C dJ6_stringSize_0f7a4_39 (by decide) ?_
                      refine z_iload_n C 0 dJ6_stringSize_0f7a4_16 rfl ?_
                      refine z_bipush (z := 10) C dJ6_stringSize_0f7a4_17 (by decide) ?_
                      refine z_icmp_ge (tgt := 42) C dJ6_stringSize_0f7a4_19 (by decide) (by omega) (by omega) (fun _ => ?_) (fun h => absurd h (by omega))
                      refine z_bipush (z := 10) C dJ6_stringSize_0f7a4_42 (by decide) ?_
                      refine z_iload_n C 3 dJ6_stringSize_0f7a4_44 rfl ?_
                      refine z_iadd C dJ6_stringSize_0f7a4_45 ?_
                      exact z_iret C hr hlk dJ6_stringSize_0f7a4_46 (by decide) (by decide) ⟨10 + 0, rfl, rfl, rfl, by omega, by omega, rfl⟩
                    · refine z_iload_n C 0 dJ6_stringSize_0f7a4_27 rfl ?_
                      refine z_iload_n C 3 dJ6_stringSize_0f7a4_28 rfl ?_
                      refine z_iadd C dJ6_stringSize_0f7a4_29 ?_
                      exact z_iret C hr hlk dJ6_stringSize_0f7a4_30 (by decide) (by decide) ⟨9 + 0, rfl, rfl, rfl, by omega, by omega, rfl⟩
                  · refine z_iload_n C 0 dJ6_stringSize_0f7a4_27 rfl ?_
                    refine z_iload_n C 3 dJ6_stringSize_0f7a4_28 rfl ?_
                    refine z_iadd C dJ6_stringSize_0f7a4_29 ?_
                    exact z_iret C hr hlk dJ6_stringSize_0f7a4_30 (by decide) (by decide) ⟨8 + 0, rfl, rfl, rfl, by omega, by omega, rfl⟩
                · refine z_iload_n C 0 dJ6_stringSize_0f7a4_27 rfl ?_
                  refine z_iload_n C 3 dJ6_stringSize_0f7a4_28 rfl ?_
                  refine z_iadd C dJ6_stringSize_0f7a4_29 ?_
                  exact z_iret C hr hlk dJ6_stringSize_0f7a4_30 (by decide) (by decide) ⟨7 + 0, rfl, rfl, rfl, by omega, by omega, rfl⟩
              · refine z_iload_n C 0 dJ6_stringSize_0f7a4_27 rfl ?_
                refine z_iload_n C 3 dJ6_stringSize_0f7a4_28 rfl ?_
                refine z_iadd C dJ6_stringSize_0f7a4_29 ?_
                exact z_iret C hr hlk dJ6_stringSize_0f7a4_30 (by decide) (by decide) ⟨6 + 0, rfl, rfl, rfl, by omega, by omega, rfl⟩
            · refine z_iload_n C 0 dJ6_stringSize_0f7a4_27 rfl ?_
              refine z_iload_n C 3 dJ6_stringSize_0f7a4_28 rfl ?_
              refine z_iadd C dJ6_stringSize_0f7a4_29 ?_
              exact z_iret C hr hlk dJ6_stringSize_0f7a4_30 (by decide) (by decide) ⟨5 + 0, rfl, rfl, rfl, by omega, by omega, rfl⟩
          · refine z_iload_n C 0 dJ6_stringSize_0f7a4_27 rfl ?_
            refine z_iload_n C 3 dJ6_stringSize_0f7a4_28 rfl ?_
            refine z_iadd C dJ6_stringSize_0f7a4_29 ?_
            exact z_iret C hr hlk dJ6_stringSize_0f7a4_30 (by decide) (by decide) ⟨4 + 0, rfl, rfl, rfl, by omega, by omega, rfl⟩
        · refine z_iload_n C 0 dJ6_stringSize_0f7a4_27 rfl ?_
          refine z_iload_n C 3 dJ6_stringSize_0f7a4_28 rfl ?_
          refine z_iadd C dJ6_stringSize_0f7a4_29 ?_
          exact z_iret C hr hlk dJ6_stringSize_0f7a4_30 (by decide) (by decide) ⟨3 + 0, rfl, rfl, rfl, by omega, by omega, rfl⟩
      · refine z_iload_n C 0 dJ6_stringSize_0f7a4_27 rfl ?_
        refine z_iload_n C 3 dJ6_stringSize_0f7a4_28 rfl ?_
        refine z_iadd C dJ6_stringSize_0f7a4_29 ?_
        exact z_iret C hr hlk dJ6_stringSize_0f7a4_30 (by decide) (by decide) ⟨2 + 0, rfl, rfl, rfl, by omega, by omega, rfl⟩
    · refine z_iload_n C 0 dJ6_stringSize_0f7a4_27 rfl ?_
      refine z_iload_n C 3 dJ6_stringSize_0f7a4_28 rfl ?_
      refine z_iadd C dJ6_stringSize_0f7a4_29 ?_
      exact z_iret C hr hlk dJ6_stringSize_0f7a4_30 (by decide) (by decide) ⟨1 + 0, rfl, rfl, rfl, by omega, by omega, rfl⟩

set_option maxRecDepth 100000 in
set_option maxHeartbeats 4000000 in
theorem c_getChars (l : Launch) (D : va_G) (A : Nat → Prop) (cs : Nat → ClassId) (tt : Nat) (N : Nat) (ad : Nat → Nat) (g : Nat → va_E) (v cap : Nat) (hv : v < N) (hcap : cap ≤ 1000) (b : Nat → Int) (hby : ∀ j, -128 ≤ b j ∧ b j ≤ 127) (hgv : g v = bA cs cap b) (z : Int) (hz : -2147483648 ≤ z ∧ z ≤ 2147483647) (z1 : Int) (hz1 : z1 ≤ (cap : Int)) (hdg : ((0 ≤ z ∧ ((1 ≤ z1 ∧ -10 < -(z)) ∨ (2 ≤ z1 ∧ -100 < -(z)) ∨ (3 ≤ z1 ∧ -1000 < -(z)) ∨ (4 ≤ z1 ∧ -10000 < -(z)) ∨ (5 ≤ z1 ∧ -100000 < -(z)) ∨ (6 ≤ z1 ∧ -1000000 < -(z)) ∨ (7 ≤ z1 ∧ -10000000 < -(z)) ∨ (8 ≤ z1 ∧ -100000000 < -(z)) ∨ (9 ≤ z1 ∧ -1000000000 < -(z)) ∨ (10 ≤ z1 ∧ -10000000000 < -(z)))) ∨ (z < 0 ∧ ((1 ≤ z1 - 1 ∧ -10 < z) ∨ (2 ≤ z1 - 1 ∧ -100 < z) ∨ (3 ≤ z1 - 1 ∧ -1000 < z) ∨ (4 ≤ z1 - 1 ∧ -10000 < z) ∨ (5 ≤ z1 - 1 ∧ -100000 < z) ∨ (6 ≤ z1 - 1 ∧ -1000000 < z) ∨ (7 ≤ z1 - 1 ∧ -10000000 < z) ∨ (8 ≤ z1 - 1 ∧ -100000000 < z) ∨ (9 ≤ z1 - 1 ∧ -1000000000 < z) ∨ (10 ≤ z1 - 1 ∧ -10000000000 < z))))) : zM l yJ6_getChars_ba4f3 cJ6_getChars_ba4f3 7 (some .int) ({ frames := 1, cells := 0, slots := 0, locals := 60 } : Room) D A cs tt N ad g [.int (zI (z)), .int (zI (z1)), .ref (ad v)] (rI0 N ad fun r g' => (-2147483648 ≤ r ∧ r ≤ 2147483647) ∧ (∃ b' : Nat → Int, (∀ j, -128 ≤ b' j ∧ b' j ≤ 127) ∧ g' v = bA cs cap b') ∧ ∀ j, j ≠ v → g' j = g j) := by
  have hay1 : zAt ad (v) (ad v) := rfl
  refine z_of (by decide) (Nat.le_of_ble_eq_true rfl) ?_
  intro p e s m below meth c C hr hlk hnm
  refine z_lv (lv' := [(0, .int (zI (z))), (1, .int (zI (z1))), (2, .ref (ad v))]) [0, 1, 2] rfl ?_
  have hz1p : 0 ≤ z1 := by omega
  refine z_iload_n C 1 dJ6_getChars_ba4f3_0 rfl ?_
  refine z_istore (lv' := [(5, .int (zI (z1))), (0, .int (zI (z))), (1, .int (zI (z1))), (2, .ref (ad v))]) C dJ6_getChars_ba4f3_1 (by decide) rfl ?_
  refine z_iload_n C 1 dJ6_getChars_ba4f3_3 rfl ?_
  refine z_if_ge (tgt := 11) C dJ6_getChars_ba4f3_4 (by decide) (by omega) (fun hby2 => ?_) (fun hby2 => ?_)
  · refine z_iconst (z := 0) C dJ6_getChars_ba4f3_11 rfl ?_
    refine z_istore (lv' := [(6, .int (zI (0))), (5, .int (zI (z1))), (0, .int (zI (z))), (1, .int (zI (z1))), (2, .ref (ad v))]) C dJ6_getChars_ba4f3_12 (by decide) rfl ?_
    refine z_iload C 0 dJ6_getChars_ba4f3_14 rfl ?_
    refine z_if_ne (tgt := 22) C dJ6_getChars_ba4f3_16 (by decide) (by omega) (fun h => absurd h (by omega)) (fun _ => ?_)
    refine z_iload_n C 2 dJ6_getChars_ba4f3_19 rfl ?_
    refine z_ineg C dJ6_getChars_ba4f3_20 ?_
    refine z_istore_n (lv' := [(0, .int (zI (-(z)))), (6, .int (zI (0))), (5, .int (zI (z1))), (1, .int (zI (z1))), (2, .ref (ad v))]) C dJ6_getChars_ba4f3_21 rfl (by decide) rfl ?_
    have lp : ∀ (n9 : Nat) (i9 : Int) (p9 : Int) (b9 : Nat → Int) (g1 : Nat → va_E), (p9).toNat = n9 → (g1 v = bA cs cap b9) → (∀ j, -128 ≤ b9 j ∧ b9 j ≤ 127) → (∀ j, j ≠ v → g1 j = g j) → ((-2147483648 ≤ i9 ∧ i9 ≤ 0) ∧ 0 ≤ p9 ∧ p9 ≤ (cap : Int)) → (((1 ≤ p9 - 0 ∧ -10 < i9) ∨ (2 ≤ p9 - 0 ∧ -100 < i9) ∨ (3 ≤ p9 - 0 ∧ -1000 < i9) ∨ (4 ≤ p9 - 0 ∧ -10000 < i9) ∨ (5 ≤ p9 - 0 ∧ -100000 < i9) ∨ (6 ≤ p9 - 0 ∧ -1000000 < i9) ∨ (7 ≤ p9 - 0 ∧ -10000000 < i9) ∨ (8 ≤ p9 - 0 ∧ -100000000 < i9) ∨ (9 ≤ p9 - 0 ∧ -1000000000 < i9) ∨ (10 ≤ p9 - 0 ∧ -10000000000 < i9))) → zV p l e ({ frames := 1, cells := 0, slots := 0, locals := 60 } : Room) s m ([.int (zI (z)), .int (zI (z1)), .ref (ad v)] : List Value).toArray below meth c (MQ below (zPost D A (rI0 N ad fun r g' => (-2147483648 ≤ r ∧ r ≤ 2147483647) ∧ (∃ b' : Nat → Int, (∀ j, -128 ≤ b' j ∧ b' j ≤ 127) ∧ g' v = bA cs cap b') ∧ ∀ j, j ≠ v → g' j = g j)) ([.int (zI (z)), .int (zI (z1)), .ref (ad v)] : List Value).toArray s ({ frames := 1, cells := 0, slots := 0, locals := 60 } : Room).cells ({ frames := 1, cells := 0, slots := 0, locals := 60 } : Room).slots A) D A 7 (N) ad g1 (0) (0) 22 [(0, .int (zI (i9))), (5, .int (zI (p9))), (6, .int (zI (0))), (2, .ref (ad v))] [] := by
      intro n9
      induction n9 using Nat.strongRecOn with
      | ind n9 ih =>
        intro i9 p9 b9 g1 hm9 f1 f6 f3 f4 f5
        have hay3 : zAt ad (v) (ad v) := rfl
        refine z_iload_n C 0 dJ6_getChars_ba4f3_22 rfl ?_
        refine z_bipush (z := -100) C dJ6_getChars_ba4f3_23 (by decide) ?_
        refine z_icmp_gt (tgt := 72) C dJ6_getChars_ba4f3_25 (by decide) (by omega) (by omega) (fun hby4 => ?_) (fun hby4 => ?_)
        · refine z_aload_n C 3 dJ6_getChars_ba4f3_72 rfl ?_
          refine z_iinc (z := p9 - 1) (lv' := [(5, .int (zI (p9 - 1))), (0, .int (zI (i9))), (6, .int (zI (0))), (2, .ref (ad v))]) (j := 1) C dJ6_getChars_ba4f3_73 rfl (congrArg zI (by omega)) (by decide) rfl ?_
          refine z_iload C 0 dJ6_getChars_ba4f3_76 rfl ?_
          refine z_getSt C stm1 q_1104 dJ6_getChars_ba4f3_78 ?_
          refine z_iload_n C 1 dJ6_getChars_ba4f3_81 rfl ?_
          refine z_ineg C dJ6_getChars_ba4f3_82 ?_
          obtain ⟨yy5, eyy5, hyy5⟩ := getD_b stv1 (j := (-(i9)).toNat) (by rw [stl1]; omega)
          refine z_stbald (y := yy5) C stm1 ((-(i9)).toNat) (by omega) (by rw [stl1]; omega) (by rw [stl1]; decide) eyy5 dJ6_getChars_ba4f3_83 ?_
          refine z_bast C (by omega) hay3 f1 ((p9 - 1).toNat) (by omega) (by omega) (by omega) (by omega) dJ6_getChars_ba4f3_84 (fun gy6 egy7 => ?_)
          have hgy8 := up_s egy7
          refine z_iload_n C 1 dJ6_getChars_ba4f3_85 rfl ?_
          refine z_bipush (z := -9) C dJ6_getChars_ba4f3_86 (by decide) ?_
          refine z_icmp_ge (tgt := 104) C dJ6_getChars_ba4f3_88 (by decide) (by omega) (by omega) (fun hby9 => ?_) (fun hby9 => ?_)
          · refine z_iload C 2 dJ6_getChars_ba4f3_104 rfl ?_
            refine z_if_eq (tgt := 118) C dJ6_getChars_ba4f3_106 (by decide) (by omega) (fun _ => ?_) (fun h => absurd h (by omega))
            refine z_iload C 0 dJ6_getChars_ba4f3_118 rfl ?_
            exact z_iret C hr hlk dJ6_getChars_ba4f3_120 (by decide) (by decide) ⟨p9 - 1, rfl, rfl, rfl, by omega, ⟨_, (uB f6 (by omega)), hgy8⟩, fun j j1 => by rw [egy7, va_up_ne _ _ (by omega)]; exact f3 j j1⟩
          · refine z_aload_n C 3 dJ6_getChars_ba4f3_91 rfl ?_
            refine z_iinc (z := p9 - 1 - 1) (lv' := [(5, .int (zI (p9 - 1 - 1))), (0, .int (zI (i9))), (6, .int (zI (0))), (2, .ref (ad v))]) (j := 0) C dJ6_getChars_ba4f3_92 rfl (congrArg zI (by omega)) (by decide) rfl ?_
            refine z_iload C 0 dJ6_getChars_ba4f3_95 rfl ?_
            refine z_getSt C stm2 q_1106 dJ6_getChars_ba4f3_97 ?_
            refine z_iload_n C 1 dJ6_getChars_ba4f3_100 rfl ?_
            refine z_ineg C dJ6_getChars_ba4f3_101 ?_
            obtain ⟨yy10, eyy10, hyy10⟩ := getD_b stv2 (j := (-(i9)).toNat) (by rw [stl2]; omega)
            refine z_stbald (y := yy10) C stm2 ((-(i9)).toNat) (by omega) (by rw [stl2]; omega) (by rw [stl2]; decide) eyy10 dJ6_getChars_ba4f3_102 ?_
            refine z_bast C (by omega) hay3 hgy8 ((p9 - 1 - 1).toNat) (by omega) (by omega) (by omega) (by omega) dJ6_getChars_ba4f3_103 (fun gy11 egy12 => ?_)
            have hgy13 := up_s egy12
            refine z_iload C 2 dJ6_getChars_ba4f3_104 rfl ?_
            refine z_if_eq (tgt := 118) C dJ6_getChars_ba4f3_106 (by decide) (by omega) (fun _ => ?_) (fun h => absurd h (by omega))
            refine z_iload C 0 dJ6_getChars_ba4f3_118 rfl ?_
            exact z_iret C hr hlk dJ6_getChars_ba4f3_120 (by decide) (by decide) ⟨p9 - 1 - 1, rfl, rfl, rfl, by omega, ⟨_, (uB (uB f6 (by omega)) (by omega)), hgy13⟩, fun j j1 => by rw [egy12, va_up_ne _ _ (by omega)]; rw [egy7, va_up_ne _ _ (by omega)]; exact f3 j j1⟩
        · refine z_iload_n C 0 dJ6_getChars_ba4f3_28 rfl ?_
          refine z_bipush (z := 100) C dJ6_getChars_ba4f3_29 (by decide) ?_
          refine z_idiv C dJ6_getChars_ba4f3_31 (by omega) (by omega) (by omega) ?_
          obtain ⟨xy14, exy14, hxy14⟩ := tdn (a := i9) (by omega)
          rw [exy14]
          refine z_istore_n (lv' := [(3, .int (zI (xy14))), (0, .int (zI (i9))), (5, .int (zI (p9))), (6, .int (zI (0))), (2, .ref (ad v))]) C dJ6_getChars_ba4f3_32 rfl (by decide) rfl ?_
          refine z_iload_n C 0 dJ6_getChars_ba4f3_33 rfl ?_
          refine z_bipush (z := 100) C dJ6_getChars_ba4f3_34 (by decide) ?_
          refine z_imul C dJ6_getChars_ba4f3_36 ?_
          refine z_iload_n C 1 dJ6_getChars_ba4f3_37 rfl ?_
          refine z_isub C dJ6_getChars_ba4f3_38 ?_
          refine z_istore (lv' := [(4, .int (zI ((xy14 * 100) - i9))), (3, .int (zI (xy14))), (0, .int (zI (i9))), (5, .int (zI (p9))), (6, .int (zI (0))), (2, .ref (ad v))]) C dJ6_getChars_ba4f3_39 (by decide) rfl ?_
          refine z_iload_n C 1 dJ6_getChars_ba4f3_41 rfl ?_
          refine z_istore_n (lv' := [(0, .int (zI (xy14))), (4, .int (zI ((xy14 * 100) - i9))), (3, .int (zI (xy14))), (5, .int (zI (p9))), (6, .int (zI (0))), (2, .ref (ad v))]) C dJ6_getChars_ba4f3_42 rfl (by decide) rfl ?_
          refine z_aload_n C 5 dJ6_getChars_ba4f3_43 rfl ?_
          refine z_iinc (z := p9 - 1) (lv' := [(5, .int (zI (p9 - 1))), (0, .int (zI (xy14))), (4, .int (zI ((xy14 * 100) - i9))), (3, .int (zI (xy14))), (6, .int (zI (0))), (2, .ref (ad v))]) (j := 3) C dJ6_getChars_ba4f3_44 rfl (congrArg zI (by omega)) (by decide) rfl ?_
          refine z_iload C 0 dJ6_getChars_ba4f3_47 rfl ?_
          refine z_getSt C stm1 q_1104 dJ6_getChars_ba4f3_49 ?_
          refine z_iload C 2 dJ6_getChars_ba4f3_52 rfl ?_
          obtain ⟨yy15, eyy15, hyy15⟩ := getD_b stv1 (j := ((xy14 * 100) - i9).toNat) (by rw [stl1]; omega)
          refine z_stbald (y := yy15) C stm1 (((xy14 * 100) - i9).toNat) (by omega) (by rw [stl1]; omega) (by rw [stl1]; decide) eyy15 dJ6_getChars_ba4f3_54 ?_
          refine z_bast C (by omega) hay3 f1 ((p9 - 1).toNat) (by omega) (by omega) (by omega) (by omega) dJ6_getChars_ba4f3_55 (fun gy16 egy17 => ?_)
          have hgy18 := up_s egy17
          refine z_aload_n C 5 dJ6_getChars_ba4f3_56 rfl ?_
          refine z_iinc (z := p9 - 1 - 1) (lv' := [(5, .int (zI (p9 - 1 - 1))), (0, .int (zI (xy14))), (4, .int (zI ((xy14 * 100) - i9))), (3, .int (zI (xy14))), (6, .int (zI (0))), (2, .ref (ad v))]) (j := 0) C dJ6_getChars_ba4f3_57 rfl (congrArg zI (by omega)) (by decide) rfl ?_
          refine z_iload C 0 dJ6_getChars_ba4f3_60 rfl ?_
          refine z_getSt C stm2 q_1106 dJ6_getChars_ba4f3_62 ?_
          refine z_iload C 2 dJ6_getChars_ba4f3_65 rfl ?_
          obtain ⟨yy19, eyy19, hyy19⟩ := getD_b stv2 (j := ((xy14 * 100) - i9).toNat) (by rw [stl2]; omega)
          refine z_stbald (y := yy19) C stm2 (((xy14 * 100) - i9).toNat) (by omega) (by rw [stl2]; omega) (by rw [stl2]; decide) eyy19 dJ6_getChars_ba4f3_67 ?_
          refine z_bast C (by omega) hay3 hgy18 ((p9 - 1 - 1).toNat) (by omega) (by omega) (by omega) (by omega) dJ6_getChars_ba4f3_68 (fun gy20 egy21 => ?_)
          have hgy22 := up_s egy21
          refine z_goto (tgt := 22) C dJ6_getChars_ba4f3_69 (by decide) ?_
          refine z_lv (lv' := [(0, .int (zI (xy14))), (5, .int (zI (p9 - 1 - 1))), (6, .int (zI (0))), (2, .ref (ad v))]) [1, 0, 4, 5] rfl ?_
          exact ih _ (by omega) (xy14) (p9 - 1 - 1) _ gy20 rfl hgy22 (uB (uB f6 (by omega)) (by omega)) (fun j j1 => by rw [egy21, va_up_ne _ _ (by omega)]; rw [egy17, va_up_ne _ _ (by omega)]; exact f3 j j1) (by omega) (by omega)
    refine z_lv (lv' := [(0, .int (zI (-(z)))), (5, .int (zI (z1))), (6, .int (zI (0))), (2, .ref (ad v))]) [0, 2, 1, 4] rfl ?_
    exact lp _ (-(z)) (z1) _ g rfl hgv hby (fun j j1 => by rfl) (by omega) (by omega)
  · refine z_iconst (z := 1) C dJ6_getChars_ba4f3_7 rfl ?_
    refine z_goto (tgt := 12) C dJ6_getChars_ba4f3_8 (by decide) ?_
    refine z_istore (lv' := [(6, .int (zI (1))), (5, .int (zI (z1))), (0, .int (zI (z))), (1, .int (zI (z1))), (2, .ref (ad v))]) C dJ6_getChars_ba4f3_12 (by decide) rfl ?_
    refine z_iload C 0 dJ6_getChars_ba4f3_14 rfl ?_
    refine z_if_ne (tgt := 22) C dJ6_getChars_ba4f3_16 (by decide) (by omega) (fun _ => ?_) (fun h => absurd h (by omega))
    have lp : ∀ (n9 : Nat) (i9 : Int) (p9 : Int) (b9 : Nat → Int) (g1 : Nat → va_E), (p9).toNat = n9 → (g1 v = bA cs cap b9) → (∀ j, -128 ≤ b9 j ∧ b9 j ≤ 127) → (∀ j, j ≠ v → g1 j = g j) → ((-2147483648 ≤ i9 ∧ i9 ≤ 0) ∧ 0 ≤ p9 ∧ p9 ≤ (cap : Int)) → (((1 ≤ p9 - 1 ∧ -10 < i9) ∨ (2 ≤ p9 - 1 ∧ -100 < i9) ∨ (3 ≤ p9 - 1 ∧ -1000 < i9) ∨ (4 ≤ p9 - 1 ∧ -10000 < i9) ∨ (5 ≤ p9 - 1 ∧ -100000 < i9) ∨ (6 ≤ p9 - 1 ∧ -1000000 < i9) ∨ (7 ≤ p9 - 1 ∧ -10000000 < i9) ∨ (8 ≤ p9 - 1 ∧ -100000000 < i9) ∨ (9 ≤ p9 - 1 ∧ -1000000000 < i9) ∨ (10 ≤ p9 - 1 ∧ -10000000000 < i9))) → zV p l e ({ frames := 1, cells := 0, slots := 0, locals := 60 } : Room) s m ([.int (zI (z)), .int (zI (z1)), .ref (ad v)] : List Value).toArray below meth c (MQ below (zPost D A (rI0 N ad fun r g' => (-2147483648 ≤ r ∧ r ≤ 2147483647) ∧ (∃ b' : Nat → Int, (∀ j, -128 ≤ b' j ∧ b' j ≤ 127) ∧ g' v = bA cs cap b') ∧ ∀ j, j ≠ v → g' j = g j)) ([.int (zI (z)), .int (zI (z1)), .ref (ad v)] : List Value).toArray s ({ frames := 1, cells := 0, slots := 0, locals := 60 } : Room).cells ({ frames := 1, cells := 0, slots := 0, locals := 60 } : Room).slots A) D A 7 (N) ad g1 (0) (0) 22 [(0, .int (zI (i9))), (5, .int (zI (p9))), (6, .int (zI (1))), (2, .ref (ad v))] [] := by
      intro n9
      induction n9 using Nat.strongRecOn with
      | ind n9 ih =>
        intro i9 p9 b9 g1 hm9 f1 f6 f3 f4 f5
        have hay23 : zAt ad (v) (ad v) := rfl
        refine z_iload_n C 0 dJ6_getChars_ba4f3_22 rfl ?_
        refine z_bipush (z := -100) C dJ6_getChars_ba4f3_23 (by decide) ?_
        refine z_icmp_gt (tgt := 72) C dJ6_getChars_ba4f3_25 (by decide) (by omega) (by omega) (fun hby24 => ?_) (fun hby24 => ?_)
        · refine z_aload_n C 3 dJ6_getChars_ba4f3_72 rfl ?_
          refine z_iinc (z := p9 - 1) (lv' := [(5, .int (zI (p9 - 1))), (0, .int (zI (i9))), (6, .int (zI (1))), (2, .ref (ad v))]) (j := 1) C dJ6_getChars_ba4f3_73 rfl (congrArg zI (by omega)) (by decide) rfl ?_
          refine z_iload C 0 dJ6_getChars_ba4f3_76 rfl ?_
          refine z_getSt C stm1 q_1104 dJ6_getChars_ba4f3_78 ?_
          refine z_iload_n C 1 dJ6_getChars_ba4f3_81 rfl ?_
          refine z_ineg C dJ6_getChars_ba4f3_82 ?_
          obtain ⟨yy25, eyy25, hyy25⟩ := getD_b stv1 (j := (-(i9)).toNat) (by rw [stl1]; omega)
          refine z_stbald (y := yy25) C stm1 ((-(i9)).toNat) (by omega) (by rw [stl1]; omega) (by rw [stl1]; decide) eyy25 dJ6_getChars_ba4f3_83 ?_
          refine z_bast C (by omega) hay23 f1 ((p9 - 1).toNat) (by omega) (by omega) (by omega) (by omega) dJ6_getChars_ba4f3_84 (fun gy26 egy27 => ?_)
          have hgy28 := up_s egy27
          refine z_iload_n C 1 dJ6_getChars_ba4f3_85 rfl ?_
          refine z_bipush (z := -9) C dJ6_getChars_ba4f3_86 (by decide) ?_
          refine z_icmp_ge (tgt := 104) C dJ6_getChars_ba4f3_88 (by decide) (by omega) (by omega) (fun hby29 => ?_) (fun hby29 => ?_)
          · refine z_iload C 2 dJ6_getChars_ba4f3_104 rfl ?_
            refine z_if_eq (tgt := 118) C dJ6_getChars_ba4f3_106 (by decide) (by omega) (fun h => absurd h (by omega)) (fun _ => ?_)
            refine z_aload_n C 3 dJ6_getChars_ba4f3_109 rfl ?_
            refine z_iinc (z := p9 - 1 - 1) (lv' := [(5, .int (zI (p9 - 1 - 1))), (0, .int (zI (i9))), (6, .int (zI (1))), (2, .ref (ad v))]) (j := 0) C dJ6_getChars_ba4f3_110 rfl (congrArg zI (by omega)) (by decide) rfl ?_
            refine z_iload C 0 dJ6_getChars_ba4f3_113 rfl ?_
            refine z_bipush (z := 45) C dJ6_getChars_ba4f3_115 (by decide) ?_
            refine z_bast C (by omega) hay23 hgy28 ((p9 - 1 - 1).toNat) (by omega) (by omega) (by omega) (by omega) dJ6_getChars_ba4f3_117 (fun gy30 egy31 => ?_)
            have hgy32 := up_s egy31
            refine z_iload C 0 dJ6_getChars_ba4f3_118 rfl ?_
            exact z_iret C hr hlk dJ6_getChars_ba4f3_120 (by decide) (by decide) ⟨p9 - 1 - 1, rfl, rfl, rfl, by omega, ⟨_, (uB (uB f6 (by omega)) (by omega)), hgy32⟩, fun j j1 => by rw [egy31, va_up_ne _ _ (by omega)]; rw [egy27, va_up_ne _ _ (by omega)]; exact f3 j j1⟩
          · refine z_aload_n C 3 dJ6_getChars_ba4f3_91 rfl ?_
            refine z_iinc (z := p9 - 1 - 1) (lv' := [(5, .int (zI (p9 - 1 - 1))), (0, .int (zI (i9))), (6, .int (zI (1))), (2, .ref (ad v))]) (j := 0) C dJ6_getChars_ba4f3_92 rfl (congrArg zI (by omega)) (by decide) rfl ?_
            refine z_iload C 0 dJ6_getChars_ba4f3_95 rfl ?_
            refine z_getSt C stm2 q_1106 dJ6_getChars_ba4f3_97 ?_
            refine z_iload_n C 1 dJ6_getChars_ba4f3_100 rfl ?_
            refine z_ineg C dJ6_getChars_ba4f3_101 ?_
            obtain ⟨yy33, eyy33, hyy33⟩ := getD_b stv2 (j := (-(i9)).toNat) (by rw [stl2]; omega)
            refine z_stbald (y := yy33) C stm2 ((-(i9)).toNat) (by omega) (by rw [stl2]; omega) (by rw [stl2]; decide) eyy33 dJ6_getChars_ba4f3_102 ?_
            refine z_bast C (by omega) hay23 hgy28 ((p9 - 1 - 1).toNat) (by omega) (by omega) (by omega) (by omega) dJ6_getChars_ba4f3_103 (fun gy34 egy35 => ?_)
            have hgy36 := up_s egy35
            refine z_iload C 2 dJ6_getChars_ba4f3_104 rfl ?_
            refine z_if_eq (tgt := 118) C dJ6_getChars_ba4f3_106 (by decide) (by omega) (fun h => absurd h (by omega)) (fun _ => ?_)
            refine z_aload_n C 3 dJ6_getChars_ba4f3_109 rfl ?_
            refine z_iinc (z := p9 - 1 - 1 - 1) (lv' := [(5, .int (zI (p9 - 1 - 1 - 1))), (0, .int (zI (i9))), (6, .int (zI (1))), (2, .ref (ad v))]) (j := 0) C dJ6_getChars_ba4f3_110 rfl (congrArg zI (by omega)) (by decide) rfl ?_
            refine z_iload C 0 dJ6_getChars_ba4f3_113 rfl ?_
            refine z_bipush (z := 45) C dJ6_getChars_ba4f3_115 (by decide) ?_
            refine z_bast C (by omega) hay23 hgy36 ((p9 - 1 - 1 - 1).toNat) (by omega) (by omega) (by omega) (by omega) dJ6_getChars_ba4f3_117 (fun gy37 egy38 => ?_)
            have hgy39 := up_s egy38
            refine z_iload C 0 dJ6_getChars_ba4f3_118 rfl ?_
            exact z_iret C hr hlk dJ6_getChars_ba4f3_120 (by decide) (by decide) ⟨p9 - 1 - 1 - 1, rfl, rfl, rfl, by omega, ⟨_, (uB (uB (uB f6 (by omega)) (by omega)) (by omega)), hgy39⟩, fun j j1 => by rw [egy38, va_up_ne _ _ (by omega)]; rw [egy35, va_up_ne _ _ (by omega)]; rw [egy27, va_up_ne _ _ (by omega)]; exact f3 j j1⟩
        · refine z_iload_n C 0 dJ6_getChars_ba4f3_28 rfl ?_
          refine z_bipush (z := 100) C dJ6_getChars_ba4f3_29 (by decide) ?_
          refine z_idiv C dJ6_getChars_ba4f3_31 (by omega) (by omega) (by omega) ?_
          obtain ⟨xy40, exy40, hxy40⟩ := tdn (a := i9) (by omega)
          rw [exy40]
          refine z_istore_n (lv' := [(3, .int (zI (xy40))), (0, .int (zI (i9))), (5, .int (zI (p9))), (6, .int (zI (1))), (2, .ref (ad v))]) C dJ6_getChars_ba4f3_32 rfl (by decide) rfl ?_
          refine z_iload_n C 0 dJ6_getChars_ba4f3_33 rfl ?_
          refine z_bipush (z := 100) C dJ6_getChars_ba4f3_34 (by decide) ?_
          refine z_imul C dJ6_getChars_ba4f3_36 ?_
          refine z_iload_n C 1 dJ6_getChars_ba4f3_37 rfl ?_
          refine z_isub C dJ6_getChars_ba4f3_38 ?_
          refine z_istore (lv' := [(4, .int (zI ((xy40 * 100) - i9))), (3, .int (zI (xy40))), (0, .int (zI (i9))), (5, .int (zI (p9))), (6, .int (zI (1))), (2, .ref (ad v))]) C dJ6_getChars_ba4f3_39 (by decide) rfl ?_
          refine z_iload_n C 1 dJ6_getChars_ba4f3_41 rfl ?_
          refine z_istore_n (lv' := [(0, .int (zI (xy40))), (4, .int (zI ((xy40 * 100) - i9))), (3, .int (zI (xy40))), (5, .int (zI (p9))), (6, .int (zI (1))), (2, .ref (ad v))]) C dJ6_getChars_ba4f3_42 rfl (by decide) rfl ?_
          refine z_aload_n C 5 dJ6_getChars_ba4f3_43 rfl ?_
          refine z_iinc (z := p9 - 1) (lv' := [(5, .int (zI (p9 - 1))), (0, .int (zI (xy40))), (4, .int (zI ((xy40 * 100) - i9))), (3, .int (zI (xy40))), (6, .int (zI (1))), (2, .ref (ad v))]) (j := 3) C dJ6_getChars_ba4f3_44 rfl (congrArg zI (by omega)) (by decide) rfl ?_
          refine z_iload C 0 dJ6_getChars_ba4f3_47 rfl ?_
          refine z_getSt C stm1 q_1104 dJ6_getChars_ba4f3_49 ?_
          refine z_iload C 2 dJ6_getChars_ba4f3_52 rfl ?_
          obtain ⟨yy41, eyy41, hyy41⟩ := getD_b stv1 (j := ((xy40 * 100) - i9).toNat) (by rw [stl1]; omega)
          refine z_stbald (y := yy41) C stm1 (((xy40 * 100) - i9).toNat) (by omega) (by rw [stl1]; omega) (by rw [stl1]; decide) eyy41 dJ6_getChars_ba4f3_54 ?_
          refine z_bast C (by omega) hay23 f1 ((p9 - 1).toNat) (by omega) (by omega) (by omega) (by omega) dJ6_getChars_ba4f3_55 (fun gy42 egy43 => ?_)
          have hgy44 := up_s egy43
          refine z_aload_n C 5 dJ6_getChars_ba4f3_56 rfl ?_
          refine z_iinc (z := p9 - 1 - 1) (lv' := [(5, .int (zI (p9 - 1 - 1))), (0, .int (zI (xy40))), (4, .int (zI ((xy40 * 100) - i9))), (3, .int (zI (xy40))), (6, .int (zI (1))), (2, .ref (ad v))]) (j := 0) C dJ6_getChars_ba4f3_57 rfl (congrArg zI (by omega)) (by decide) rfl ?_
          refine z_iload C 0 dJ6_getChars_ba4f3_60 rfl ?_
          refine z_getSt C stm2 q_1106 dJ6_getChars_ba4f3_62 ?_
          refine z_iload C 2 dJ6_getChars_ba4f3_65 rfl ?_
          obtain ⟨yy45, eyy45, hyy45⟩ := getD_b stv2 (j := ((xy40 * 100) - i9).toNat) (by rw [stl2]; omega)
          refine z_stbald (y := yy45) C stm2 (((xy40 * 100) - i9).toNat) (by omega) (by rw [stl2]; omega) (by rw [stl2]; decide) eyy45 dJ6_getChars_ba4f3_67 ?_
          refine z_bast C (by omega) hay23 hgy44 ((p9 - 1 - 1).toNat) (by omega) (by omega) (by omega) (by omega) dJ6_getChars_ba4f3_68 (fun gy46 egy47 => ?_)
          have hgy48 := up_s egy47
          refine z_goto (tgt := 22) C dJ6_getChars_ba4f3_69 (by decide) ?_
          refine z_lv (lv' := [(0, .int (zI (xy40))), (5, .int (zI (p9 - 1 - 1))), (6, .int (zI (1))), (2, .ref (ad v))]) [1, 0, 4, 5] rfl ?_
          exact ih _ (by omega) (xy40) (p9 - 1 - 1) _ gy46 rfl hgy48 (uB (uB f6 (by omega)) (by omega)) (fun j j1 => by rw [egy47, va_up_ne _ _ (by omega)]; rw [egy43, va_up_ne _ _ (by omega)]; exact f3 j j1) (by omega) (by omega)
    refine z_lv (lv' := [(0, .int (zI (z))), (5, .int (zI (z1))), (6, .int (zI (1))), (2, .ref (ad v))]) [2, 1, 0, 4] rfl ?_
    exact lp _ (z) (z1) _ g rfl hgv hby (fun j j1 => by rfl) (by omega) (by omega)
end
