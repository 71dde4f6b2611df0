section
-- 50.words.lean.txt
-- words of acts
theorem q_1329 : (Jvm.Cond.methodLink "SnowRecorder" (356 : Nat) ({ cls := "SnowRecorder$Pack", name := "namesIn", desc := "(LSnowRecorder$Pack;)I" } : Jvm.MethodName)) ∈ AW := AW_m6 129 (by decide +kernel) (by decide +kernel)
theorem q_1330 : (Jvm.Cond.instanceMethod ({ cls := "SnowRecorder$Pack", name := "namesIn", desc := "(LSnowRecorder$Pack;)I" } : Jvm.MethodName)) ∈ AW := AW_m6 130 (by decide +kernel) (by decide +kernel)
theorem q_1331 : (Jvm.Cond.selects "SnowRecorder$Pack" ({ cls := "SnowRecorder$Pack", name := "namesIn", desc := "(LSnowRecorder$Pack;)I" } : Jvm.MethodName) ({ cls := "SnowRecorder$Pack", name := "namesIn", desc := "(LSnowRecorder$Pack;)I" } : Jvm.MethodName)) ∈ AW := AW_m6 131 (by decide +kernel) (by decide +kernel)
theorem q_1332 : (Jvm.Cond.code ({ cls := "SnowRecorder$Pack", name := "namesIn", desc := "(LSnowRecorder$Pack;)I" } : Jvm.MethodName) prog_5_method_9_code (4 : Nat) (Option.some Jvm.ClassFile.FieldType.int)) ∈ AW := AW_m6 132 (by decide +kernel) (by decide +kernel)
theorem q_1334 : (Jvm.Cond.methodLink "SnowRecorder" (360 : Nat) ({ cls := "SnowRecorder$Likeness", name := "longestRow", desc := "(LSnowRecorder$Pack;LSnowRecorder$Pack;)I" } : Jvm.MethodName)) ∈ AW := AW_m6 134 (by decide +kernel) (by decide +kernel)
theorem q_1335 : (Jvm.Cond.instanceMethod ({ cls := "SnowRecorder$Likeness", name := "longestRow", desc := "(LSnowRecorder$Pack;LSnowRecorder$Pack;)I" } : Jvm.MethodName)) ∈ AW := AW_m6 135 (by decide +kernel) (by decide +kernel)
theorem q_1336 : (Jvm.Cond.selects "SnowRecorder$Likeness" ({ cls := "SnowRecorder$Likeness", name := "longestRow", desc := "(LSnowRecorder$Pack;LSnowRecorder$Pack;)I" } : Jvm.MethodName) ({ cls := "SnowRecorder$Likeness", name := "longestRow", desc := "(LSnowRecorder$Pack;LSnowRecorder$Pack;)I" } : Jvm.MethodName)) ∈ AW := AW_m6 136 (by decide +kernel) (by decide +kernel)
theorem q_1337 : (Jvm.Cond.code ({ cls := "SnowRecorder$Likeness", name := "longestRow", desc := "(LSnowRecorder$Pack;LSnowRecorder$Pack;)I" } : Jvm.MethodName) prog_3_method_2_code (8 : Nat) (Option.some Jvm.ClassFile.FieldType.int)) ∈ AW := AW_m6 137 (by decide +kernel) (by decide +kernel)
theorem q_1339 : (Jvm.Cond.methodLink "SnowRecorder" (364 : Nat) ({ cls := "SnowRecorder$Likeness", name := "fewestSteps", desc := "(LSnowRecorder$Pack;LSnowRecorder$Pack;)I" } : Jvm.MethodName)) ∈ AW := AW_m6 139 (by decide +kernel) (by decide +kernel)
theorem q_1340 : (Jvm.Cond.instanceMethod ({ cls := "SnowRecorder$Likeness", name := "fewestSteps", desc := "(LSnowRecorder$Pack;LSnowRecorder$Pack;)I" } : Jvm.MethodName)) ∈ AW := AW_m6 140 (by decide +kernel) (by decide +kernel)
theorem q_1341 : (Jvm.Cond.selects "SnowRecorder$Likeness" ({ cls := "SnowRecorder$Likeness", name := "fewestSteps", desc := "(LSnowRecorder$Pack;LSnowRecorder$Pack;)I" } : Jvm.MethodName) ({ cls := "SnowRecorder$Likeness", name := "fewestSteps", desc := "(LSnowRecorder$Pack;LSnowRecorder$Pack;)I" } : Jvm.MethodName)) ∈ AW := AW_m6 141 (by decide +kernel) (by decide +kernel)
theorem q_1342 : (Jvm.Cond.code ({ cls := "SnowRecorder$Likeness", name := "fewestSteps", desc := "(LSnowRecorder$Pack;LSnowRecorder$Pack;)I" } : Jvm.MethodName) prog_3_method_3_code (9 : Nat) (Option.some Jvm.ClassFile.FieldType.int)) ∈ AW := AW_m6 142 (by decide +kernel) (by decide +kernel)
theorem q_1344 : (Jvm.Cond.methodLink "SnowRecorder" (367 : Nat) ({ cls := "SnowRecorder", name := "isSameWeakest", desc := "(LSnowRecorder$Pit;LSnowRecorder$Pit;)Z" } : Jvm.MethodName)) ∈ AW := AW_m6 144 (by decide +kernel) (by decide +kernel)
theorem q_1346 : (Jvm.Cond.instanceMethod ({ cls := "SnowRecorder", name := "isSameWeakest", desc := "(LSnowRecorder$Pit;LSnowRecorder$Pit;)Z" } : Jvm.MethodName)) ∈ AW := AW_m6 146 (by decide +kernel) (by decide +kernel)
theorem q_1347 : (Jvm.Cond.code ({ cls := "SnowRecorder", name := "isSameWeakest", desc := "(LSnowRecorder$Pit;LSnowRecorder$Pit;)Z" } : Jvm.MethodName) prog_1_method_50_code (5 : Nat) (Option.some Jvm.ClassFile.FieldType.boolean)) ∈ AW := AW_m6 147 (by decide +kernel) (by decide +kernel)
theorem q_396 : (Jvm.Cond.methodLink "SnowRecorder" (82 : Nat) ({ cls := "SnowRecorder", name := "putBytes", desc := "(I)V" } : Jvm.MethodName)) ∈ AW := AW_m2 156 (by decide +kernel) (by decide +kernel)
theorem q_398 : (Jvm.Cond.instanceMethod ({ cls := "SnowRecorder", name := "putBytes", desc := "(I)V" } : Jvm.MethodName)) ∈ AW := AW_m2 158 (by decide +kernel) (by decide +kernel)
theorem q_399 : (Jvm.Cond.code ({ cls := "SnowRecorder", name := "putBytes", desc := "(I)V" } : Jvm.MethodName) prog_1_method_35_code (3 : Nat) (Option.none : Option Jvm.ClassFile.FieldType)) ∈ AW := AW_m2 159 (by decide +kernel) (by decide +kernel)
theorem q_408 : (Jvm.Cond.methodLink "SnowRecorder" (255 : Nat) ({ cls := "SnowRecorder", name := "refuse", desc := "(I)I" } : Jvm.MethodName)) ∈ AW := AW_m2 168 (by decide +kernel) (by decide +kernel)
theorem q_410 : (Jvm.Cond.instanceMethod ({ cls := "SnowRecorder", name := "refuse", desc := "(I)I" } : Jvm.MethodName)) ∈ AW := AW_m2 170 (by decide +kernel) (by decide +kernel)
theorem q_411 : (Jvm.Cond.code ({ cls := "SnowRecorder", name := "refuse", desc := "(I)I" } : Jvm.MethodName) prog_1_method_36_code (2 : Nat) (Option.some Jvm.ClassFile.FieldType.int)) ∈ AW := AW_m2 171 (by decide +kernel) (by decide +kernel)
theorem q_412 : (Jvm.Cond.methodLink "SnowRecorder" (258 : Nat) ({ cls := "SnowRecorder$State", name := "keepAct", desc := "()V" } : Jvm.MethodName)) ∈ AW := AW_m2 172 (by decide +kernel) (by decide +kernel)
theorem q_413 : (Jvm.Cond.instanceMethod ({ cls := "SnowRecorder$State", name := "keepAct", desc := "()V" } : Jvm.MethodName)) ∈ AW := AW_m2 173 (by decide +kernel) (by decide +kernel)
theorem q_414 : (Jvm.Cond.selects "SnowRecorder$State" ({ cls := "SnowRecorder$State", name := "keepAct", desc := "()V" } : Jvm.MethodName) ({ cls := "SnowRecorder$State", name := "keepAct", desc := "()V" } : Jvm.MethodName)) ∈ AW := AW_m2 174 (by decide +kernel) (by decide +kernel)
theorem q_415 : (Jvm.Cond.code ({ cls := "SnowRecorder$State", name := "keepAct", desc := "()V" } : Jvm.MethodName) prog_8_method_4_code (1 : Nat) (Option.none : Option Jvm.ClassFile.FieldType)) ∈ AW := AW_m2 175 (by decide +kernel) (by decide +kernel)
theorem q_541 : (Jvm.Cond.methodLink "SnowRecorder" (272 : Nat) ({ cls := "SnowRecorder", name := "comesByHand", desc := "(II)Z" } : Jvm.MethodName)) ∈ AW := AW_m3 61 (by decide +kernel) (by decide +kernel)
theorem q_543 : (Jvm.Cond.instanceMethod ({ cls := "SnowRecorder", name := "comesByHand", desc := "(II)Z" } : Jvm.MethodName)) ∈ AW := AW_m3 63 (by decide +kernel) (by decide +kernel)
theorem q_544 : (Jvm.Cond.code ({ cls := "SnowRecorder", name := "comesByHand", desc := "(II)Z" } : Jvm.MethodName) prog_1_method_45_code (3 : Nat) (Option.some Jvm.ClassFile.FieldType.boolean)) ∈ AW := AW_m3 64 (by decide +kernel) (by decide +kernel)
theorem q_602 : (Jvm.Cond.methodLink "SnowRecorder" (294 : Nat) ({ cls := "SnowRecorder$State", name := "keepPit", desc := "(I)V" } : Jvm.MethodName)) ∈ AW := AW_m3 122 (by decide +kernel) (by decide +kernel)
theorem q_603 : (Jvm.Cond.instanceMethod ({ cls := "SnowRecorder$State", name := "keepPit", desc := "(I)V" } : Jvm.MethodName)) ∈ AW := AW_m3 123 (by decide +kernel) (by decide +kernel)
theorem q_604 : (Jvm.Cond.selects "SnowRecorder$State" ({ cls := "SnowRecorder$State", name := "keepPit", desc := "(I)V" } : Jvm.MethodName) ({ cls := "SnowRecorder$State", name := "keepPit", desc := "(I)V" } : Jvm.MethodName)) ∈ AW := AW_m3 124 (by decide +kernel) (by decide +kernel)
theorem q_605 : (Jvm.Cond.code ({ cls := "SnowRecorder$State", name := "keepPit", desc := "(I)V" } : Jvm.MethodName) prog_8_method_7_code (3 : Nat) (Option.none : Option Jvm.ClassFile.FieldType)) ∈ AW := AW_m3 125 (by decide +kernel) (by decide +kernel)
theorem q_611 : (Jvm.Cond.methodLink "SnowRecorder" (297 : Nat) ({ cls := "SnowRecorder$State", name := "takeBack", desc := "()V" } : Jvm.MethodName)) ∈ AW := AW_m3 131 (by decide +kernel) (by decide +kernel)
theorem q_612 : (Jvm.Cond.instanceMethod ({ cls := "SnowRecorder$State", name := "takeBack", desc := "()V" } : Jvm.MethodName)) ∈ AW := AW_m3 132 (by decide +kernel) (by decide +kernel)
theorem q_613 : (Jvm.Cond.selects "SnowRecorder$State" ({ cls := "SnowRecorder$State", name := "takeBack", desc := "()V" } : Jvm.MethodName) ({ cls := "SnowRecorder$State", name := "takeBack", desc := "()V" } : Jvm.MethodName)) ∈ AW := AW_m3 133 (by decide +kernel) (by decide +kernel)
theorem q_614 : (Jvm.Cond.code ({ cls := "SnowRecorder$State", name := "takeBack", desc := "()V" } : Jvm.MethodName) prog_8_method_6_code (1 : Nat) (Option.none : Option Jvm.ClassFile.FieldType)) ∈ AW := AW_m3 134 (by decide +kernel) (by decide +kernel)
theorem q_619 : (Jvm.Cond.methodLink "SnowRecorder" (373 : Nat) ({ cls := "SnowRecorder$Notes", name := "add", desc := "(III)V" } : Jvm.MethodName)) ∈ AW := AW_m3 139 (by decide +kernel) (by decide +kernel)
theorem q_620 : (Jvm.Cond.instanceMethod ({ cls := "SnowRecorder$Notes", name := "add", desc := "(III)V" } : Jvm.MethodName)) ∈ AW := AW_m3 140 (by decide +kernel) (by decide +kernel)
theorem q_621 : (Jvm.Cond.selects "SnowRecorder$Notes" ({ cls := "SnowRecorder$Notes", name := "add", desc := "(III)V" } : Jvm.MethodName) ({ cls := "SnowRecorder$Notes", name := "add", desc := "(III)V" } : Jvm.MethodName)) ∈ AW := AW_m3 141 (by decide +kernel) (by decide +kernel)
theorem q_622 : (Jvm.Cond.code ({ cls := "SnowRecorder$Notes", name := "add", desc := "(III)V" } : Jvm.MethodName) prog_4_method_3_code (4 : Nat) (Option.none : Option Jvm.ClassFile.FieldType)) ∈ AW := AW_m3 142 (by decide +kernel) (by decide +kernel)
theorem q_631 : (Jvm.Cond.methodLink "SnowRecorder" (411 : Nat) ({ cls := "SnowRecorder$State", name := "copyFrom", desc := "(LSnowRecorder$State;)V" } : Jvm.MethodName)) ∈ AW := AW_m3 151 (by decide +kernel) (by decide +kernel)
theorem q_632 : (Jvm.Cond.instanceMethod ({ cls := "SnowRecorder$State", name := "copyFrom", desc := "(LSnowRecorder$State;)V" } : Jvm.MethodName)) ∈ AW := AW_m3 152 (by decide +kernel) (by decide +kernel)
theorem q_633 : (Jvm.Cond.selects "SnowRecorder$State" ({ cls := "SnowRecorder$State", name := "copyFrom", desc := "(LSnowRecorder$State;)V" } : Jvm.MethodName) ({ cls := "SnowRecorder$State", name := "copyFrom", desc := "(LSnowRecorder$State;)V" } : Jvm.MethodName)) ∈ AW := AW_m3 153 (by decide +kernel) (by decide +kernel)
theorem q_634 : (Jvm.Cond.code ({ cls := "SnowRecorder$State", name := "copyFrom", desc := "(LSnowRecorder$State;)V" } : Jvm.MethodName) prog_8_method_3_code (3 : Nat) (Option.none : Option Jvm.ClassFile.FieldType)) ∈ AW := AW_m3 154 (by decide +kernel) (by decide +kernel)
theorem s_0 : Cond.selects "SnowRecorder" ({ cls := "SnowRecorder", name := "putBytes", desc := "(I)V" } : Jvm.MethodName) ({ cls := "SnowRecorder", name := "putBytes", desc := "(I)V" } : Jvm.MethodName) ∈ AW := AW_m 0 (by decide +kernel) (by decide +kernel)
theorem s_1 : Cond.selects "SnowRecorder" ({ cls := "SnowRecorder", name := "refuse", desc := "(I)I" } : Jvm.MethodName) ({ cls := "SnowRecorder", name := "refuse", desc := "(I)I" } : Jvm.MethodName) ∈ AW := AW_m 1 (by decide +kernel) (by decide +kernel)
theorem s_30 : Cond.selects "SnowRecorder" ({ cls := "SnowRecorder", name := "isSameWeakest", desc := "(LSnowRecorder$Pit;LSnowRecorder$Pit;)Z" } : Jvm.MethodName) ({ cls := "SnowRecorder", name := "isSameWeakest", desc := "(LSnowRecorder$Pit;LSnowRecorder$Pit;)Z" } : Jvm.MethodName) ∈ AW := AW_m 30 (by decide +kernel) (by decide +kernel)
theorem s_6 : Cond.selects "SnowRecorder" ({ cls := "SnowRecorder", name := "comesByHand", desc := "(II)Z" } : Jvm.MethodName) ({ cls := "SnowRecorder", name := "comesByHand", desc := "(II)Z" } : Jvm.MethodName) ∈ AW := AW_m 6 (by decide +kernel) (by decide +kernel)
theorem hd_yX3_namesIn : yX3_namesIn.cls ≠ "java/lang/invoke/MethodHandle" ∧ yX3_namesIn.cls ≠ "java/lang/invoke/VarHandle" ∧ (parseMethodDescriptor yX3_namesIn.desc).map (fun d => d.parameters.length) = some 1 := by decide +kernel
theorem hd_yX1_longestRow : yX1_longestRow.cls ≠ "java/lang/invoke/MethodHandle" ∧ yX1_longestRow.cls ≠ "java/lang/invoke/VarHandle" ∧ (parseMethodDescriptor yX1_longestRow.desc).map (fun d => d.parameters.length) = some 2 := by decide +kernel
theorem hd_yX1_fewestSteps : yX1_fewestSteps.cls ≠ "java/lang/invoke/MethodHandle" ∧ yX1_fewestSteps.cls ≠ "java/lang/invoke/VarHandle" ∧ (parseMethodDescriptor yX1_fewestSteps.desc).map (fun d => d.parameters.length) = some 2 := by decide +kernel
theorem hd_yX9_isSameWeakest : yX9_isSameWeakest.cls ≠ "java/lang/invoke/MethodHandle" ∧ yX9_isSameWeakest.cls ≠ "java/lang/invoke/VarHandle" ∧ (parseMethodDescriptor yX9_isSameWeakest.desc).map (fun d => d.parameters.length) = some 2 := by decide +kernel
theorem hd_yX9_refuse : yX9_refuse.cls ≠ "java/lang/invoke/MethodHandle" ∧ yX9_refuse.cls ≠ "java/lang/invoke/VarHandle" ∧ (parseMethodDescriptor yX9_refuse.desc).map (fun d => d.parameters.length) = some 1 := by decide +kernel
theorem hd_yX6_keepAct : yX6_keepAct.cls ≠ "java/lang/invoke/MethodHandle" ∧ yX6_keepAct.cls ≠ "java/lang/invoke/VarHandle" ∧ (parseMethodDescriptor yX6_keepAct.desc).map (fun d => d.parameters.length) = some 0 := by decide +kernel
theorem hd_yX9_comesByHand : yX9_comesByHand.cls ≠ "java/lang/invoke/MethodHandle" ∧ yX9_comesByHand.cls ≠ "java/lang/invoke/VarHandle" ∧ (parseMethodDescriptor yX9_comesByHand.desc).map (fun d => d.parameters.length) = some 2 := by decide +kernel
theorem hd_yX6_keepPit : yX6_keepPit.cls ≠ "java/lang/invoke/MethodHandle" ∧ yX6_keepPit.cls ≠ "java/lang/invoke/VarHandle" ∧ (parseMethodDescriptor yX6_keepPit.desc).map (fun d => d.parameters.length) = some 1 := by decide +kernel
theorem hd_yX6_takeBack : yX6_takeBack.cls ≠ "java/lang/invoke/MethodHandle" ∧ yX6_takeBack.cls ≠ "java/lang/invoke/VarHandle" ∧ (parseMethodDescriptor yX6_takeBack.desc).map (fun d => d.parameters.length) = some 0 := by decide +kernel
theorem hd_yX2_add : yX2_add.cls ≠ "java/lang/invoke/MethodHandle" ∧ yX2_add.cls ≠ "java/lang/invoke/VarHandle" ∧ (parseMethodDescriptor yX2_add.desc).map (fun d => d.parameters.length) = some 3 := by decide +kernel
theorem hd_yX6_copyFrom : yX6_copyFrom.cls ≠ "java/lang/invoke/MethodHandle" ∧ yX6_copyFrom.cls ≠ "java/lang/invoke/VarHandle" ∧ (parseMethodDescriptor yX6_copyFrom.desc).map (fun d => d.parameters.length) = some 1 := by decide +kernel
theorem hd_yX9_putBytes : yX9_putBytes.cls ≠ "java/lang/invoke/MethodHandle" ∧ yX9_putBytes.cls ≠ "java/lang/invoke/VarHandle" ∧ (parseMethodDescriptor yX9_putBytes.desc).map (fun d => d.parameters.length) = some 1 := by decide +kernel
theorem mv_yX3_namesIn : zWv yX3_namesIn cX3_namesIn 4 (some .int) := ⟨q_1330, q_1331, q_6, q_1332⟩
theorem mv_yX1_longestRow : zWv yX1_longestRow cX1_longestRow 8 (some .int) := ⟨q_1335, q_1336, q_10, q_1337⟩
theorem mv_yX1_fewestSteps : zWv yX1_fewestSteps cX1_fewestSteps 9 (some .int) := ⟨q_1340, q_1341, q_10, q_1342⟩
theorem mv_yX9_isSameWeakest : zWv yX9_isSameWeakest cX9_isSameWeakest 5 (some .boolean) := ⟨q_1346, s_30, q_1, q_1347⟩
theorem mv_yX9_refuse : zWv yX9_refuse cX9_refuse 2 (some .int) := ⟨q_410, s_1, q_1, q_411⟩
theorem mv_yX6_keepAct : zWv yX6_keepAct cX6_keepAct 1 none := ⟨q_413, q_414, q_4, q_415⟩
theorem mv_yX9_comesByHand : zWv yX9_comesByHand cX9_comesByHand 3 (some .boolean) := ⟨q_543, s_6, q_1, q_544⟩
theorem mv_yX6_keepPit : zWv yX6_keepPit cX6_keepPit 3 none := ⟨q_603, q_604, q_4, q_605⟩
theorem mv_yX6_takeBack : zWv yX6_takeBack cX6_takeBack 1 none := ⟨q_612, q_613, q_4, q_614⟩
theorem mv_yX2_add : zWv yX2_add cX2_add 4 none := ⟨q_620, q_621, q_7, q_622⟩
theorem mv_yX6_copyFrom : zWv yX6_copyFrom cX6_copyFrom 3 none := ⟨q_632, q_633, q_4, q_634⟩
theorem mv_yX9_putBytes : zWv yX9_putBytes cX9_putBytes 3 none := ⟨q_398, s_0, q_1, q_399⟩
end
section
-- 51.dec.lean.txt
-- decode rows of acts
theorem dX9_isSameWeakest_0 : decode cX9_isSameWeakest 0 = .ok (.aload_n 1, 1) := by decide +kernel
theorem dX9_isSameWeakest_1 : decode cX9_isSameWeakest 1 = .ok (.getfield 349, 3) := by decide +kernel
theorem dX9_isSameWeakest_4 : decode cX9_isSameWeakest 4 = .ok (.aload_n 1, 1) := by decide +kernel
theorem dX9_isSameWeakest_5 : decode cX9_isSameWeakest 5 = .ok (.getfield 349, 3) := by decide +kernel
theorem dX9_isSameWeakest_8 : decode cX9_isSameWeakest 8 = .ok (.aload_n 0, 1) := by decide +kernel
theorem dX9_isSameWeakest_9 : decode cX9_isSameWeakest 9 = .ok (.getfield 30, 3) := by decide +kernel
theorem dX9_isSameWeakest_12 : decode cX9_isSameWeakest 12 = .ok (.getfield 187, 3) := by decide +kernel
theorem dX9_isSameWeakest_15 : decode cX9_isSameWeakest 15 = .ok (.aload_n 1, 1) := by decide +kernel
theorem dX9_isSameWeakest_16 : decode cX9_isSameWeakest 16 = .ok (.getfield 344, 3) := by decide +kernel
theorem dX9_isSameWeakest_19 : decode cX9_isSameWeakest 19 = .ok (.iaload, 1) := by decide +kernel
theorem dX9_isSameWeakest_20 : decode cX9_isSameWeakest 20 = .ok (.aload_n 0, 1) := by decide +kernel
theorem dX9_isSameWeakest_21 : decode cX9_isSameWeakest 21 = .ok (.getfield 30, 3) := by decide +kernel
theorem dX9_isSameWeakest_24 : decode cX9_isSameWeakest 24 = .ok (.invokevirtual 199, 3) := by decide +kernel
theorem dX9_isSameWeakest_27 : decode cX9_isSameWeakest 27 = .ok (.invokevirtual 313, 3) := by decide +kernel
theorem dX9_isSameWeakest_30 : decode cX9_isSameWeakest 30 = .ok (.istore_n 3, 1) := by decide +kernel
theorem dX9_isSameWeakest_31 : decode cX9_isSameWeakest 31 = .ok (.aload_n 2, 1) := by decide +kernel
theorem dX9_isSameWeakest_32 : decode cX9_isSameWeakest 32 = .ok (.getfield 349, 3) := by decide +kernel
theorem dX9_isSameWeakest_35 : decode cX9_isSameWeakest 35 = .ok (.aload_n 2, 1) := by decide +kernel
theorem dX9_isSameWeakest_36 : decode cX9_isSameWeakest 36 = .ok (.getfield 349, 3) := by decide +kernel
theorem dX9_isSameWeakest_39 : decode cX9_isSameWeakest 39 = .ok (.aload_n 0, 1) := by decide +kernel
theorem dX9_isSameWeakest_40 : decode cX9_isSameWeakest 40 = .ok (.getfield 30, 3) := by decide +kernel
theorem dX9_isSameWeakest_43 : decode cX9_isSameWeakest 43 = .ok (.getfield 187, 3) := by decide +kernel
theorem dX9_isSameWeakest_46 : decode cX9_isSameWeakest 46 = .ok (.aload_n 2, 1) := by decide +kernel
theorem dX9_isSameWeakest_47 : decode cX9_isSameWeakest 47 = .ok (.getfield 344, 3) := by decide +kernel
theorem dX9_isSameWeakest_50 : decode cX9_isSameWeakest 50 = .ok (.iaload, 1) := by decide +kernel
theorem dX9_isSameWeakest_51 : decode cX9_isSameWeakest 51 = .ok (.aload_n 0, 1) := by decide +kernel
theorem dX9_isSameWeakest_52 : decode cX9_isSameWeakest 52 = .ok (.getfield 30, 3) := by decide +kernel
theorem dX9_isSameWeakest_55 : decode cX9_isSameWeakest 55 = .ok (.invokevirtual 199, 3) := by decide +kernel
theorem dX9_isSameWeakest_58 : decode cX9_isSameWeakest 58 = .ok (.invokevirtual 313, 3) := by decide +kernel
theorem dX9_isSameWeakest_61 : decode cX9_isSameWeakest 61 = .ok (.istore 4, 2) := by decide +kernel
theorem dX9_isSameWeakest_63 : decode cX9_isSameWeakest 63 = .ok (.iload_n 3, 1) := by decide +kernel
theorem dX9_isSameWeakest_64 : decode cX9_isSameWeakest 64 = .ok (.iconst (-1), 1) := by decide +kernel
theorem dX9_isSameWeakest_65 : decode cX9_isSameWeakest 65 = .ok (.if_icmp .eq 13, 3) := by decide +kernel
theorem dX9_isSameWeakest_78 : decode cX9_isSameWeakest 78 = .ok (.iconst 0, 1) := by decide +kernel
theorem dX9_isSameWeakest_79 : decode cX9_isSameWeakest 79 = .ok (.ireturn, 1) := by decide +kernel
theorem dX9_isSameWeakest_68 : decode cX9_isSameWeakest 68 = .ok (.iload_n 3, 1) := by decide +kernel
theorem dX9_isSameWeakest_69 : decode cX9_isSameWeakest 69 = .ok (.iload 4, 2) := by decide +kernel
theorem dX9_isSameWeakest_71 : decode cX9_isSameWeakest 71 = .ok (.if_icmp .ne 7, 3) := by decide +kernel
theorem dX9_isSameWeakest_74 : decode cX9_isSameWeakest 74 = .ok (.iconst 1, 1) := by decide +kernel
theorem dX9_isSameWeakest_75 : decode cX9_isSameWeakest 75 = .ok (.goto 4, 3) := by decide +kernel
theorem dX9_compare_0 : decode cX9_compare 0 = .ok (.aload_n 0, 1) := by decide +kernel
theorem dX9_compare_1 : decode cX9_compare 1 = .ok (.iload_n 1, 1) := by decide +kernel
theorem dX9_compare_2 : decode cX9_compare 2 = .ok (.invokevirtual 338, 3) := by decide +kernel
theorem dX9_compare_5 : decode cX9_compare 5 = .ok (.aload_n 0, 1) := by decide +kernel
theorem dX9_compare_6 : decode cX9_compare 6 = .ok (.iload_n 2, 1) := by decide +kernel
theorem dX9_compare_7 : decode cX9_compare 7 = .ok (.invokevirtual 338, 3) := by decide +kernel
theorem dX9_compare_10 : decode cX9_compare 10 = .ok (.aload_n 0, 1) := by decide +kernel
theorem dX9_compare_11 : decode cX9_compare 11 = .ok (.getfield 37, 3) := by decide +kernel
theorem dX9_compare_14 : decode cX9_compare 14 = .ok (.getfield 341, 3) := by decide +kernel
theorem dX9_compare_17 : decode cX9_compare 17 = .ok (.iload_n 1, 1) := by decide +kernel
theorem dX9_compare_18 : decode cX9_compare 18 = .ok (.aaload, 1) := by decide +kernel
theorem dX9_compare_19 : decode cX9_compare 19 = .ok (.getfield 349, 3) := by decide +kernel
theorem dX9_compare_22 : decode cX9_compare 22 = .ok (.astore 4, 2) := by decide +kernel
theorem dX9_compare_24 : decode cX9_compare 24 = .ok (.aload_n 0, 1) := by decide +kernel
theorem dX9_compare_25 : decode cX9_compare 25 = .ok (.getfield 37, 3) := by decide +kernel
theorem dX9_compare_28 : decode cX9_compare 28 = .ok (.getfield 341, 3) := by decide +kernel
theorem dX9_compare_31 : decode cX9_compare 31 = .ok (.iload_n 2, 1) := by decide +kernel
theorem dX9_compare_32 : decode cX9_compare 32 = .ok (.aaload, 1) := by decide +kernel
theorem dX9_compare_33 : decode cX9_compare 33 = .ok (.getfield 349, 3) := by decide +kernel
theorem dX9_compare_36 : decode cX9_compare 36 = .ok (.astore 5, 2) := by decide +kernel
theorem dX9_compare_38 : decode cX9_compare 38 = .ok (.iload_n 3, 1) := by decide +kernel
theorem dX9_compare_39 : decode cX9_compare 39 = .ok (.tableswitch 92 0 3 #[29, 37, 49, 61], 29) := by decide +kernel
theorem dX9_compare_131 : decode cX9_compare 131 = .ok (.new 165, 3) := by decide +kernel
theorem dX9_compare_134 : decode cX9_compare 134 = .ok (.dup, 1) := by decide +kernel
theorem dX9_compare_135 : decode cX9_compare 135 = .ok (.ldc_w 371, 3) := by decide +kernel
theorem dX9_compare_138 : decode cX9_compare 138 = .ok (.invokespecial 169, 3) := by decide +kernel
theorem dX9_compare_141 : decode cX9_compare 141 = .ok (.athrow, 1) := by decide +kernel
theorem dX9_compare_68 : decode cX9_compare 68 = .ok (.aload 4, 2) := by decide +kernel
theorem dX9_compare_70 : decode cX9_compare 70 = .ok (.aload 5, 2) := by decide +kernel
theorem dX9_compare_72 : decode cX9_compare 72 = .ok (.invokevirtual 356, 3) := by decide +kernel
theorem dX9_compare_75 : decode cX9_compare 75 = .ok (.ireturn, 1) := by decide +kernel
theorem dX9_compare_76 : decode cX9_compare 76 = .ok (.aload_n 0, 1) := by decide +kernel
theorem dX9_compare_77 : decode cX9_compare 77 = .ok (.getfield 71, 3) := by decide +kernel
theorem dX9_compare_80 : decode cX9_compare 80 = .ok (.aload 4, 2) := by decide +kernel
theorem dX9_compare_82 : decode cX9_compare 82 = .ok (.aload 5, 2) := by decide +kernel
theorem dX9_compare_84 : decode cX9_compare 84 = .ok (.invokevirtual 360, 3) := by decide +kernel
theorem dX9_compare_87 : decode cX9_compare 87 = .ok (.ireturn, 1) := by decide +kernel
theorem dX9_compare_88 : decode cX9_compare 88 = .ok (.aload_n 0, 1) := by decide +kernel
theorem dX9_compare_89 : decode cX9_compare 89 = .ok (.getfield 71, 3) := by decide +kernel
theorem dX9_compare_92 : decode cX9_compare 92 = .ok (.aload 4, 2) := by decide +kernel
theorem dX9_compare_94 : decode cX9_compare 94 = .ok (.aload 5, 2) := by decide +kernel
theorem dX9_compare_96 : decode cX9_compare 96 = .ok (.invokevirtual 364, 3) := by decide +kernel
theorem dX9_compare_99 : decode cX9_compare 99 = .ok (.ireturn, 1) := by decide +kernel
theorem dX9_compare_100 : decode cX9_compare 100 = .ok (.aload_n 0, 1) := by decide +kernel
theorem dX9_compare_101 : decode cX9_compare 101 = .ok (.aload_n 0, 1) := by decide +kernel
theorem dX9_compare_102 : decode cX9_compare 102 = .ok (.getfield 37, 3) := by decide +kernel
theorem dX9_compare_105 : decode cX9_compare 105 = .ok (.getfield 341, 3) := by decide +kernel
theorem dX9_compare_108 : decode cX9_compare 108 = .ok (.iload_n 1, 1) := by decide +kernel
theorem dX9_compare_109 : decode cX9_compare 109 = .ok (.aaload, 1) := by decide +kernel
theorem dX9_compare_110 : decode cX9_compare 110 = .ok (.aload_n 0, 1) := by decide +kernel
theorem dX9_compare_111 : decode cX9_compare 111 = .ok (.getfield 37, 3) := by decide +kernel
theorem dX9_compare_114 : decode cX9_compare 114 = .ok (.getfield 341, 3) := by decide +kernel
theorem dX9_compare_117 : decode cX9_compare 117 = .ok (.iload_n 2, 1) := by decide +kernel
theorem dX9_compare_118 : decode cX9_compare 118 = .ok (.aaload, 1) := by decide +kernel
theorem dX9_compare_119 : decode cX9_compare 119 = .ok (.invokevirtual 367, 3) := by decide +kernel
theorem dX9_compare_122 : decode cX9_compare 122 = .ok (.ifCond .eq 7, 3) := by decide +kernel
theorem dX9_compare_129 : decode cX9_compare 129 = .ok (.iconst 0, 1) := by decide +kernel
theorem dX9_compare_130 : decode cX9_compare 130 = .ok (.ireturn, 1) := by decide +kernel
theorem dX9_compare_125 : decode cX9_compare 125 = .ok (.iconst 1, 1) := by decide +kernel
theorem dX9_compare_126 : decode cX9_compare 126 = .ok (.goto 4, 3) := by decide +kernel
theorem dX9_nearest_0 : decode cX9_nearest 0 = .ok (.aload_n 0, 1) := by decide +kernel
theorem dX9_nearest_1 : decode cX9_nearest 1 = .ok (.iload_n 1, 1) := by decide +kernel
theorem dX9_nearest_2 : decode cX9_nearest 2 = .ok (.invokevirtual 338, 3) := by decide +kernel
theorem dX9_nearest_5 : decode cX9_nearest 5 = .ok (.iconst (-1), 1) := by decide +kernel
theorem dX9_nearest_6 : decode cX9_nearest 6 = .ok (.istore_n 2, 1) := by decide +kernel
theorem dX9_nearest_7 : decode cX9_nearest 7 = .ok (.iconst 0, 1) := by decide +kernel
theorem dX9_nearest_8 : decode cX9_nearest 8 = .ok (.istore_n 3, 1) := by decide +kernel
theorem dX9_nearest_9 : decode cX9_nearest 9 = .ok (.iconst 0, 1) := by decide +kernel
theorem dX9_nearest_10 : decode cX9_nearest 10 = .ok (.istore 4, 2) := by decide +kernel
theorem dX9_nearest_12 : decode cX9_nearest 12 = .ok (.iload 4, 2) := by decide +kernel
theorem dX9_nearest_14 : decode cX9_nearest 14 = .ok (.aload_n 0, 1) := by decide +kernel
theorem dX9_nearest_15 : decode cX9_nearest 15 = .ok (.getfield 30, 3) := by decide +kernel
theorem dX9_nearest_18 : decode cX9_nearest 18 = .ok (.getfield 115, 3) := by decide +kernel
theorem dX9_nearest_21 : decode cX9_nearest 21 = .ok (.if_icmp .ge 60, 3) := by decide +kernel
theorem dX9_nearest_81 : decode cX9_nearest 81 = .ok (.iload_n 2, 1) := by decide +kernel
theorem dX9_nearest_82 : decode cX9_nearest 82 = .ok (.ireturn, 1) := by decide +kernel
theorem dX9_nearest_24 : decode cX9_nearest 24 = .ok (.aload_n 0, 1) := by decide +kernel
theorem dX9_nearest_25 : decode cX9_nearest 25 = .ok (.getfield 71, 3) := by decide +kernel
theorem dX9_nearest_28 : decode cX9_nearest 28 = .ok (.aload_n 0, 1) := by decide +kernel
theorem dX9_nearest_29 : decode cX9_nearest 29 = .ok (.getfield 37, 3) := by decide +kernel
theorem dX9_nearest_32 : decode cX9_nearest 32 = .ok (.getfield 112, 3) := by decide +kernel
theorem dX9_nearest_35 : decode cX9_nearest 35 = .ok (.getfield 280, 3) := by decide +kernel
theorem dX9_nearest_38 : decode cX9_nearest 38 = .ok (.iload 4, 2) := by decide +kernel
theorem dX9_nearest_40 : decode cX9_nearest 40 = .ok (.aaload, 1) := by decide +kernel
theorem dX9_nearest_41 : decode cX9_nearest 41 = .ok (.aload_n 0, 1) := by decide +kernel
theorem dX9_nearest_42 : decode cX9_nearest 42 = .ok (.getfield 37, 3) := by decide +kernel
theorem dX9_nearest_45 : decode cX9_nearest 45 = .ok (.getfield 341, 3) := by decide +kernel
theorem dX9_nearest_48 : decode cX9_nearest 48 = .ok (.iload_n 1, 1) := by decide +kernel
theorem dX9_nearest_49 : decode cX9_nearest 49 = .ok (.aaload, 1) := by decide +kernel
theorem dX9_nearest_50 : decode cX9_nearest 50 = .ok (.getfield 349, 3) := by decide +kernel
theorem dX9_nearest_53 : decode cX9_nearest 53 = .ok (.invokevirtual 364, 3) := by decide +kernel
theorem dX9_nearest_56 : decode cX9_nearest 56 = .ok (.istore 5, 2) := by decide +kernel
theorem dX9_nearest_58 : decode cX9_nearest 58 = .ok (.iload_n 2, 1) := by decide +kernel
theorem dX9_nearest_59 : decode cX9_nearest 59 = .ok (.iconst (-1), 1) := by decide +kernel
theorem dX9_nearest_60 : decode cX9_nearest 60 = .ok (.if_icmp .eq 9, 3) := by decide +kernel
theorem dX9_nearest_69 : decode cX9_nearest 69 = .ok (.iload 4, 2) := by decide +kernel
theorem dX9_nearest_71 : decode cX9_nearest 71 = .ok (.istore_n 2, 1) := by decide +kernel
theorem dX9_nearest_72 : decode cX9_nearest 72 = .ok (.iload 5, 2) := by decide +kernel
theorem dX9_nearest_74 : decode cX9_nearest 74 = .ok (.istore_n 3, 1) := by decide +kernel
theorem dX9_nearest_75 : decode cX9_nearest 75 = .ok (.iinc 4 1, 3) := by decide +kernel
theorem dX9_nearest_78 : decode cX9_nearest 78 = .ok (.goto (-66), 3) := by decide +kernel
theorem dX9_nearest_63 : decode cX9_nearest 63 = .ok (.iload 5, 2) := by decide +kernel
theorem dX9_nearest_65 : decode cX9_nearest 65 = .ok (.iload_n 3, 1) := by decide +kernel
theorem dX9_nearest_66 : decode cX9_nearest 66 = .ok (.if_icmp .ge 9, 3) := by decide +kernel
theorem dX9_refuse_0 : decode cX9_refuse 0 = .ok (.aload_n 0, 1) := by decide +kernel
theorem dX9_refuse_1 : decode cX9_refuse 1 = .ok (.getfield 37, 3) := by decide +kernel
theorem dX9_refuse_4 : decode cX9_refuse 4 = .ok (.getfield 100, 3) := by decide +kernel
theorem dX9_refuse_7 : decode cX9_refuse 7 = .ok (.iload_n 1, 1) := by decide +kernel
theorem dX9_refuse_8 : decode cX9_refuse 8 = .ok (.dup2, 1) := by decide +kernel
theorem dX9_refuse_9 : decode cX9_refuse 9 = .ok (.iaload, 1) := by decide +kernel
theorem dX9_refuse_10 : decode cX9_refuse 10 = .ok (.iconst 1, 1) := by decide +kernel
theorem dX9_refuse_11 : decode cX9_refuse 11 = .ok (.iadd, 1) := by decide +kernel
theorem dX9_refuse_12 : decode cX9_refuse 12 = .ok (.iastore, 1) := by decide +kernel
theorem dX9_refuse_13 : decode cX9_refuse 13 = .ok (.iconst (-1), 1) := by decide +kernel
theorem dX9_refuse_14 : decode cX9_refuse 14 = .ok (.ireturn, 1) := by decide +kernel
theorem dX9_hours_0 : decode cX9_hours 0 = .ok (.iload_n 1, 1) := by decide +kernel
theorem dX9_hours_1 : decode cX9_hours 1 = .ok (.iconst 1, 1) := by decide +kernel
theorem dX9_hours_2 : decode cX9_hours 2 = .ok (.if_icmp .lt 27, 3) := by decide +kernel
theorem dX9_hours_29 : decode cX9_hours 29 = .ok (.aload_n 0, 1) := by decide +kernel
theorem dX9_hours_30 : decode cX9_hours 30 = .ok (.iconst 1, 1) := by decide +kernel
theorem dX9_hours_31 : decode cX9_hours 31 = .ok (.invokevirtual 255, 3) := by decide +kernel
theorem dX9_hours_34 : decode cX9_hours 34 = .ok (.ireturn, 1) := by decide +kernel
theorem dX9_hours_5 : decode cX9_hours 5 = .ok (.iload_n 1, 1) := by decide +kernel
theorem dX9_hours_6 : decode cX9_hours 6 = .ok (.bipush 24, 2) := by decide +kernel
theorem dX9_hours_8 : decode cX9_hours 8 = .ok (.if_icmp .gt 21, 3) := by decide +kernel
theorem dX9_hours_11 : decode cX9_hours 11 = .ok (.aload_n 0, 1) := by decide +kernel
theorem dX9_hours_12 : decode cX9_hours 12 = .ok (.getfield 37, 3) := by decide +kernel
theorem dX9_hours_15 : decode cX9_hours 15 = .ok (.getfield 112, 3) := by decide +kernel
theorem dX9_hours_18 : decode cX9_hours 18 = .ok (.getfield 121, 3) := by decide +kernel
theorem dX9_hours_21 : decode cX9_hours 21 = .ok (.iload_n 1, 1) := by decide +kernel
theorem dX9_hours_22 : decode cX9_hours 22 = .ok (.iadd, 1) := by decide +kernel
theorem dX9_hours_23 : decode cX9_hours 23 = .ok (.sipush 2000, 3) := by decide +kernel
theorem dX9_hours_26 : decode cX9_hours 26 = .ok (.if_icmp .le 9, 3) := by decide +kernel
theorem dX9_hours_35 : decode cX9_hours 35 = .ok (.aload_n 0, 1) := by decide +kernel
theorem dX9_hours_36 : decode cX9_hours 36 = .ok (.getfield 37, 3) := by decide +kernel
theorem dX9_hours_39 : decode cX9_hours 39 = .ok (.invokevirtual 258, 3) := by decide +kernel
theorem dX9_hours_42 : decode cX9_hours 42 = .ok (.iconst 0, 1) := by decide +kernel
theorem dX9_hours_43 : decode cX9_hours 43 = .ok (.istore_n 2, 1) := by decide +kernel
theorem dX9_hours_44 : decode cX9_hours 44 = .ok (.iload_n 2, 1) := by decide +kernel
theorem dX9_hours_45 : decode cX9_hours 45 = .ok (.iload_n 1, 1) := by decide +kernel
theorem dX9_hours_46 : decode cX9_hours 46 = .ok (.if_icmp .ge 31, 3) := by decide +kernel
theorem dX9_hours_77 : decode cX9_hours 77 = .ok (.aload_n 0, 1) := by decide +kernel
theorem dX9_hours_78 : decode cX9_hours 78 = .ok (.getfield 37, 3) := by decide +kernel
theorem dX9_hours_81 : decode cX9_hours 81 = .ok (.getfield 112, 3) := by decide +kernel
theorem dX9_hours_84 : decode cX9_hours 84 = .ok (.getfield 121, 3) := by decide +kernel
theorem dX9_hours_87 : decode cX9_hours 87 = .ok (.ireturn, 1) := by decide +kernel
theorem dX9_hours_49 : decode cX9_hours 49 = .ok (.aload_n 0, 1) := by decide +kernel
theorem dX9_hours_50 : decode cX9_hours 50 = .ok (.getfield 37, 3) := by decide +kernel
theorem dX9_hours_53 : decode cX9_hours 53 = .ok (.getfield 112, 3) := by decide +kernel
theorem dX9_hours_56 : decode cX9_hours 56 = .ok (.aload_n 0, 1) := by decide +kernel
theorem dX9_hours_57 : decode cX9_hours 57 = .ok (.getfield 30, 3) := by decide +kernel
theorem dX9_hours_60 : decode cX9_hours 60 = .ok (.aload_n 0, 1) := by decide +kernel
theorem dX9_hours_61 : decode cX9_hours 61 = .ok (.getfield 30, 3) := by decide +kernel
theorem dX9_hours_64 : decode cX9_hours 64 = .ok (.invokevirtual 261, 3) := by decide +kernel
theorem dX9_hours_67 : decode cX9_hours 67 = .ok (.iconst 1, 1) := by decide +kernel
theorem dX9_hours_68 : decode cX9_hours 68 = .ok (.invokevirtual 264, 3) := by decide +kernel
theorem dX9_hours_71 : decode cX9_hours 71 = .ok (.iinc 2 1, 3) := by decide +kernel
theorem dX9_hours_74 : decode cX9_hours 74 = .ok (.goto (-30), 3) := by decide +kernel
theorem dX9_fall_0 : decode cX9_fall 0 = .ok (.aload_n 0, 1) := by decide +kernel
theorem dX9_fall_1 : decode cX9_fall 1 = .ok (.iload_n 1, 1) := by decide +kernel
theorem dX9_fall_2 : decode cX9_fall 2 = .ok (.invokevirtual 268, 3) := by decide +kernel
theorem dX9_fall_5 : decode cX9_fall 5 = .ok (.ifCond .eq 12, 3) := by decide +kernel
theorem dX9_fall_17 : decode cX9_fall 17 = .ok (.aload_n 0, 1) := by decide +kernel
theorem dX9_fall_18 : decode cX9_fall 18 = .ok (.iconst 1, 1) := by decide +kernel
theorem dX9_fall_19 : decode cX9_fall 19 = .ok (.invokevirtual 255, 3) := by decide +kernel
theorem dX9_fall_22 : decode cX9_fall 22 = .ok (.ireturn, 1) := by decide +kernel
theorem dX9_fall_8 : decode cX9_fall 8 = .ok (.aload_n 0, 1) := by decide +kernel
theorem dX9_fall_9 : decode cX9_fall 9 = .ok (.iload_n 2, 1) := by decide +kernel
theorem dX9_fall_10 : decode cX9_fall 10 = .ok (.iload_n 3, 1) := by decide +kernel
theorem dX9_fall_11 : decode cX9_fall 11 = .ok (.invokevirtual 272, 3) := by decide +kernel
theorem dX9_fall_14 : decode cX9_fall 14 = .ok (.ifCond .ne 9, 3) := by decide +kernel
theorem dX9_fall_23 : decode cX9_fall 23 = .ok (.aload_n 0, 1) := by decide +kernel
theorem dX9_fall_24 : decode cX9_fall 24 = .ok (.getfield 37, 3) := by decide +kernel
theorem dX9_fall_27 : decode cX9_fall 27 = .ok (.invokevirtual 258, 3) := by decide +kernel
theorem dX9_fall_30 : decode cX9_fall 30 = .ok (.aload_n 0, 1) := by decide +kernel
theorem dX9_fall_31 : decode cX9_fall 31 = .ok (.getfield 37, 3) := by decide +kernel
theorem dX9_fall_34 : decode cX9_fall 34 = .ok (.getfield 112, 3) := by decide +kernel
theorem dX9_fall_37 : decode cX9_fall 37 = .ok (.iload_n 1, 1) := by decide +kernel
theorem dX9_fall_38 : decode cX9_fall 38 = .ok (.iload_n 2, 1) := by decide +kernel
theorem dX9_fall_39 : decode cX9_fall 39 = .ok (.iload_n 3, 1) := by decide +kernel
theorem dX9_fall_40 : decode cX9_fall 40 = .ok (.aload_n 0, 1) := by decide +kernel
theorem dX9_fall_41 : decode cX9_fall 41 = .ok (.getfield 30, 3) := by decide +kernel
theorem dX9_fall_44 : decode cX9_fall 44 = .ok (.aload_n 0, 1) := by decide +kernel
theorem dX9_fall_45 : decode cX9_fall 45 = .ok (.getfield 37, 3) := by decide +kernel
theorem dX9_fall_48 : decode cX9_fall 48 = .ok (.getfield 112, 3) := by decide +kernel
theorem dX9_fall_51 : decode cX9_fall 51 = .ok (.getfield 121, 3) := by decide +kernel
theorem dX9_fall_54 : decode cX9_fall 54 = .ok (.invokevirtual 225, 3) := by decide +kernel
theorem dX9_fall_57 : decode cX9_fall 57 = .ok (.invokevirtual 276, 3) := by decide +kernel
theorem dX9_fall_60 : decode cX9_fall 60 = .ok (.aload_n 0, 1) := by decide +kernel
theorem dX9_fall_61 : decode cX9_fall 61 = .ok (.getfield 37, 3) := by decide +kernel
theorem dX9_fall_64 : decode cX9_fall 64 = .ok (.getfield 112, 3) := by decide +kernel
theorem dX9_fall_67 : decode cX9_fall 67 = .ok (.getfield 280, 3) := by decide +kernel
theorem dX9_fall_70 : decode cX9_fall 70 = .ok (.iload_n 1, 1) := by decide +kernel
theorem dX9_fall_71 : decode cX9_fall 71 = .ok (.aaload, 1) := by decide +kernel
theorem dX9_fall_72 : decode cX9_fall 72 = .ok (.getfield 193, 3) := by decide +kernel
theorem dX9_fall_75 : decode cX9_fall 75 = .ok (.ireturn, 1) := by decide +kernel
theorem dX9_dig_0 : decode cX9_dig 0 = .ok (.aload_n 0, 1) := by decide +kernel
theorem dX9_dig_1 : decode cX9_dig 1 = .ok (.iload_n 1, 1) := by decide +kernel
theorem dX9_dig_2 : decode cX9_dig 2 = .ok (.invokevirtual 268, 3) := by decide +kernel
theorem dX9_dig_5 : decode cX9_dig 5 = .ok (.ifCond .eq 21, 3) := by decide +kernel
theorem dX9_dig_26 : decode cX9_dig 26 = .ok (.aload_n 0, 1) := by decide +kernel
theorem dX9_dig_27 : decode cX9_dig 27 = .ok (.iconst 1, 1) := by decide +kernel
theorem dX9_dig_28 : decode cX9_dig 28 = .ok (.invokevirtual 255, 3) := by decide +kernel
theorem dX9_dig_31 : decode cX9_dig 31 = .ok (.ireturn, 1) := by decide +kernel
theorem dX9_dig_8 : decode cX9_dig 8 = .ok (.aload_n 0, 1) := by decide +kernel
theorem dX9_dig_9 : decode cX9_dig 9 = .ok (.getfield 37, 3) := by decide +kernel
theorem dX9_dig_12 : decode cX9_dig 12 = .ok (.getfield 112, 3) := by decide +kernel
theorem dX9_dig_15 : decode cX9_dig 15 = .ok (.getfield 280, 3) := by decide +kernel
theorem dX9_dig_18 : decode cX9_dig 18 = .ok (.iload_n 1, 1) := by decide +kernel
theorem dX9_dig_19 : decode cX9_dig 19 = .ok (.aaload, 1) := by decide +kernel
theorem dX9_dig_20 : decode cX9_dig 20 = .ok (.getfield 193, 3) := by decide +kernel
theorem dX9_dig_23 : decode cX9_dig 23 = .ok (.ifCond .ne 9, 3) := by decide +kernel
theorem dX9_dig_32 : decode cX9_dig 32 = .ok (.aload_n 0, 1) := by decide +kernel
theorem dX9_dig_33 : decode cX9_dig 33 = .ok (.getfield 37, 3) := by decide +kernel
theorem dX9_dig_36 : decode cX9_dig 36 = .ok (.invokevirtual 258, 3) := by decide +kernel
theorem dX9_dig_39 : decode cX9_dig 39 = .ok (.aload_n 0, 1) := by decide +kernel
theorem dX9_dig_40 : decode cX9_dig 40 = .ok (.getfield 37, 3) := by decide +kernel
theorem dX9_dig_43 : decode cX9_dig 43 = .ok (.getfield 112, 3) := by decide +kernel
theorem dX9_dig_46 : decode cX9_dig 46 = .ok (.iload_n 1, 1) := by decide +kernel
theorem dX9_dig_47 : decode cX9_dig 47 = .ok (.invokevirtual 284, 3) := by decide +kernel
theorem dX9_dig_50 : decode cX9_dig 50 = .ok (.ireturn, 1) := by decide +kernel
theorem dX9_slide_0 : decode cX9_slide 0 = .ok (.aload_n 0, 1) := by decide +kernel
theorem dX9_slide_1 : decode cX9_slide 1 = .ok (.iload_n 1, 1) := by decide +kernel
theorem dX9_slide_2 : decode cX9_slide 2 = .ok (.invokevirtual 268, 3) := by decide +kernel
theorem dX9_slide_5 : decode cX9_slide 5 = .ok (.ifCond .eq 18, 3) := by decide +kernel
theorem dX9_slide_23 : decode cX9_slide 23 = .ok (.aload_n 0, 1) := by decide +kernel
theorem dX9_slide_24 : decode cX9_slide 24 = .ok (.iconst 1, 1) := by decide +kernel
theorem dX9_slide_25 : decode cX9_slide 25 = .ok (.invokevirtual 255, 3) := by decide +kernel
theorem dX9_slide_28 : decode cX9_slide 28 = .ok (.ireturn, 1) := by decide +kernel
theorem dX9_slide_8 : decode cX9_slide 8 = .ok (.aload_n 0, 1) := by decide +kernel
theorem dX9_slide_9 : decode cX9_slide 9 = .ok (.aload_n 0, 1) := by decide +kernel
theorem dX9_slide_10 : decode cX9_slide 10 = .ok (.getfield 37, 3) := by decide +kernel
theorem dX9_slide_13 : decode cX9_slide 13 = .ok (.getfield 112, 3) := by decide +kernel
theorem dX9_slide_16 : decode cX9_slide 16 = .ok (.iload_n 1, 1) := by decide +kernel
theorem dX9_slide_17 : decode cX9_slide 17 = .ok (.invokevirtual 287, 3) := by decide +kernel
theorem dX9_slide_20 : decode cX9_slide 20 = .ok (.ifCond .ne 9, 3) := by decide +kernel
theorem dX9_slide_29 : decode cX9_slide 29 = .ok (.aload_n 0, 1) := by decide +kernel
theorem dX9_slide_30 : decode cX9_slide 30 = .ok (.getfield 37, 3) := by decide +kernel
theorem dX9_slide_33 : decode cX9_slide 33 = .ok (.invokevirtual 258, 3) := by decide +kernel
theorem dX9_slide_36 : decode cX9_slide 36 = .ok (.aload_n 0, 1) := by decide +kernel
theorem dX9_slide_37 : decode cX9_slide 37 = .ok (.getfield 37, 3) := by decide +kernel
theorem dX9_slide_40 : decode cX9_slide 40 = .ok (.getfield 112, 3) := by decide +kernel
theorem dX9_slide_43 : decode cX9_slide 43 = .ok (.iload_n 1, 1) := by decide +kernel
theorem dX9_slide_44 : decode cX9_slide 44 = .ok (.aload_n 0, 1) := by decide +kernel
theorem dX9_slide_45 : decode cX9_slide 45 = .ok (.getfield 30, 3) := by decide +kernel
theorem dX9_slide_48 : decode cX9_slide 48 = .ok (.invokevirtual 291, 3) := by decide +kernel
theorem dX9_slide_51 : decode cX9_slide 51 = .ok (.ireturn, 1) := by decide +kernel
theorem dX9_pit_0 : decode cX9_pit 0 = .ok (.aload_n 0, 1) := by decide +kernel
theorem dX9_pit_1 : decode cX9_pit 1 = .ok (.iload_n 1, 1) := by decide +kernel
theorem dX9_pit_2 : decode cX9_pit 2 = .ok (.invokevirtual 268, 3) := by decide +kernel
theorem dX9_pit_5 : decode cX9_pit 5 = .ok (.ifCond .eq 18, 3) := by decide +kernel
theorem dX9_pit_23 : decode cX9_pit 23 = .ok (.aload_n 0, 1) := by decide +kernel
theorem dX9_pit_24 : decode cX9_pit 24 = .ok (.iconst 1, 1) := by decide +kernel
theorem dX9_pit_25 : decode cX9_pit 25 = .ok (.invokevirtual 255, 3) := by decide +kernel
theorem dX9_pit_28 : decode cX9_pit 28 = .ok (.ireturn, 1) := by decide +kernel
theorem dX9_pit_8 : decode cX9_pit 8 = .ok (.aload_n 0, 1) := by decide +kernel
theorem dX9_pit_9 : decode cX9_pit 9 = .ok (.getfield 37, 3) := by decide +kernel
theorem dX9_pit_12 : decode cX9_pit 12 = .ok (.getfield 112, 3) := by decide +kernel
theorem dX9_pit_15 : decode cX9_pit 15 = .ok (.getfield 150, 3) := by decide +kernel
theorem dX9_pit_18 : decode cX9_pit 18 = .ok (.bipush 6, 2) := by decide +kernel
theorem dX9_pit_20 : decode cX9_pit 20 = .ok (.if_icmp .lt 9, 3) := by decide +kernel
theorem dX9_pit_29 : decode cX9_pit 29 = .ok (.aload_n 0, 1) := by decide +kernel
theorem dX9_pit_30 : decode cX9_pit 30 = .ok (.getfield 37, 3) := by decide +kernel
theorem dX9_pit_33 : decode cX9_pit 33 = .ok (.invokevirtual 258, 3) := by decide +kernel
theorem dX9_pit_36 : decode cX9_pit 36 = .ok (.aload_n 0, 1) := by decide +kernel
theorem dX9_pit_37 : decode cX9_pit 37 = .ok (.getfield 37, 3) := by decide +kernel
theorem dX9_pit_40 : decode cX9_pit 40 = .ok (.iload_n 1, 1) := by decide +kernel
theorem dX9_pit_41 : decode cX9_pit 41 = .ok (.invokevirtual 294, 3) := by decide +kernel
theorem dX9_pit_44 : decode cX9_pit 44 = .ok (.aload_n 0, 1) := by decide +kernel
theorem dX9_pit_45 : decode cX9_pit 45 = .ok (.getfield 37, 3) := by decide +kernel
theorem dX9_pit_48 : decode cX9_pit 48 = .ok (.getfield 112, 3) := by decide +kernel
theorem dX9_pit_51 : decode cX9_pit 51 = .ok (.getfield 150, 3) := by decide +kernel
theorem dX9_pit_54 : decode cX9_pit 54 = .ok (.ireturn, 1) := by decide +kernel
theorem dX9_undo_0 : decode cX9_undo 0 = .ok (.aload_n 0, 1) := by decide +kernel
theorem dX9_undo_1 : decode cX9_undo 1 = .ok (.getfield 37, 3) := by decide +kernel
theorem dX9_undo_4 : decode cX9_undo 4 = .ok (.getfield 153, 3) := by decide +kernel
theorem dX9_undo_7 : decode cX9_undo 7 = .ok (.ifCond .ne 5, 3) := by decide +kernel
theorem dX9_undo_12 : decode cX9_undo 12 = .ok (.aload_n 0, 1) := by decide +kernel
theorem dX9_undo_13 : decode cX9_undo 13 = .ok (.getfield 37, 3) := by decide +kernel
theorem dX9_undo_16 : decode cX9_undo 16 = .ok (.invokevirtual 297, 3) := by decide +kernel
theorem dX9_undo_19 : decode cX9_undo 19 = .ok (.aload_n 0, 1) := by decide +kernel
theorem dX9_undo_20 : decode cX9_undo 20 = .ok (.getfield 37, 3) := by decide +kernel
theorem dX9_undo_23 : decode cX9_undo 23 = .ok (.getfield 153, 3) := by decide +kernel
theorem dX9_undo_26 : decode cX9_undo 26 = .ok (.ireturn, 1) := by decide +kernel
theorem dX9_undo_10 : decode cX9_undo 10 = .ok (.iconst (-1), 1) := by decide +kernel
theorem dX9_undo_11 : decode cX9_undo 11 = .ok (.ireturn, 1) := by decide +kernel
theorem dX9_note_0 : decode cX9_note 0 = .ok (.aload_n 0, 1) := by decide +kernel
theorem dX9_note_1 : decode cX9_note 1 = .ok (.iload_n 1, 1) := by decide +kernel
theorem dX9_note_2 : decode cX9_note 2 = .ok (.invokevirtual 268, 3) := by decide +kernel
theorem dX9_note_5 : decode cX9_note 5 = .ok (.ifCond .eq 28, 3) := by decide +kernel
theorem dX9_note_33 : decode cX9_note 33 = .ok (.iconst 0, 1) := by decide +kernel
theorem dX9_note_34 : decode cX9_note 34 = .ok (.istore 4, 2) := by decide +kernel
theorem dX9_note_36 : decode cX9_note 36 = .ok (.iload 4, 2) := by decide +kernel
theorem dX9_note_38 : decode cX9_note 38 = .ok (.ifCond .eq 18, 3) := by decide +kernel
theorem dX9_note_56 : decode cX9_note 56 = .ok (.aload_n 0, 1) := by decide +kernel
theorem dX9_note_57 : decode cX9_note 57 = .ok (.iconst 2, 1) := by decide +kernel
theorem dX9_note_58 : decode cX9_note 58 = .ok (.invokevirtual 255, 3) := by decide +kernel
theorem dX9_note_61 : decode cX9_note 61 = .ok (.ireturn, 1) := by decide +kernel
theorem dX9_note_8 : decode cX9_note 8 = .ok (.iload_n 2, 1) := by decide +kernel
theorem dX9_note_9 : decode cX9_note 9 = .ok (.ifCond .lt 24, 3) := by decide +kernel
theorem dX9_note_12 : decode cX9_note 12 = .ok (.iload_n 2, 1) := by decide +kernel
theorem dX9_note_13 : decode cX9_note 13 = .ok (.bipush 48, 2) := by decide +kernel
theorem dX9_note_15 : decode cX9_note 15 = .ok (.if_icmp .gt 18, 3) := by decide +kernel
theorem dX9_note_18 : decode cX9_note 18 = .ok (.iload_n 3, 1) := by decide +kernel
theorem dX9_note_19 : decode cX9_note 19 = .ok (.ifCond .lt 14, 3) := by decide +kernel
theorem dX9_note_22 : decode cX9_note 22 = .ok (.iload_n 3, 1) := by decide +kernel
theorem dX9_note_23 : decode cX9_note 23 = .ok (.sipush 9999, 3) := by decide +kernel
theorem dX9_note_26 : decode cX9_note 26 = .ok (.if_icmp .gt 7, 3) := by decide +kernel
theorem dX9_note_29 : decode cX9_note 29 = .ok (.iconst 1, 1) := by decide +kernel
theorem dX9_note_30 : decode cX9_note 30 = .ok (.goto 4, 3) := by decide +kernel
theorem dX9_note_41 : decode cX9_note 41 = .ok (.aload_n 0, 1) := by decide +kernel
theorem dX9_note_42 : decode cX9_note 42 = .ok (.getfield 37, 3) := by decide +kernel
theorem dX9_note_45 : decode cX9_note 45 = .ok (.getfield 156, 3) := by decide +kernel
theorem dX9_note_48 : decode cX9_note 48 = .ok (.getfield 160, 3) := by decide +kernel
theorem dX9_note_51 : decode cX9_note 51 = .ok (.bipush 8, 2) := by decide +kernel
theorem dX9_note_53 : decode cX9_note 53 = .ok (.if_icmp .lt 9, 3) := by decide +kernel
theorem dX9_note_62 : decode cX9_note 62 = .ok (.aload_n 0, 1) := by decide +kernel
theorem dX9_note_63 : decode cX9_note 63 = .ok (.getfield 37, 3) := by decide +kernel
theorem dX9_note_66 : decode cX9_note 66 = .ok (.getfield 156, 3) := by decide +kernel
theorem dX9_note_69 : decode cX9_note 69 = .ok (.iload_n 1, 1) := by decide +kernel
theorem dX9_note_70 : decode cX9_note 70 = .ok (.iload_n 2, 1) := by decide +kernel
theorem dX9_note_71 : decode cX9_note 71 = .ok (.iload_n 3, 1) := by decide +kernel
theorem dX9_note_72 : decode cX9_note 72 = .ok (.invokevirtual 373, 3) := by decide +kernel
theorem dX9_note_75 : decode cX9_note 75 = .ok (.aload_n 0, 1) := by decide +kernel
theorem dX9_note_76 : decode cX9_note 76 = .ok (.getfield 37, 3) := by decide +kernel
theorem dX9_note_79 : decode cX9_note 79 = .ok (.getfield 156, 3) := by decide +kernel
theorem dX9_note_82 : decode cX9_note 82 = .ok (.getfield 160, 3) := by decide +kernel
theorem dX9_note_85 : decode cX9_note 85 = .ok (.ireturn, 1) := by decide +kernel
theorem dX9_forget_0 : decode cX9_forget 0 = .ok (.aload_n 0, 1) := by decide +kernel
theorem dX9_forget_1 : decode cX9_forget 1 = .ok (.getfield 37, 3) := by decide +kernel
theorem dX9_forget_4 : decode cX9_forget 4 = .ok (.getfield 156, 3) := by decide +kernel
theorem dX9_forget_7 : decode cX9_forget 7 = .ok (.iconst 0, 1) := by decide +kernel
theorem dX9_forget_8 : decode cX9_forget 8 = .ok (.putfield 160, 3) := by decide +kernel
theorem dX9_forget_11 : decode cX9_forget 11 = .ok (.return_, 1) := by decide +kernel
theorem dX9_image_0 : decode cX9_image 0 = .ok (.aload_n 0, 1) := by decide +kernel
theorem dX9_image_1 : decode cX9_image 1 = .ok (.getfield 41, 3) := by decide +kernel
theorem dX9_image_4 : decode cX9_image 4 = .ok (.aload_n 0, 1) := by decide +kernel
theorem dX9_image_5 : decode cX9_image 5 = .ok (.getfield 37, 3) := by decide +kernel
theorem dX9_image_8 : decode cX9_image 8 = .ok (.invokevirtual 411, 3) := by decide +kernel
theorem dX9_image_11 : decode cX9_image 11 = .ok (.aload_n 0, 1) := by decide +kernel
theorem dX9_image_12 : decode cX9_image 12 = .ok (.iconst 1, 1) := by decide +kernel
theorem dX9_image_13 : decode cX9_image 13 = .ok (.putfield 44, 3) := by decide +kernel
theorem dX9_image_16 : decode cX9_image 16 = .ok (.return_, 1) := by decide +kernel
theorem dX9_restore_0 : decode cX9_restore 0 = .ok (.aload_n 0, 1) := by decide +kernel
theorem dX9_restore_1 : decode cX9_restore 1 = .ok (.getfield 44, 3) := by decide +kernel
theorem dX9_restore_4 : decode cX9_restore 4 = .ok (.ifCond .ne 5, 3) := by decide +kernel
theorem dX9_restore_9 : decode cX9_restore 9 = .ok (.aload_n 0, 1) := by decide +kernel
theorem dX9_restore_10 : decode cX9_restore 10 = .ok (.getfield 37, 3) := by decide +kernel
theorem dX9_restore_13 : decode cX9_restore 13 = .ok (.aload_n 0, 1) := by decide +kernel
theorem dX9_restore_14 : decode cX9_restore 14 = .ok (.getfield 41, 3) := by decide +kernel
theorem dX9_restore_17 : decode cX9_restore 17 = .ok (.invokevirtual 411, 3) := by decide +kernel
theorem dX9_restore_20 : decode cX9_restore 20 = .ok (.iconst 1, 1) := by decide +kernel
theorem dX9_restore_21 : decode cX9_restore 21 = .ok (.ireturn, 1) := by decide +kernel
theorem dX9_restore_7 : decode cX9_restore 7 = .ok (.iconst 0, 1) := by decide +kernel
theorem dX9_restore_8 : decode cX9_restore 8 = .ok (.ireturn, 1) := by decide +kernel
theorem dX9_fault_0 : decode cX9_fault 0 = .ok (.aload_n 0, 1) := by decide +kernel
theorem dX9_fault_1 : decode cX9_fault 1 = .ok (.getfield 17, 3) := by decide +kernel
theorem dX9_fault_4 : decode cX9_fault 4 = .ok (.ireturn, 1) := by decide +kernel
theorem dX9_putBytes_0 : decode cX9_putBytes 0 = .ok (.bipush 24, 2) := by decide +kernel
theorem dX9_putBytes_2 : decode cX9_putBytes 2 = .ok (.istore_n 2, 1) := by decide +kernel
theorem dX9_putBytes_3 : decode cX9_putBytes 3 = .ok (.iload_n 2, 1) := by decide +kernel
theorem dX9_putBytes_4 : decode cX9_putBytes 4 = .ok (.ifCond .lt 44, 3) := by decide +kernel
theorem dX9_putBytes_7 : decode cX9_putBytes 7 = .ok (.aload_n 0, 1) := by decide +kernel
theorem dX9_putBytes_8 : decode cX9_putBytes 8 = .ok (.getfield 13, 3) := by decide +kernel
theorem dX9_putBytes_11 : decode cX9_putBytes 11 = .ok (.aload_n 0, 1) := by decide +kernel
theorem dX9_putBytes_12 : decode cX9_putBytes 12 = .ok (.getfield 9, 3) := by decide +kernel
theorem dX9_putBytes_15 : decode cX9_putBytes 15 = .ok (.arraylength, 1) := by decide +kernel
theorem dX9_putBytes_16 : decode cX9_putBytes 16 = .ok (.if_icmp .ge 32, 3) := by decide +kernel
theorem dX9_putBytes_19 : decode cX9_putBytes 19 = .ok (.aload_n 0, 1) := by decide +kernel
theorem dX9_putBytes_20 : decode cX9_putBytes 20 = .ok (.getfield 9, 3) := by decide +kernel
theorem dX9_putBytes_23 : decode cX9_putBytes 23 = .ok (.aload_n 0, 1) := by decide +kernel
theorem dX9_putBytes_24 : decode cX9_putBytes 24 = .ok (.getfield 13, 3) := by decide +kernel
theorem dX9_putBytes_27 : decode cX9_putBytes 27 = .ok (.iload_n 1, 1) := by decide +kernel
theorem dX9_putBytes_28 : decode cX9_putBytes 28 = .ok (.iload_n 2, 1) := by decide +kernel
theorem dX9_putBytes_29 : decode cX9_putBytes 29 = .ok (.iushr, 1) := by decide +kernel
theorem dX9_putBytes_30 : decode cX9_putBytes 30 = .ok (.i2b, 1) := by decide +kernel
theorem dX9_putBytes_31 : decode cX9_putBytes 31 = .ok (.bastore, 1) := by decide +kernel
theorem dX9_putBytes_32 : decode cX9_putBytes 32 = .ok (.aload_n 0, 1) := by decide +kernel
theorem dX9_putBytes_33 : decode cX9_putBytes 33 = .ok (.dup, 1) := by decide +kernel
theorem dX9_putBytes_34 : decode cX9_putBytes 34 = .ok (.getfield 13, 3) := by decide +kernel
theorem dX9_putBytes_37 : decode cX9_putBytes 37 = .ok (.iconst 1, 1) := by decide +kernel
theorem dX9_putBytes_38 : decode cX9_putBytes 38 = .ok (.iadd, 1) := by decide +kernel
theorem dX9_putBytes_39 : decode cX9_putBytes 39 = .ok (.putfield 13, 3) := by decide +kernel
theorem dX9_putBytes_42 : decode cX9_putBytes 42 = .ok (.iinc 2 (-8), 3) := by decide +kernel
theorem dX9_putBytes_45 : decode cX9_putBytes 45 = .ok (.goto (-42), 3) := by decide +kernel
theorem dX9_putBytes_48 : decode cX9_putBytes 48 = .ok (.return_, 1) := by decide +kernel
theorem dX9_feed_0 : decode cX9_feed 0 = .ok (.aload_n 0, 1) := by decide +kernel
theorem dX9_feed_1 : decode cX9_feed 1 = .ok (.getfield 13, 3) := by decide +kernel
theorem dX9_feed_4 : decode cX9_feed 4 = .ok (.bipush 20, 2) := by decide +kernel
theorem dX9_feed_6 : decode cX9_feed 6 = .ok (.iadd, 1) := by decide +kernel
theorem dX9_feed_7 : decode cX9_feed 7 = .ok (.sipush 900, 3) := by decide +kernel
theorem dX9_feed_10 : decode cX9_feed 10 = .ok (.if_icmp .le 5, 3) := by decide +kernel
theorem dX9_feed_15 : decode cX9_feed 15 = .ok (.aload_n 0, 1) := by decide +kernel
theorem dX9_feed_16 : decode cX9_feed 16 = .ok (.iload_n 1, 1) := by decide +kernel
theorem dX9_feed_17 : decode cX9_feed 17 = .ok (.invokevirtual 82, 3) := by decide +kernel
theorem dX9_feed_20 : decode cX9_feed 20 = .ok (.aload_n 0, 1) := by decide +kernel
theorem dX9_feed_21 : decode cX9_feed 21 = .ok (.iload_n 2, 1) := by decide +kernel
theorem dX9_feed_22 : decode cX9_feed 22 = .ok (.invokevirtual 82, 3) := by decide +kernel
theorem dX9_feed_25 : decode cX9_feed 25 = .ok (.aload_n 0, 1) := by decide +kernel
theorem dX9_feed_26 : decode cX9_feed 26 = .ok (.iload_n 3, 1) := by decide +kernel
theorem dX9_feed_27 : decode cX9_feed 27 = .ok (.invokevirtual 82, 3) := by decide +kernel
theorem dX9_feed_30 : decode cX9_feed 30 = .ok (.aload_n 0, 1) := by decide +kernel
theorem dX9_feed_31 : decode cX9_feed 31 = .ok (.iload 4, 2) := by decide +kernel
theorem dX9_feed_33 : decode cX9_feed 33 = .ok (.invokevirtual 82, 3) := by decide +kernel
theorem dX9_feed_36 : decode cX9_feed 36 = .ok (.aload_n 0, 1) := by decide +kernel
theorem dX9_feed_37 : decode cX9_feed 37 = .ok (.iload 5, 2) := by decide +kernel
theorem dX9_feed_39 : decode cX9_feed 39 = .ok (.invokevirtual 82, 3) := by decide +kernel
theorem dX9_feed_42 : decode cX9_feed 42 = .ok (.aload_n 0, 1) := by decide +kernel
theorem dX9_feed_43 : decode cX9_feed 43 = .ok (.getfield 13, 3) := by decide +kernel
theorem dX9_feed_46 : decode cX9_feed 46 = .ok (.ireturn, 1) := by decide +kernel
theorem dX9_feed_13 : decode cX9_feed 13 = .ok (.iconst (-1), 1) := by decide +kernel
theorem dX9_feed_14 : decode cX9_feed 14 = .ok (.ireturn, 1) := by decide +kernel
end
