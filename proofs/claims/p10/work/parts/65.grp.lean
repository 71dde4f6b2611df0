section
-- 65.words.lean.txt
-- words of clause
theorem q_101 : (Jvm.Cond.fieldLink "SnowRecorder$TextReader" (111 : Nat) "SnowRecorder$Plan" "open" "[I") ∈ AW := AW_m1 101 (by decide +kernel) (by decide +kernel)
theorem q_106 : (Jvm.Cond.fieldLink "SnowRecorder$TextReader" (140 : Nat) "SnowRecorder$Plan" "air" "[I") ∈ AW := AW_m1 106 (by decide +kernel) (by decide +kernel)
theorem q_109 : (Jvm.Cond.fieldLink "SnowRecorder$TextReader" (143 : Nat) "SnowRecorder$Plan" "fall" "[I") ∈ AW := AW_m1 109 (by decide +kernel) (by decide +kernel)
theorem q_112 : (Jvm.Cond.fieldLink "SnowRecorder$TextReader" (146 : Nat) "SnowRecorder$Plan" "much" "[I") ∈ AW := AW_m1 112 (by decide +kernel) (by decide +kernel)
theorem q_114 : (Jvm.Cond.fieldLink "SnowRecorder$TextReader" (155 : Nat) "SnowRecorder$Plan" "table" "[I") ∈ AW := AW_m1 114 (by decide +kernel) (by decide +kernel)
theorem q_157 : (Jvm.Cond.fieldLink "SnowRecorder$TextReader" (118 : Nat) "SnowRecorder$Pack" "size" "I") ∈ AW := AW_m1 157 (by decide +kernel) (by decide +kernel)
theorem q_178 : (Jvm.Cond.fieldLink "SnowRecorder$TextReader" (127 : Nat) "SnowRecorder$World" "names" "I") ∈ AW := AW_m1 178 (by decide +kernel) (by decide +kernel)
theorem q_189 : (Jvm.Cond.fieldLink "SnowRecorder$TextReader" (114 : Nat) "SnowRecorder$World" "packs" "[LSnowRecorder$Pack;") ∈ AW := AW_m1 189 (by decide +kernel) (by decide +kernel)
theorem q_805 : (Jvm.Cond.methodLink "SnowRecorder$TextReader" (67 : Nat) ({ cls := "SnowRecorder$TextReader", name := "readSlope", desc := "(LSnowRecorder$Plan;)V" } : Jvm.MethodName)) ∈ AW := AW_m4 85 (by decide +kernel) (by decide +kernel)
theorem q_807 : (Jvm.Cond.instanceMethod ({ cls := "SnowRecorder$TextReader", name := "readSlope", desc := "(LSnowRecorder$Plan;)V" } : Jvm.MethodName)) ∈ AW := AW_m4 87 (by decide +kernel) (by decide +kernel)
theorem q_808 : (Jvm.Cond.code ({ cls := "SnowRecorder$TextReader", name := "readSlope", desc := "(LSnowRecorder$Plan;)V" } : Jvm.MethodName) prog_9_method_4_code (4 : Nat) (Option.none : Option Jvm.ClassFile.FieldType)) ∈ AW := AW_m4 88 (by decide +kernel) (by decide +kernel)
theorem q_817 : (Jvm.Cond.methodLink "SnowRecorder$TextReader" (101 : Nat) ({ cls := "SnowRecorder$TextReader", name := "number", desc := "(II)I" } : Jvm.MethodName)) ∈ AW := AW_m4 97 (by decide +kernel) (by decide +kernel)
theorem q_819 : (Jvm.Cond.instanceMethod ({ cls := "SnowRecorder$TextReader", name := "number", desc := "(II)I" } : Jvm.MethodName)) ∈ AW := AW_m4 99 (by decide +kernel) (by decide +kernel)
theorem q_820 : (Jvm.Cond.code ({ cls := "SnowRecorder$TextReader", name := "number", desc := "(II)I" } : Jvm.MethodName) prog_9_method_10_code (5 : Nat) (Option.some Jvm.ClassFile.FieldType.int)) ∈ AW := AW_m4 100 (by decide +kernel) (by decide +kernel)
theorem q_821 : (Jvm.Cond.methodLink "SnowRecorder$TextReader" (104 : Nat) ({ cls := "SnowRecorder$TextReader", name := "close", desc := "()V" } : Jvm.MethodName)) ∈ AW := AW_m4 101 (by decide +kernel) (by decide +kernel)
theorem q_823 : (Jvm.Cond.instanceMethod ({ cls := "SnowRecorder$TextReader", name := "close", desc := "()V" } : Jvm.MethodName)) ∈ AW := AW_m4 103 (by decide +kernel) (by decide +kernel)
theorem q_824 : (Jvm.Cond.code ({ cls := "SnowRecorder$TextReader", name := "close", desc := "()V" } : Jvm.MethodName) prog_9_method_11_code (1 : Nat) (Option.none : Option Jvm.ClassFile.FieldType)) ∈ AW := AW_m4 104 (by decide +kernel) (by decide +kernel)
theorem q_826 : (Jvm.Cond.methodLink "SnowRecorder$TextReader" (73 : Nat) ({ cls := "SnowRecorder$TextReader", name := "readLayer", desc := "(LSnowRecorder$Plan;LSnowRecorder$World;)V" } : Jvm.MethodName)) ∈ AW := AW_m4 106 (by decide +kernel) (by decide +kernel)
theorem q_828 : (Jvm.Cond.instanceMethod ({ cls := "SnowRecorder$TextReader", name := "readLayer", desc := "(LSnowRecorder$Plan;LSnowRecorder$World;)V" } : Jvm.MethodName)) ∈ AW := AW_m4 108 (by decide +kernel) (by decide +kernel)
theorem q_829 : (Jvm.Cond.code ({ cls := "SnowRecorder$TextReader", name := "readLayer", desc := "(LSnowRecorder$Plan;LSnowRecorder$World;)V" } : Jvm.MethodName) prog_9_method_5_code (9 : Nat) (Option.none : Option Jvm.ClassFile.FieldType)) ∈ AW := AW_m4 109 (by decide +kernel) (by decide +kernel)
theorem q_830 : (Jvm.Cond.methodLink "SnowRecorder$TextReader" (123 : Nat) ({ cls := "SnowRecorder$TextReader", name := "kind", desc := "()I" } : Jvm.MethodName)) ∈ AW := AW_m4 110 (by decide +kernel) (by decide +kernel)
theorem q_832 : (Jvm.Cond.instanceMethod ({ cls := "SnowRecorder$TextReader", name := "kind", desc := "()I" } : Jvm.MethodName)) ∈ AW := AW_m4 112 (by decide +kernel) (by decide +kernel)
theorem q_833 : (Jvm.Cond.code ({ cls := "SnowRecorder$TextReader", name := "kind", desc := "()I" } : Jvm.MethodName) prog_9_method_9_code (2 : Nat) (Option.some Jvm.ClassFile.FieldType.int)) ∈ AW := AW_m4 113 (by decide +kernel) (by decide +kernel)
theorem q_842 : (Jvm.Cond.methodLink "SnowRecorder$TextReader" (130 : Nat) ({ cls := "SnowRecorder$Pack", name := "add", desc := "(IIIIII)V" } : Jvm.MethodName)) ∈ AW := AW_m4 122 (by decide +kernel) (by decide +kernel)
theorem q_844 : (Jvm.Cond.methodLink "SnowRecorder$TextReader" (78 : Nat) ({ cls := "SnowRecorder$TextReader", name := "readHour", desc := "(LSnowRecorder$Plan;)V" } : Jvm.MethodName)) ∈ AW := AW_m4 124 (by decide +kernel) (by decide +kernel)
theorem q_846 : (Jvm.Cond.instanceMethod ({ cls := "SnowRecorder$TextReader", name := "readHour", desc := "(LSnowRecorder$Plan;)V" } : Jvm.MethodName)) ∈ AW := AW_m4 126 (by decide +kernel) (by decide +kernel)
theorem q_847 : (Jvm.Cond.code ({ cls := "SnowRecorder$TextReader", name := "readHour", desc := "(LSnowRecorder$Plan;)V" } : Jvm.MethodName) prog_9_method_6_code (6 : Nat) (Option.none : Option Jvm.ClassFile.FieldType)) ∈ AW := AW_m4 127 (by decide +kernel) (by decide +kernel)
theorem q_848 : (Jvm.Cond.methodLink "SnowRecorder$TextReader" (137 : Nat) ({ cls := "SnowRecorder$TextReader", name := "readFall", desc := "()I" } : Jvm.MethodName)) ∈ AW := AW_m4 128 (by decide +kernel) (by decide +kernel)
theorem q_850 : (Jvm.Cond.instanceMethod ({ cls := "SnowRecorder$TextReader", name := "readFall", desc := "()I" } : Jvm.MethodName)) ∈ AW := AW_m4 130 (by decide +kernel) (by decide +kernel)
theorem q_851 : (Jvm.Cond.code ({ cls := "SnowRecorder$TextReader", name := "readFall", desc := "()I" } : Jvm.MethodName) prog_9_method_7_code (2 : Nat) (Option.some Jvm.ClassFile.FieldType.int)) ∈ AW := AW_m4 131 (by decide +kernel) (by decide +kernel)
theorem q_856 : (Jvm.Cond.methodLink "SnowRecorder$TextReader" (83 : Nat) ({ cls := "SnowRecorder$TextReader", name := "readTable", desc := "(LSnowRecorder$Plan;III)V" } : Jvm.MethodName)) ∈ AW := AW_m4 136 (by decide +kernel) (by decide +kernel)
theorem q_858 : (Jvm.Cond.instanceMethod ({ cls := "SnowRecorder$TextReader", name := "readTable", desc := "(LSnowRecorder$Plan;III)V" } : Jvm.MethodName)) ∈ AW := AW_m4 138 (by decide +kernel) (by decide +kernel)
theorem q_859 : (Jvm.Cond.code ({ cls := "SnowRecorder$TextReader", name := "readTable", desc := "(LSnowRecorder$Plan;III)V" } : Jvm.MethodName) prog_9_method_8_code (7 : Nat) (Option.none : Option Jvm.ClassFile.FieldType)) ∈ AW := AW_m4 139 (by decide +kernel) (by decide +kernel)
theorem q_89 : (Jvm.Cond.fieldLink "SnowRecorder$TextReader" (95 : Nat) "SnowRecorder$Plan" "slopes" "I") ∈ AW := AW_m1 89 (by decide +kernel) (by decide +kernel)
theorem q_94 : (Jvm.Cond.fieldLink "SnowRecorder$TextReader" (134 : Nat) "SnowRecorder$Plan" "hours" "I") ∈ AW := AW_m1 94 (by decide +kernel) (by decide +kernel)
theorem q_97 : (Jvm.Cond.fieldLink "SnowRecorder$TextReader" (107 : Nat) "SnowRecorder$Plan" "steep" "[I") ∈ AW := AW_m1 97 (by decide +kernel) (by decide +kernel)
theorem s_12 : Cond.selects "SnowRecorder$TextReader" ({ cls := "SnowRecorder$TextReader", name := "readSlope", desc := "(LSnowRecorder$Plan;)V" } : Jvm.MethodName) ({ cls := "SnowRecorder$TextReader", name := "readSlope", desc := "(LSnowRecorder$Plan;)V" } : Jvm.MethodName) ∈ AW := AW_m 12 (by decide +kernel) (by decide +kernel)
theorem s_15 : Cond.selects "SnowRecorder$TextReader" ({ cls := "SnowRecorder$TextReader", name := "number", desc := "(II)I" } : Jvm.MethodName) ({ cls := "SnowRecorder$TextReader", name := "number", desc := "(II)I" } : Jvm.MethodName) ∈ AW := AW_m 15 (by decide +kernel) (by decide +kernel)
theorem s_16 : Cond.selects "SnowRecorder$TextReader" ({ cls := "SnowRecorder$TextReader", name := "close", desc := "()V" } : Jvm.MethodName) ({ cls := "SnowRecorder$TextReader", name := "close", desc := "()V" } : Jvm.MethodName) ∈ AW := AW_m 16 (by decide +kernel) (by decide +kernel)
theorem s_17 : Cond.selects "SnowRecorder$TextReader" ({ cls := "SnowRecorder$TextReader", name := "readLayer", desc := "(LSnowRecorder$Plan;LSnowRecorder$World;)V" } : Jvm.MethodName) ({ cls := "SnowRecorder$TextReader", name := "readLayer", desc := "(LSnowRecorder$Plan;LSnowRecorder$World;)V" } : Jvm.MethodName) ∈ AW := AW_m 17 (by decide +kernel) (by decide +kernel)
theorem s_18 : Cond.selects "SnowRecorder$TextReader" ({ cls := "SnowRecorder$TextReader", name := "kind", desc := "()I" } : Jvm.MethodName) ({ cls := "SnowRecorder$TextReader", name := "kind", desc := "()I" } : Jvm.MethodName) ∈ AW := AW_m 18 (by decide +kernel) (by decide +kernel)
theorem s_19 : Cond.selects "SnowRecorder$TextReader" ({ cls := "SnowRecorder$TextReader", name := "readHour", desc := "(LSnowRecorder$Plan;)V" } : Jvm.MethodName) ({ cls := "SnowRecorder$TextReader", name := "readHour", desc := "(LSnowRecorder$Plan;)V" } : Jvm.MethodName) ∈ AW := AW_m 19 (by decide +kernel) (by decide +kernel)
theorem s_20 : Cond.selects "SnowRecorder$TextReader" ({ cls := "SnowRecorder$TextReader", name := "readFall", desc := "()I" } : Jvm.MethodName) ({ cls := "SnowRecorder$TextReader", name := "readFall", desc := "()I" } : Jvm.MethodName) ∈ AW := AW_m 20 (by decide +kernel) (by decide +kernel)
theorem s_21 : Cond.selects "SnowRecorder$TextReader" ({ cls := "SnowRecorder$TextReader", name := "readTable", desc := "(LSnowRecorder$Plan;III)V" } : Jvm.MethodName) ({ cls := "SnowRecorder$TextReader", name := "readTable", desc := "(LSnowRecorder$Plan;III)V" } : Jvm.MethodName) ∈ AW := AW_m 21 (by decide +kernel) (by decide +kernel)
theorem hd_yX7_number : yX7_number.cls ≠ "java/lang/invoke/MethodHandle" ∧ yX7_number.cls ≠ "java/lang/invoke/VarHandle" ∧ (parseMethodDescriptor yX7_number.desc).map (fun d => d.parameters.length) = some 2 := by decide +kernel
theorem hd_yX7_close : yX7_close.cls ≠ "java/lang/invoke/MethodHandle" ∧ yX7_close.cls ≠ "java/lang/invoke/VarHandle" ∧ (parseMethodDescriptor yX7_close.desc).map (fun d => d.parameters.length) = some 0 := by decide +kernel
theorem hd_yX7_readFall : yX7_readFall.cls ≠ "java/lang/invoke/MethodHandle" ∧ yX7_readFall.cls ≠ "java/lang/invoke/VarHandle" ∧ (parseMethodDescriptor yX7_readFall.desc).map (fun d => d.parameters.length) = some 0 := by decide +kernel
theorem hd_yX7_kind : yX7_kind.cls ≠ "java/lang/invoke/MethodHandle" ∧ yX7_kind.cls ≠ "java/lang/invoke/VarHandle" ∧ (parseMethodDescriptor yX7_kind.desc).map (fun d => d.parameters.length) = some 0 := by decide +kernel
theorem hd_yX7_readTable : yX7_readTable.cls ≠ "java/lang/invoke/MethodHandle" ∧ yX7_readTable.cls ≠ "java/lang/invoke/VarHandle" ∧ (parseMethodDescriptor yX7_readTable.desc).map (fun d => d.parameters.length) = some 4 := by decide +kernel
theorem hd_yX7_readHour : yX7_readHour.cls ≠ "java/lang/invoke/MethodHandle" ∧ yX7_readHour.cls ≠ "java/lang/invoke/VarHandle" ∧ (parseMethodDescriptor yX7_readHour.desc).map (fun d => d.parameters.length) = some 1 := by decide +kernel
theorem hd_yX7_readLayer : yX7_readLayer.cls ≠ "java/lang/invoke/MethodHandle" ∧ yX7_readLayer.cls ≠ "java/lang/invoke/VarHandle" ∧ (parseMethodDescriptor yX7_readLayer.desc).map (fun d => d.parameters.length) = some 2 := by decide +kernel
theorem hd_yX7_readSlope : yX7_readSlope.cls ≠ "java/lang/invoke/MethodHandle" ∧ yX7_readSlope.cls ≠ "java/lang/invoke/VarHandle" ∧ (parseMethodDescriptor yX7_readSlope.desc).map (fun d => d.parameters.length) = some 1 := by decide +kernel
theorem mv_yX7_number : zWv yX7_number cX7_number 5 (some .int) := ⟨q_819, s_15, q_2, q_820⟩
theorem mv_yX7_close : zWv yX7_close cX7_close 1 none := ⟨q_823, s_16, q_2, q_824⟩
theorem mv_yX7_readFall : zWv yX7_readFall cX7_readFall 2 (some .int) := ⟨q_850, s_20, q_2, q_851⟩
theorem mv_yX7_kind : zWv yX7_kind cX7_kind 2 (some .int) := ⟨q_832, s_18, q_2, q_833⟩
theorem mv_yX7_readTable : zWv yX7_readTable cX7_readTable 7 none := ⟨q_858, s_21, q_2, q_859⟩
theorem mv_yX7_readHour : zWv yX7_readHour cX7_readHour 6 none := ⟨q_846, s_19, q_2, q_847⟩
theorem mv_yX7_readLayer : zWv yX7_readLayer cX7_readLayer 9 none := ⟨q_828, s_17, q_2, q_829⟩
theorem mv_yX7_readSlope : zWv yX7_readSlope cX7_readSlope 4 none := ⟨q_807, s_12, q_2, q_808⟩
end
section
-- 66.dec.lean.txt
-- decode rows of clause
theorem dX7_readSlope_0 : decode cX7_readSlope 0 = .ok (.aload_n 1, 1) := by decide +kernel
theorem dX7_readSlope_1 : decode cX7_readSlope 1 = .ok (.getfield 95, 3) := by decide +kernel
theorem dX7_readSlope_4 : decode cX7_readSlope 4 = .ok (.iconst 4, 1) := by decide +kernel
theorem dX7_readSlope_5 : decode cX7_readSlope 5 = .ok (.if_icmp .lt 12, 3) := by decide +kernel
theorem dX7_readSlope_17 : decode cX7_readSlope 17 = .ok (.aload_n 0, 1) := by decide +kernel
theorem dX7_readSlope_18 : decode cX7_readSlope 18 = .ok (.invokevirtual 98, 3) := by decide +kernel
theorem dX7_readSlope_21 : decode cX7_readSlope 21 = .ok (.aload_n 0, 1) := by decide +kernel
theorem dX7_readSlope_22 : decode cX7_readSlope 22 = .ok (.iconst 0, 1) := by decide +kernel
theorem dX7_readSlope_23 : decode cX7_readSlope 23 = .ok (.bipush 90, 2) := by decide +kernel
theorem dX7_readSlope_25 : decode cX7_readSlope 25 = .ok (.invokevirtual 101, 3) := by decide +kernel
theorem dX7_readSlope_28 : decode cX7_readSlope 28 = .ok (.istore_n 2, 1) := by decide +kernel
theorem dX7_readSlope_29 : decode cX7_readSlope 29 = .ok (.aload_n 0, 1) := by decide +kernel
theorem dX7_readSlope_30 : decode cX7_readSlope 30 = .ok (.iconst 0, 1) := by decide +kernel
theorem dX7_readSlope_31 : decode cX7_readSlope 31 = .ok (.bipush 20, 2) := by decide +kernel
theorem dX7_readSlope_33 : decode cX7_readSlope 33 = .ok (.invokevirtual 101, 3) := by decide +kernel
theorem dX7_readSlope_36 : decode cX7_readSlope 36 = .ok (.istore_n 3, 1) := by decide +kernel
theorem dX7_readSlope_37 : decode cX7_readSlope 37 = .ok (.aload_n 0, 1) := by decide +kernel
theorem dX7_readSlope_38 : decode cX7_readSlope 38 = .ok (.invokevirtual 104, 3) := by decide +kernel
theorem dX7_readSlope_41 : decode cX7_readSlope 41 = .ok (.aload_n 0, 1) := by decide +kernel
theorem dX7_readSlope_42 : decode cX7_readSlope 42 = .ok (.getfield 15, 3) := by decide +kernel
theorem dX7_readSlope_45 : decode cX7_readSlope 45 = .ok (.ifCond .ne 33, 3) := by decide +kernel
theorem dX7_readSlope_78 : decode cX7_readSlope 78 = .ok (.return_, 1) := by decide +kernel
theorem dX7_readSlope_48 : decode cX7_readSlope 48 = .ok (.aload_n 1, 1) := by decide +kernel
theorem dX7_readSlope_49 : decode cX7_readSlope 49 = .ok (.getfield 107, 3) := by decide +kernel
theorem dX7_readSlope_52 : decode cX7_readSlope 52 = .ok (.aload_n 1, 1) := by decide +kernel
theorem dX7_readSlope_53 : decode cX7_readSlope 53 = .ok (.getfield 95, 3) := by decide +kernel
theorem dX7_readSlope_56 : decode cX7_readSlope 56 = .ok (.iload_n 2, 1) := by decide +kernel
theorem dX7_readSlope_57 : decode cX7_readSlope 57 = .ok (.iastore, 1) := by decide +kernel
theorem dX7_readSlope_58 : decode cX7_readSlope 58 = .ok (.aload_n 1, 1) := by decide +kernel
theorem dX7_readSlope_59 : decode cX7_readSlope 59 = .ok (.getfield 111, 3) := by decide +kernel
theorem dX7_readSlope_62 : decode cX7_readSlope 62 = .ok (.aload_n 1, 1) := by decide +kernel
theorem dX7_readSlope_63 : decode cX7_readSlope 63 = .ok (.getfield 95, 3) := by decide +kernel
theorem dX7_readSlope_66 : decode cX7_readSlope 66 = .ok (.iload_n 3, 1) := by decide +kernel
theorem dX7_readSlope_67 : decode cX7_readSlope 67 = .ok (.iastore, 1) := by decide +kernel
theorem dX7_readSlope_68 : decode cX7_readSlope 68 = .ok (.aload_n 1, 1) := by decide +kernel
theorem dX7_readSlope_69 : decode cX7_readSlope 69 = .ok (.dup, 1) := by decide +kernel
theorem dX7_readSlope_70 : decode cX7_readSlope 70 = .ok (.getfield 95, 3) := by decide +kernel
theorem dX7_readSlope_73 : decode cX7_readSlope 73 = .ok (.iconst 1, 1) := by decide +kernel
theorem dX7_readSlope_74 : decode cX7_readSlope 74 = .ok (.iadd, 1) := by decide +kernel
theorem dX7_readSlope_75 : decode cX7_readSlope 75 = .ok (.putfield 95, 3) := by decide +kernel
theorem dX7_readSlope_8 : decode cX7_readSlope 8 = .ok (.aload_n 0, 1) := by decide +kernel
theorem dX7_readSlope_9 : decode cX7_readSlope 9 = .ok (.iconst 2, 1) := by decide +kernel
theorem dX7_readSlope_10 : decode cX7_readSlope 10 = .ok (.aload_n 0, 1) := by decide +kernel
theorem dX7_readSlope_11 : decode cX7_readSlope 11 = .ok (.getfield 28, 3) := by decide +kernel
theorem dX7_readSlope_14 : decode cX7_readSlope 14 = .ok (.invokevirtual 91, 3) := by decide +kernel
theorem dX7_readHour_93 : decode cX7_readHour 93 = .ok (.aload_n 0, 1) := by decide +kernel
theorem dX7_readHour_94 : decode cX7_readHour 94 = .ok (.invokevirtual 104, 3) := by decide +kernel
theorem dX7_readHour_97 : decode cX7_readHour 97 = .ok (.aload_n 0, 1) := by decide +kernel
theorem dX7_readHour_98 : decode cX7_readHour 98 = .ok (.getfield 15, 3) := by decide +kernel
theorem dX7_readHour_101 : decode cX7_readHour 101 = .ok (.ifCond .ne 54, 3) := by decide +kernel
theorem dX7_readHour_155 : decode cX7_readHour 155 = .ok (.return_, 1) := by decide +kernel
theorem dX7_readHour_104 : decode cX7_readHour 104 = .ok (.aload_n 1, 1) := by decide +kernel
theorem dX7_readHour_105 : decode cX7_readHour 105 = .ok (.getfield 140, 3) := by decide +kernel
theorem dX7_readHour_108 : decode cX7_readHour 108 = .ok (.aload_n 1, 1) := by decide +kernel
theorem dX7_readHour_109 : decode cX7_readHour 109 = .ok (.getfield 134, 3) := by decide +kernel
theorem dX7_readHour_112 : decode cX7_readHour 112 = .ok (.iload_n 2, 1) := by decide +kernel
theorem dX7_readHour_113 : decode cX7_readHour 113 = .ok (.ifCond .eq 8, 3) := by decide +kernel
theorem dX7_readHour_121 : decode cX7_readHour 121 = .ok (.iload_n 3, 1) := by decide +kernel
theorem dX7_readHour_122 : decode cX7_readHour 122 = .ok (.iastore, 1) := by decide +kernel
theorem dX7_readHour_123 : decode cX7_readHour 123 = .ok (.aload_n 1, 1) := by decide +kernel
theorem dX7_readHour_124 : decode cX7_readHour 124 = .ok (.getfield 143, 3) := by decide +kernel
theorem dX7_readHour_127 : decode cX7_readHour 127 = .ok (.aload_n 1, 1) := by decide +kernel
theorem dX7_readHour_128 : decode cX7_readHour 128 = .ok (.getfield 134, 3) := by decide +kernel
theorem dX7_readHour_131 : decode cX7_readHour 131 = .ok (.iload 4, 2) := by decide +kernel
theorem dX7_readHour_133 : decode cX7_readHour 133 = .ok (.iastore, 1) := by decide +kernel
theorem dX7_readHour_134 : decode cX7_readHour 134 = .ok (.aload_n 1, 1) := by decide +kernel
theorem dX7_readHour_135 : decode cX7_readHour 135 = .ok (.getfield 146, 3) := by decide +kernel
theorem dX7_readHour_138 : decode cX7_readHour 138 = .ok (.aload_n 1, 1) := by decide +kernel
theorem dX7_readHour_139 : decode cX7_readHour 139 = .ok (.getfield 134, 3) := by decide +kernel
theorem dX7_readHour_142 : decode cX7_readHour 142 = .ok (.iload 5, 2) := by decide +kernel
theorem dX7_readHour_144 : decode cX7_readHour 144 = .ok (.iastore, 1) := by decide +kernel
theorem dX7_readHour_145 : decode cX7_readHour 145 = .ok (.aload_n 1, 1) := by decide +kernel
theorem dX7_readHour_146 : decode cX7_readHour 146 = .ok (.dup, 1) := by decide +kernel
theorem dX7_readHour_147 : decode cX7_readHour 147 = .ok (.getfield 134, 3) := by decide +kernel
theorem dX7_readHour_150 : decode cX7_readHour 150 = .ok (.iconst 1, 1) := by decide +kernel
theorem dX7_readHour_151 : decode cX7_readHour 151 = .ok (.iadd, 1) := by decide +kernel
theorem dX7_readHour_152 : decode cX7_readHour 152 = .ok (.putfield 134, 3) := by decide +kernel
theorem dX7_readHour_116 : decode cX7_readHour 116 = .ok (.iload_n 3, 1) := by decide +kernel
theorem dX7_readHour_117 : decode cX7_readHour 117 = .ok (.ineg, 1) := by decide +kernel
theorem dX7_readHour_118 : decode cX7_readHour 118 = .ok (.goto 4, 3) := by decide +kernel
theorem dX7_readHour_62 : decode cX7_readHour 62 = .ok (.aload_n 0, 1) := by decide +kernel
theorem dX7_readHour_63 : decode cX7_readHour 63 = .ok (.invokevirtual 137, 3) := by decide +kernel
theorem dX7_readHour_66 : decode cX7_readHour 66 = .ok (.istore 4, 2) := by decide +kernel
theorem dX7_readHour_68 : decode cX7_readHour 68 = .ok (.iload 4, 2) := by decide +kernel
theorem dX7_readHour_70 : decode cX7_readHour 70 = .ok (.iconst 1, 1) := by decide +kernel
theorem dX7_readHour_71 : decode cX7_readHour 71 = .ok (.if_icmp .eq 9, 3) := by decide +kernel
theorem dX7_readHour_80 : decode cX7_readHour 80 = .ok (.aload_n 0, 1) := by decide +kernel
theorem dX7_readHour_81 : decode cX7_readHour 81 = .ok (.iconst 1, 1) := by decide +kernel
theorem dX7_readHour_82 : decode cX7_readHour 82 = .ok (.bipush 50, 2) := by decide +kernel
theorem dX7_readHour_84 : decode cX7_readHour 84 = .ok (.invokevirtual 101, 3) := by decide +kernel
theorem dX7_readHour_87 : decode cX7_readHour 87 = .ok (.goto 4, 3) := by decide +kernel
theorem dX7_readHour_91 : decode cX7_readHour 91 = .ok (.istore 5, 2) := by decide +kernel
theorem dX7_readHour_74 : decode cX7_readHour 74 = .ok (.iload 4, 2) := by decide +kernel
theorem dX7_readHour_76 : decode cX7_readHour 76 = .ok (.iconst 2, 1) := by decide +kernel
theorem dX7_readHour_77 : decode cX7_readHour 77 = .ok (.if_icmp .ne 13, 3) := by decide +kernel
theorem dX7_readHour_90 : decode cX7_readHour 90 = .ok (.iconst 0, 1) := by decide +kernel
theorem dX7_readHour_44 : decode cX7_readHour 44 = .ok (.aload_n 0, 1) := by decide +kernel
theorem dX7_readHour_45 : decode cX7_readHour 45 = .ok (.iconst 0, 1) := by decide +kernel
theorem dX7_readHour_46 : decode cX7_readHour 46 = .ok (.iload_n 2, 1) := by decide +kernel
theorem dX7_readHour_47 : decode cX7_readHour 47 = .ok (.ifCond .eq 9, 3) := by decide +kernel
theorem dX7_readHour_56 : decode cX7_readHour 56 = .ok (.bipush 100, 2) := by decide +kernel
theorem dX7_readHour_58 : decode cX7_readHour 58 = .ok (.invokevirtual 101, 3) := by decide +kernel
theorem dX7_readHour_61 : decode cX7_readHour 61 = .ok (.istore_n 3, 1) := by decide +kernel
theorem dX7_readHour_50 : decode cX7_readHour 50 = .ok (.sipush 300, 3) := by decide +kernel
theorem dX7_readHour_53 : decode cX7_readHour 53 = .ok (.goto 5, 3) := by decide +kernel
theorem dX7_readHour_18 : decode cX7_readHour 18 = .ok (.aload_n 0, 1) := by decide +kernel
theorem dX7_readHour_19 : decode cX7_readHour 19 = .ok (.invokevirtual 98, 3) := by decide +kernel
theorem dX7_readHour_22 : decode cX7_readHour 22 = .ok (.aload_n 0, 1) := by decide +kernel
theorem dX7_readHour_23 : decode cX7_readHour 23 = .ok (.getfield 25, 3) := by decide +kernel
theorem dX7_readHour_26 : decode cX7_readHour 26 = .ok (.iconst 4, 1) := by decide +kernel
theorem dX7_readHour_27 : decode cX7_readHour 27 = .ok (.if_icmp .ne 7, 3) := by decide +kernel
theorem dX7_readHour_34 : decode cX7_readHour 34 = .ok (.iconst 0, 1) := by decide +kernel
theorem dX7_readHour_35 : decode cX7_readHour 35 = .ok (.istore_n 2, 1) := by decide +kernel
theorem dX7_readHour_36 : decode cX7_readHour 36 = .ok (.iload_n 2, 1) := by decide +kernel
theorem dX7_readHour_37 : decode cX7_readHour 37 = .ok (.ifCond .eq 7, 3) := by decide +kernel
theorem dX7_readHour_30 : decode cX7_readHour 30 = .ok (.iconst 1, 1) := by decide +kernel
theorem dX7_readHour_31 : decode cX7_readHour 31 = .ok (.goto 4, 3) := by decide +kernel
theorem dX7_readHour_40 : decode cX7_readHour 40 = .ok (.aload_n 0, 1) := by decide +kernel
theorem dX7_readHour_41 : decode cX7_readHour 41 = .ok (.invokevirtual 98, 3) := by decide +kernel
theorem dX7_readHour_0 : decode cX7_readHour 0 = .ok (.aload_n 1, 1) := by decide +kernel
theorem dX7_readHour_1 : decode cX7_readHour 1 = .ok (.getfield 134, 3) := by decide +kernel
theorem dX7_readHour_4 : decode cX7_readHour 4 = .ok (.bipush 24, 2) := by decide +kernel
theorem dX7_readHour_6 : decode cX7_readHour 6 = .ok (.if_icmp .lt 12, 3) := by decide +kernel
theorem dX7_readHour_9 : decode cX7_readHour 9 = .ok (.aload_n 0, 1) := by decide +kernel
theorem dX7_readHour_10 : decode cX7_readHour 10 = .ok (.iconst 2, 1) := by decide +kernel
theorem dX7_readHour_11 : decode cX7_readHour 11 = .ok (.aload_n 0, 1) := by decide +kernel
theorem dX7_readHour_12 : decode cX7_readHour 12 = .ok (.getfield 28, 3) := by decide +kernel
theorem dX7_readHour_15 : decode cX7_readHour 15 = .ok (.invokevirtual 91, 3) := by decide +kernel
theorem dX7_readTable_0 : decode cX7_readTable 0 = .ok (.aload_n 0, 1) := by decide +kernel
theorem dX7_readTable_1 : decode cX7_readTable 1 = .ok (.invokevirtual 98, 3) := by decide +kernel
theorem dX7_readTable_4 : decode cX7_readTable 4 = .ok (.iload_n 2, 1) := by decide +kernel
theorem dX7_readTable_5 : decode cX7_readTable 5 = .ok (.aload_n 0, 1) := by decide +kernel
theorem dX7_readTable_6 : decode cX7_readTable 6 = .ok (.invokevirtual 123, 3) := by decide +kernel
theorem dX7_readTable_9 : decode cX7_readTable 9 = .ok (.iadd, 1) := by decide +kernel
theorem dX7_readTable_10 : decode cX7_readTable 10 = .ok (.istore 5, 2) := by decide +kernel
theorem dX7_readTable_12 : decode cX7_readTable 12 = .ok (.aload_n 0, 1) := by decide +kernel
theorem dX7_readTable_13 : decode cX7_readTable 13 = .ok (.getfield 37, 3) := by decide +kernel
theorem dX7_readTable_16 : decode cX7_readTable 16 = .ok (.iload 5, 2) := by decide +kernel
theorem dX7_readTable_18 : decode cX7_readTable 18 = .ok (.ishr, 1) := by decide +kernel
theorem dX7_readTable_19 : decode cX7_readTable 19 = .ok (.iconst 1, 1) := by decide +kernel
theorem dX7_readTable_20 : decode cX7_readTable 20 = .ok (.iand, 1) := by decide +kernel
theorem dX7_readTable_21 : decode cX7_readTable 21 = .ok (.iconst 1, 1) := by decide +kernel
theorem dX7_readTable_22 : decode cX7_readTable 22 = .ok (.if_icmp .ne 12, 3) := by decide +kernel
theorem dX7_readTable_34 : decode cX7_readTable 34 = .ok (.aload_n 0, 1) := by decide +kernel
theorem dX7_readTable_35 : decode cX7_readTable 35 = .ok (.iload_n 3, 1) := by decide +kernel
theorem dX7_readTable_36 : decode cX7_readTable 36 = .ok (.iload 4, 2) := by decide +kernel
theorem dX7_readTable_38 : decode cX7_readTable 38 = .ok (.invokevirtual 101, 3) := by decide +kernel
theorem dX7_readTable_41 : decode cX7_readTable 41 = .ok (.istore 6, 2) := by decide +kernel
theorem dX7_readTable_43 : decode cX7_readTable 43 = .ok (.aload_n 0, 1) := by decide +kernel
theorem dX7_readTable_44 : decode cX7_readTable 44 = .ok (.invokevirtual 104, 3) := by decide +kernel
theorem dX7_readTable_47 : decode cX7_readTable 47 = .ok (.aload_n 0, 1) := by decide +kernel
theorem dX7_readTable_48 : decode cX7_readTable 48 = .ok (.getfield 15, 3) := by decide +kernel
theorem dX7_readTable_51 : decode cX7_readTable 51 = .ok (.ifCond .ne 25, 3) := by decide +kernel
theorem dX7_readTable_76 : decode cX7_readTable 76 = .ok (.return_, 1) := by decide +kernel
theorem dX7_readTable_54 : decode cX7_readTable 54 = .ok (.aload_n 0, 1) := by decide +kernel
theorem dX7_readTable_55 : decode cX7_readTable 55 = .ok (.dup, 1) := by decide +kernel
theorem dX7_readTable_56 : decode cX7_readTable 56 = .ok (.getfield 37, 3) := by decide +kernel
theorem dX7_readTable_59 : decode cX7_readTable 59 = .ok (.iconst 1, 1) := by decide +kernel
theorem dX7_readTable_60 : decode cX7_readTable 60 = .ok (.iload 5, 2) := by decide +kernel
theorem dX7_readTable_62 : decode cX7_readTable 62 = .ok (.ishl, 1) := by decide +kernel
theorem dX7_readTable_63 : decode cX7_readTable 63 = .ok (.ior, 1) := by decide +kernel
theorem dX7_readTable_64 : decode cX7_readTable 64 = .ok (.putfield 37, 3) := by decide +kernel
theorem dX7_readTable_67 : decode cX7_readTable 67 = .ok (.aload_n 1, 1) := by decide +kernel
theorem dX7_readTable_68 : decode cX7_readTable 68 = .ok (.getfield 155, 3) := by decide +kernel
theorem dX7_readTable_71 : decode cX7_readTable 71 = .ok (.iload 5, 2) := by decide +kernel
theorem dX7_readTable_73 : decode cX7_readTable 73 = .ok (.iload 6, 2) := by decide +kernel
theorem dX7_readTable_75 : decode cX7_readTable 75 = .ok (.iastore, 1) := by decide +kernel
theorem dX7_readTable_25 : decode cX7_readTable 25 = .ok (.aload_n 0, 1) := by decide +kernel
theorem dX7_readTable_26 : decode cX7_readTable 26 = .ok (.iconst 4, 1) := by decide +kernel
theorem dX7_readTable_27 : decode cX7_readTable 27 = .ok (.aload_n 0, 1) := by decide +kernel
theorem dX7_readTable_28 : decode cX7_readTable 28 = .ok (.getfield 34, 3) := by decide +kernel
theorem dX7_readTable_31 : decode cX7_readTable 31 = .ok (.invokevirtual 91, 3) := by decide +kernel
theorem dX7_readLayer_107 : decode cX7_readLayer 107 = .ok (.aload_n 0, 1) := by decide +kernel
theorem dX7_readLayer_108 : decode cX7_readLayer 108 = .ok (.iconst 0, 1) := by decide +kernel
theorem dX7_readLayer_109 : decode cX7_readLayer 109 = .ok (.sipush 300, 3) := by decide +kernel
theorem dX7_readLayer_112 : decode cX7_readLayer 112 = .ok (.invokevirtual 101, 3) := by decide +kernel
theorem dX7_readLayer_115 : decode cX7_readLayer 115 = .ok (.istore 8, 2) := by decide +kernel
theorem dX7_readLayer_117 : decode cX7_readLayer 117 = .ok (.aload_n 0, 1) := by decide +kernel
theorem dX7_readLayer_118 : decode cX7_readLayer 118 = .ok (.invokevirtual 104, 3) := by decide +kernel
theorem dX7_readLayer_121 : decode cX7_readLayer 121 = .ok (.aload_n 0, 1) := by decide +kernel
theorem dX7_readLayer_122 : decode cX7_readLayer 122 = .ok (.getfield 15, 3) := by decide +kernel
theorem dX7_readLayer_125 : decode cX7_readLayer 125 = .ok (.ifCond .ne 37, 3) := by decide +kernel
theorem dX7_readLayer_162 : decode cX7_readLayer 162 = .ok (.return_, 1) := by decide +kernel
theorem dX7_readLayer_128 : decode cX7_readLayer 128 = .ok (.aload_n 2, 1) := by decide +kernel
theorem dX7_readLayer_129 : decode cX7_readLayer 129 = .ok (.getfield 114, 3) := by decide +kernel
theorem dX7_readLayer_132 : decode cX7_readLayer 132 = .ok (.iload_n 3, 1) := by decide +kernel
theorem dX7_readLayer_133 : decode cX7_readLayer 133 = .ok (.aaload, 1) := by decide +kernel
theorem dX7_readLayer_134 : decode cX7_readLayer 134 = .ok (.iload 4, 2) := by decide +kernel
theorem dX7_readLayer_136 : decode cX7_readLayer 136 = .ok (.iload 5, 2) := by decide +kernel
theorem dX7_readLayer_138 : decode cX7_readLayer 138 = .ok (.iload 6, 2) := by decide +kernel
theorem dX7_readLayer_140 : decode cX7_readLayer 140 = .ok (.iload 7, 2) := by decide +kernel
theorem dX7_readLayer_142 : decode cX7_readLayer 142 = .ok (.iload 8, 2) := by decide +kernel
theorem dX7_readLayer_144 : decode cX7_readLayer 144 = .ok (.ineg, 1) := by decide +kernel
theorem dX7_readLayer_145 : decode cX7_readLayer 145 = .ok (.aload_n 2, 1) := by decide +kernel
theorem dX7_readLayer_146 : decode cX7_readLayer 146 = .ok (.getfield 127, 3) := by decide +kernel
theorem dX7_readLayer_149 : decode cX7_readLayer 149 = .ok (.invokevirtual 130, 3) := by decide +kernel
theorem dX7_readLayer_152 : decode cX7_readLayer 152 = .ok (.aload_n 2, 1) := by decide +kernel
theorem dX7_readLayer_153 : decode cX7_readLayer 153 = .ok (.dup, 1) := by decide +kernel
theorem dX7_readLayer_154 : decode cX7_readLayer 154 = .ok (.getfield 127, 3) := by decide +kernel
theorem dX7_readLayer_157 : decode cX7_readLayer 157 = .ok (.iconst 1, 1) := by decide +kernel
theorem dX7_readLayer_158 : decode cX7_readLayer 158 = .ok (.iadd, 1) := by decide +kernel
theorem dX7_readLayer_159 : decode cX7_readLayer 159 = .ok (.putfield 127, 3) := by decide +kernel
theorem dX7_readLayer_54 : decode cX7_readLayer 54 = .ok (.aload_n 0, 1) := by decide +kernel
theorem dX7_readLayer_55 : decode cX7_readLayer 55 = .ok (.invokevirtual 123, 3) := by decide +kernel
theorem dX7_readLayer_58 : decode cX7_readLayer 58 = .ok (.istore 4, 2) := by decide +kernel
theorem dX7_readLayer_60 : decode cX7_readLayer 60 = .ok (.aload_n 0, 1) := by decide +kernel
theorem dX7_readLayer_61 : decode cX7_readLayer 61 = .ok (.iconst 1, 1) := by decide +kernel
theorem dX7_readLayer_62 : decode cX7_readLayer 62 = .ok (.bipush 99, 2) := by decide +kernel
theorem dX7_readLayer_64 : decode cX7_readLayer 64 = .ok (.invokevirtual 101, 3) := by decide +kernel
theorem dX7_readLayer_67 : decode cX7_readLayer 67 = .ok (.istore 5, 2) := by decide +kernel
theorem dX7_readLayer_69 : decode cX7_readLayer 69 = .ok (.aload_n 0, 1) := by decide +kernel
theorem dX7_readLayer_70 : decode cX7_readLayer 70 = .ok (.iconst 0, 1) := by decide +kernel
theorem dX7_readLayer_71 : decode cX7_readLayer 71 = .ok (.bipush 99, 2) := by decide +kernel
theorem dX7_readLayer_73 : decode cX7_readLayer 73 = .ok (.invokevirtual 101, 3) := by decide +kernel
theorem dX7_readLayer_76 : decode cX7_readLayer 76 = .ok (.istore 6, 2) := by decide +kernel
theorem dX7_readLayer_78 : decode cX7_readLayer 78 = .ok (.aload_n 0, 1) := by decide +kernel
theorem dX7_readLayer_79 : decode cX7_readLayer 79 = .ok (.iconst 1, 1) := by decide +kernel
theorem dX7_readLayer_80 : decode cX7_readLayer 80 = .ok (.sipush 999, 3) := by decide +kernel
theorem dX7_readLayer_83 : decode cX7_readLayer 83 = .ok (.invokevirtual 101, 3) := by decide +kernel
theorem dX7_readLayer_86 : decode cX7_readLayer 86 = .ok (.istore 7, 2) := by decide +kernel
theorem dX7_readLayer_88 : decode cX7_readLayer 88 = .ok (.iload 7, 2) := by decide +kernel
theorem dX7_readLayer_90 : decode cX7_readLayer 90 = .ok (.iload 5, 2) := by decide +kernel
theorem dX7_readLayer_92 : decode cX7_readLayer 92 = .ok (.iload 6, 2) := by decide +kernel
theorem dX7_readLayer_94 : decode cX7_readLayer 94 = .ok (.iadd, 1) := by decide +kernel
theorem dX7_readLayer_95 : decode cX7_readLayer 95 = .ok (.if_icmp .ge 12, 3) := by decide +kernel
theorem dX7_readLayer_98 : decode cX7_readLayer 98 = .ok (.aload_n 0, 1) := by decide +kernel
theorem dX7_readLayer_99 : decode cX7_readLayer 99 = .ok (.iconst 5, 1) := by decide +kernel
theorem dX7_readLayer_100 : decode cX7_readLayer 100 = .ok (.aload_n 0, 1) := by decide +kernel
theorem dX7_readLayer_101 : decode cX7_readLayer 101 = .ok (.getfield 34, 3) := by decide +kernel
theorem dX7_readLayer_104 : decode cX7_readLayer 104 = .ok (.invokevirtual 91, 3) := by decide +kernel
theorem dX7_readLayer_0 : decode cX7_readLayer 0 = .ok (.aload_n 0, 1) := by decide +kernel
theorem dX7_readLayer_1 : decode cX7_readLayer 1 = .ok (.invokevirtual 98, 3) := by decide +kernel
theorem dX7_readLayer_4 : decode cX7_readLayer 4 = .ok (.aload_n 0, 1) := by decide +kernel
theorem dX7_readLayer_5 : decode cX7_readLayer 5 = .ok (.iconst 0, 1) := by decide +kernel
theorem dX7_readLayer_6 : decode cX7_readLayer 6 = .ok (.iconst 3, 1) := by decide +kernel
theorem dX7_readLayer_7 : decode cX7_readLayer 7 = .ok (.invokevirtual 101, 3) := by decide +kernel
theorem dX7_readLayer_10 : decode cX7_readLayer 10 = .ok (.istore_n 3, 1) := by decide +kernel
theorem dX7_readLayer_11 : decode cX7_readLayer 11 = .ok (.iload_n 3, 1) := by decide +kernel
theorem dX7_readLayer_12 : decode cX7_readLayer 12 = .ok (.aload_n 1, 1) := by decide +kernel
theorem dX7_readLayer_13 : decode cX7_readLayer 13 = .ok (.getfield 95, 3) := by decide +kernel
theorem dX7_readLayer_16 : decode cX7_readLayer 16 = .ok (.if_icmp .lt 15, 3) := by decide +kernel
theorem dX7_readLayer_31 : decode cX7_readLayer 31 = .ok (.aload_n 2, 1) := by decide +kernel
theorem dX7_readLayer_32 : decode cX7_readLayer 32 = .ok (.getfield 114, 3) := by decide +kernel
theorem dX7_readLayer_35 : decode cX7_readLayer 35 = .ok (.iload_n 3, 1) := by decide +kernel
theorem dX7_readLayer_36 : decode cX7_readLayer 36 = .ok (.aaload, 1) := by decide +kernel
theorem dX7_readLayer_37 : decode cX7_readLayer 37 = .ok (.getfield 118, 3) := by decide +kernel
theorem dX7_readLayer_40 : decode cX7_readLayer 40 = .ok (.bipush 12, 2) := by decide +kernel
theorem dX7_readLayer_42 : decode cX7_readLayer 42 = .ok (.if_icmp .lt 12, 3) := by decide +kernel
theorem dX7_readLayer_45 : decode cX7_readLayer 45 = .ok (.aload_n 0, 1) := by decide +kernel
theorem dX7_readLayer_46 : decode cX7_readLayer 46 = .ok (.iconst 2, 1) := by decide +kernel
theorem dX7_readLayer_47 : decode cX7_readLayer 47 = .ok (.aload_n 0, 1) := by decide +kernel
theorem dX7_readLayer_48 : decode cX7_readLayer 48 = .ok (.getfield 34, 3) := by decide +kernel
theorem dX7_readLayer_51 : decode cX7_readLayer 51 = .ok (.invokevirtual 91, 3) := by decide +kernel
theorem dX7_readLayer_19 : decode cX7_readLayer 19 = .ok (.aload_n 0, 1) := by decide +kernel
theorem dX7_readLayer_20 : decode cX7_readLayer 20 = .ok (.iconst 3, 1) := by decide +kernel
theorem dX7_readLayer_21 : decode cX7_readLayer 21 = .ok (.aload_n 0, 1) := by decide +kernel
theorem dX7_readLayer_22 : decode cX7_readLayer 22 = .ok (.getfield 34, 3) := by decide +kernel
theorem dX7_readLayer_25 : decode cX7_readLayer 25 = .ok (.invokevirtual 91, 3) := by decide +kernel
theorem dX7_readLayer_28 : decode cX7_readLayer 28 = .ok (.goto 26, 3) := by decide +kernel
theorem dX7_readClause_0 : decode cX7_readClause 0 = .ok (.aload_n 0, 1) := by decide +kernel
theorem dX7_readClause_1 : decode cX7_readClause 1 = .ok (.ldc 61, 2) := by decide +kernel
theorem dX7_readClause_3 : decode cX7_readClause 3 = .ok (.invokevirtual 63, 3) := by decide +kernel
theorem dX7_readClause_6 : decode cX7_readClause 6 = .ok (.ifCond .eq 11, 3) := by decide +kernel
theorem dX7_readClause_17 : decode cX7_readClause 17 = .ok (.aload_n 0, 1) := by decide +kernel
theorem dX7_readClause_18 : decode cX7_readClause 18 = .ok (.ldc 71, 2) := by decide +kernel
theorem dX7_readClause_20 : decode cX7_readClause 20 = .ok (.invokevirtual 63, 3) := by decide +kernel
theorem dX7_readClause_23 : decode cX7_readClause 23 = .ok (.ifCond .eq 12, 3) := by decide +kernel
theorem dX7_readClause_35 : decode cX7_readClause 35 = .ok (.aload_n 0, 1) := by decide +kernel
theorem dX7_readClause_36 : decode cX7_readClause 36 = .ok (.ldc 76, 2) := by decide +kernel
theorem dX7_readClause_38 : decode cX7_readClause 38 = .ok (.invokevirtual 63, 3) := by decide +kernel
theorem dX7_readClause_41 : decode cX7_readClause 41 = .ok (.ifCond .eq 11, 3) := by decide +kernel
theorem dX7_readClause_52 : decode cX7_readClause 52 = .ok (.aload_n 0, 1) := by decide +kernel
theorem dX7_readClause_53 : decode cX7_readClause 53 = .ok (.ldc 81, 2) := by decide +kernel
theorem dX7_readClause_55 : decode cX7_readClause 55 = .ok (.invokevirtual 63, 3) := by decide +kernel
theorem dX7_readClause_58 : decode cX7_readClause 58 = .ok (.ifCond .eq 15, 3) := by decide +kernel
theorem dX7_readClause_73 : decode cX7_readClause 73 = .ok (.aload_n 0, 1) := by decide +kernel
theorem dX7_readClause_74 : decode cX7_readClause 74 = .ok (.ldc 87, 2) := by decide +kernel
theorem dX7_readClause_76 : decode cX7_readClause 76 = .ok (.invokevirtual 63, 3) := by decide +kernel
theorem dX7_readClause_79 : decode cX7_readClause 79 = .ok (.ifCond .eq 15, 3) := by decide +kernel
theorem dX7_readClause_94 : decode cX7_readClause 94 = .ok (.aload_n 0, 1) := by decide +kernel
theorem dX7_readClause_95 : decode cX7_readClause 95 = .ok (.ldc 89, 2) := by decide +kernel
theorem dX7_readClause_97 : decode cX7_readClause 97 = .ok (.invokevirtual 63, 3) := by decide +kernel
theorem dX7_readClause_100 : decode cX7_readClause 100 = .ok (.ifCond .eq 17, 3) := by decide +kernel
theorem dX7_readClause_117 : decode cX7_readClause 117 = .ok (.aload_n 0, 1) := by decide +kernel
theorem dX7_readClause_118 : decode cX7_readClause 118 = .ok (.iconst 1, 1) := by decide +kernel
theorem dX7_readClause_119 : decode cX7_readClause 119 = .ok (.aload_n 0, 1) := by decide +kernel
theorem dX7_readClause_120 : decode cX7_readClause 120 = .ok (.getfield 28, 3) := by decide +kernel
theorem dX7_readClause_123 : decode cX7_readClause 123 = .ok (.invokevirtual 91, 3) := by decide +kernel
theorem dX7_readClause_126 : decode cX7_readClause 126 = .ok (.return_, 1) := by decide +kernel
theorem dX7_readClause_103 : decode cX7_readClause 103 = .ok (.aload_n 0, 1) := by decide +kernel
theorem dX7_readClause_104 : decode cX7_readClause 104 = .ok (.aload_n 1, 1) := by decide +kernel
theorem dX7_readClause_105 : decode cX7_readClause 105 = .ok (.bipush 10, 2) := by decide +kernel
theorem dX7_readClause_107 : decode cX7_readClause 107 = .ok (.iconst 1, 1) := by decide +kernel
theorem dX7_readClause_108 : decode cX7_readClause 108 = .ok (.sipush 9999, 3) := by decide +kernel
theorem dX7_readClause_111 : decode cX7_readClause 111 = .ok (.invokevirtual 83, 3) := by decide +kernel
theorem dX7_readClause_114 : decode cX7_readClause 114 = .ok (.goto 12, 3) := by decide +kernel
theorem dX7_readClause_82 : decode cX7_readClause 82 = .ok (.aload_n 0, 1) := by decide +kernel
theorem dX7_readClause_83 : decode cX7_readClause 83 = .ok (.aload_n 1, 1) := by decide +kernel
theorem dX7_readClause_84 : decode cX7_readClause 84 = .ok (.iconst 5, 1) := by decide +kernel
theorem dX7_readClause_85 : decode cX7_readClause 85 = .ok (.iconst 0, 1) := by decide +kernel
theorem dX7_readClause_86 : decode cX7_readClause 86 = .ok (.bipush 99, 2) := by decide +kernel
theorem dX7_readClause_88 : decode cX7_readClause 88 = .ok (.invokevirtual 83, 3) := by decide +kernel
theorem dX7_readClause_91 : decode cX7_readClause 91 = .ok (.goto 35, 3) := by decide +kernel
theorem dX7_readClause_61 : decode cX7_readClause 61 = .ok (.aload_n 0, 1) := by decide +kernel
theorem dX7_readClause_62 : decode cX7_readClause 62 = .ok (.aload_n 1, 1) := by decide +kernel
theorem dX7_readClause_63 : decode cX7_readClause 63 = .ok (.iconst 0, 1) := by decide +kernel
theorem dX7_readClause_64 : decode cX7_readClause 64 = .ok (.iconst 0, 1) := by decide +kernel
theorem dX7_readClause_65 : decode cX7_readClause 65 = .ok (.bipush 99, 2) := by decide +kernel
theorem dX7_readClause_67 : decode cX7_readClause 67 = .ok (.invokevirtual 83, 3) := by decide +kernel
theorem dX7_readClause_70 : decode cX7_readClause 70 = .ok (.goto 56, 3) := by decide +kernel
theorem dX7_readClause_44 : decode cX7_readClause 44 = .ok (.aload_n 0, 1) := by decide +kernel
theorem dX7_readClause_45 : decode cX7_readClause 45 = .ok (.aload_n 1, 1) := by decide +kernel
theorem dX7_readClause_46 : decode cX7_readClause 46 = .ok (.invokevirtual 78, 3) := by decide +kernel
theorem dX7_readClause_49 : decode cX7_readClause 49 = .ok (.goto 77, 3) := by decide +kernel
theorem dX7_readClause_26 : decode cX7_readClause 26 = .ok (.aload_n 0, 1) := by decide +kernel
theorem dX7_readClause_27 : decode cX7_readClause 27 = .ok (.aload_n 1, 1) := by decide +kernel
theorem dX7_readClause_28 : decode cX7_readClause 28 = .ok (.aload_n 2, 1) := by decide +kernel
theorem dX7_readClause_29 : decode cX7_readClause 29 = .ok (.invokevirtual 73, 3) := by decide +kernel
theorem dX7_readClause_32 : decode cX7_readClause 32 = .ok (.goto 94, 3) := by decide +kernel
theorem dX7_readClause_9 : decode cX7_readClause 9 = .ok (.aload_n 0, 1) := by decide +kernel
theorem dX7_readClause_10 : decode cX7_readClause 10 = .ok (.aload_n 1, 1) := by decide +kernel
theorem dX7_readClause_11 : decode cX7_readClause 11 = .ok (.invokevirtual 67, 3) := by decide +kernel
theorem dX7_readClause_14 : decode cX7_readClause 14 = .ok (.goto 112, 3) := by decide +kernel
end
section
-- 68.words.lean.txt
-- words of snow
theorem q_728 : (Jvm.Cond.methodLink "SnowRecorder$TextReader" (40 : Nat) ({ cls := "java/lang/Math", name := "min", desc := "(II)I" } : Jvm.MethodName)) ∈ AW := AW_m4 8 (by decide +kernel) (by decide +kernel)
theorem q_729 : (Jvm.Cond.methodLink "SnowRecorder$TextReader" (46 : Nat) ({ cls := "SnowRecorder$Plan", name := "clear", desc := "()V" } : Jvm.MethodName)) ∈ AW := AW_m4 9 (by decide +kernel) (by decide +kernel)
theorem q_730 : (Jvm.Cond.instanceMethod ({ cls := "SnowRecorder$Plan", name := "clear", desc := "()V" } : Jvm.MethodName)) ∈ AW := AW_m4 10 (by decide +kernel) (by decide +kernel)
theorem q_731 : (Jvm.Cond.selects "SnowRecorder$Plan" ({ cls := "SnowRecorder$Plan", name := "clear", desc := "()V" } : Jvm.MethodName) ({ cls := "SnowRecorder$Plan", name := "clear", desc := "()V" } : Jvm.MethodName)) ∈ AW := AW_m4 11 (by decide +kernel) (by decide +kernel)
theorem q_732 : (Jvm.Cond.code ({ cls := "SnowRecorder$Plan", name := "clear", desc := "()V" } : Jvm.MethodName) prog_7_method_2_code (1 : Nat) (Option.none : Option Jvm.ClassFile.FieldType)) ∈ AW := AW_m4 12 (by decide +kernel) (by decide +kernel)
theorem q_734 : (Jvm.Cond.methodLink "SnowRecorder$TextReader" (51 : Nat) ({ cls := "SnowRecorder$World", name := "clear", desc := "()V" } : Jvm.MethodName)) ∈ AW := AW_m4 14 (by decide +kernel) (by decide +kernel)
theorem q_735 : (Jvm.Cond.instanceMethod ({ cls := "SnowRecorder$World", name := "clear", desc := "()V" } : Jvm.MethodName)) ∈ AW := AW_m4 15 (by decide +kernel) (by decide +kernel)
theorem q_736 : (Jvm.Cond.selects "SnowRecorder$World" ({ cls := "SnowRecorder$World", name := "clear", desc := "()V" } : Jvm.MethodName) ({ cls := "SnowRecorder$World", name := "clear", desc := "()V" } : Jvm.MethodName)) ∈ AW := AW_m4 16 (by decide +kernel) (by decide +kernel)
theorem q_737 : (Jvm.Cond.code ({ cls := "SnowRecorder$World", name := "clear", desc := "()V" } : Jvm.MethodName) prog_10_method_2_code (2 : Nat) (Option.none : Option Jvm.ClassFile.FieldType)) ∈ AW := AW_m4 17 (by decide +kernel) (by decide +kernel)
theorem q_749 : (Jvm.Cond.methodLink "SnowRecorder$TextReader" (57 : Nat) ({ cls := "SnowRecorder$TextReader", name := "readClause", desc := "(LSnowRecorder$Plan;LSnowRecorder$World;)V" } : Jvm.MethodName)) ∈ AW := AW_m4 29 (by decide +kernel) (by decide +kernel)
theorem q_751 : (Jvm.Cond.instanceMethod ({ cls := "SnowRecorder$TextReader", name := "readClause", desc := "(LSnowRecorder$Plan;LSnowRecorder$World;)V" } : Jvm.MethodName)) ∈ AW := AW_m4 31 (by decide +kernel) (by decide +kernel)
theorem q_752 : (Jvm.Cond.code ({ cls := "SnowRecorder$TextReader", name := "readClause", desc := "(LSnowRecorder$Plan;LSnowRecorder$World;)V" } : Jvm.MethodName) prog_9_method_3_code (3 : Nat) (Option.none : Option Jvm.ClassFile.FieldType)) ∈ AW := AW_m4 32 (by decide +kernel) (by decide +kernel)
theorem s_10 : Cond.selects "SnowRecorder$TextReader" ({ cls := "SnowRecorder$TextReader", name := "readClause", desc := "(LSnowRecorder$Plan;LSnowRecorder$World;)V" } : Jvm.MethodName) ({ cls := "SnowRecorder$TextReader", name := "readClause", desc := "(LSnowRecorder$Plan;LSnowRecorder$World;)V" } : Jvm.MethodName) ∈ AW := AW_m 10 (by decide +kernel) (by decide +kernel)
theorem hd_yX5_clear : yX5_clear.cls ≠ "java/lang/invoke/MethodHandle" ∧ yX5_clear.cls ≠ "java/lang/invoke/VarHandle" ∧ (parseMethodDescriptor yX5_clear.desc).map (fun d => d.parameters.length) = some 0 := by decide +kernel
theorem hd_yX8_clear : yX8_clear.cls ≠ "java/lang/invoke/MethodHandle" ∧ yX8_clear.cls ≠ "java/lang/invoke/VarHandle" ∧ (parseMethodDescriptor yX8_clear.desc).map (fun d => d.parameters.length) = some 0 := by decide +kernel
theorem hd_yX7_readClause : yX7_readClause.cls ≠ "java/lang/invoke/MethodHandle" ∧ yX7_readClause.cls ≠ "java/lang/invoke/VarHandle" ∧ (parseMethodDescriptor yX7_readClause.desc).map (fun d => d.parameters.length) = some 2 := by decide +kernel
theorem mv_yX5_clear : zWv yX5_clear cX5_clear 1 none := ⟨q_730, q_731, q_3, q_732⟩
theorem mv_yX8_clear : zWv yX8_clear cX8_clear 2 none := ⟨q_735, q_736, q_5, q_737⟩
theorem mv_yX7_readClause : zWv yX7_readClause cX7_readClause 3 none := ⟨q_751, s_10, q_2, q_752⟩
end
section
-- 69.dec.lean.txt
-- decode rows of snow
theorem dX5_clear_0 : decode cX5_clear 0 = .ok (.aload_n 0, 1) := by decide +kernel
theorem dX5_clear_1 : decode cX5_clear 1 = .ok (.iconst 0, 1) := by decide +kernel
theorem dX5_clear_2 : decode cX5_clear 2 = .ok (.putfield 9, 3) := by decide +kernel
theorem dX5_clear_5 : decode cX5_clear 5 = .ok (.aload_n 0, 1) := by decide +kernel
theorem dX5_clear_6 : decode cX5_clear 6 = .ok (.iconst 0, 1) := by decide +kernel
theorem dX5_clear_7 : decode cX5_clear 7 = .ok (.putfield 15, 3) := by decide +kernel
theorem dX5_clear_10 : decode cX5_clear 10 = .ok (.aload_n 0, 1) := by decide +kernel
theorem dX5_clear_11 : decode cX5_clear 11 = .ok (.iconst 0, 1) := by decide +kernel
theorem dX5_clear_12 : decode cX5_clear 12 = .ok (.putfield 18, 3) := by decide +kernel
theorem dX5_clear_15 : decode cX5_clear 15 = .ok (.getstatic 37, 3) := by decide +kernel
theorem dX5_clear_18 : decode cX5_clear 18 = .ok (.iconst 0, 1) := by decide +kernel
theorem dX5_clear_19 : decode cX5_clear 19 = .ok (.aload_n 0, 1) := by decide +kernel
theorem dX5_clear_20 : decode cX5_clear 20 = .ok (.getfield 45, 3) := by decide +kernel
theorem dX5_clear_23 : decode cX5_clear 23 = .ok (.iconst 0, 1) := by decide +kernel
theorem dX5_clear_24 : decode cX5_clear 24 = .ok (.aload_n 0, 1) := by decide +kernel
theorem dX5_clear_25 : decode cX5_clear 25 = .ok (.getfield 45, 3) := by decide +kernel
theorem dX5_clear_28 : decode cX5_clear 28 = .ok (.arraylength, 1) := by decide +kernel
theorem dX5_clear_29 : decode cX5_clear 29 = .ok (.invokestatic 48, 3) := by decide +kernel
theorem dX5_clear_32 : decode cX5_clear 32 = .ok (.return_, 1) := by decide +kernel
theorem dX7_read_0 : decode cX7_read 0 = .ok (.aload_n 0, 1) := by decide +kernel
theorem dX7_read_1 : decode cX7_read 1 = .ok (.aload_n 1, 1) := by decide +kernel
theorem dX7_read_2 : decode cX7_read 2 = .ok (.putfield 18, 3) := by decide +kernel
theorem dX7_read_5 : decode cX7_read 5 = .ok (.aload_n 0, 1) := by decide +kernel
theorem dX7_read_6 : decode cX7_read 6 = .ok (.iload_n 2, 1) := by decide +kernel
theorem dX7_read_7 : decode cX7_read 7 = .ok (.aload_n 1, 1) := by decide +kernel
theorem dX7_read_8 : decode cX7_read 8 = .ok (.arraylength, 1) := by decide +kernel
theorem dX7_read_9 : decode cX7_read 9 = .ok (.invokestatic 40, 3) := by decide +kernel
theorem dX7_read_12 : decode cX7_read 12 = .ok (.putfield 22, 3) := by decide +kernel
theorem dX7_read_15 : decode cX7_read 15 = .ok (.aload_n 0, 1) := by decide +kernel
theorem dX7_read_16 : decode cX7_read 16 = .ok (.iconst 0, 1) := by decide +kernel
theorem dX7_read_17 : decode cX7_read 17 = .ok (.putfield 31, 3) := by decide +kernel
theorem dX7_read_20 : decode cX7_read 20 = .ok (.aload_n 0, 1) := by decide +kernel
theorem dX7_read_21 : decode cX7_read 21 = .ok (.iconst 0, 1) := by decide +kernel
theorem dX7_read_22 : decode cX7_read 22 = .ok (.putfield 15, 3) := by decide +kernel
theorem dX7_read_25 : decode cX7_read 25 = .ok (.aload_n 0, 1) := by decide +kernel
theorem dX7_read_26 : decode cX7_read 26 = .ok (.iconst (-1), 1) := by decide +kernel
theorem dX7_read_27 : decode cX7_read 27 = .ok (.putfield 9, 3) := by decide +kernel
theorem dX7_read_30 : decode cX7_read 30 = .ok (.aload_n 0, 1) := by decide +kernel
theorem dX7_read_31 : decode cX7_read 31 = .ok (.iconst 0, 1) := by decide +kernel
theorem dX7_read_32 : decode cX7_read 32 = .ok (.putfield 37, 3) := by decide +kernel
theorem dX7_read_35 : decode cX7_read 35 = .ok (.aload_n 3, 1) := by decide +kernel
theorem dX7_read_36 : decode cX7_read 36 = .ok (.invokevirtual 46, 3) := by decide +kernel
theorem dX7_read_39 : decode cX7_read 39 = .ok (.aload 4, 2) := by decide +kernel
theorem dX7_read_41 : decode cX7_read 41 = .ok (.invokevirtual 51, 3) := by decide +kernel
theorem dX7_read_44 : decode cX7_read 44 = .ok (.aload_n 0, 1) := by decide +kernel
theorem dX7_read_45 : decode cX7_read 45 = .ok (.invokevirtual 54, 3) := by decide +kernel
theorem dX7_read_48 : decode cX7_read 48 = .ok (.iconst 0, 1) := by decide +kernel
theorem dX7_read_49 : decode cX7_read 49 = .ok (.istore 5, 2) := by decide +kernel
theorem dX7_read_51 : decode cX7_read 51 = .ok (.iload 5, 2) := by decide +kernel
theorem dX7_read_53 : decode cX7_read 53 = .ok (.aload_n 0, 1) := by decide +kernel
theorem dX7_read_54 : decode cX7_read 54 = .ok (.getfield 22, 3) := by decide +kernel
theorem dX7_read_57 : decode cX7_read 57 = .ok (.if_icmp .gt 30, 3) := by decide +kernel
theorem dX7_read_87 : decode cX7_read 87 = .ok (.aload_n 0, 1) := by decide +kernel
theorem dX7_read_88 : decode cX7_read 88 = .ok (.getfield 15, 3) := by decide +kernel
theorem dX7_read_91 : decode cX7_read 91 = .ok (.ireturn, 1) := by decide +kernel
theorem dX7_read_60 : decode cX7_read 60 = .ok (.aload_n 0, 1) := by decide +kernel
theorem dX7_read_61 : decode cX7_read 61 = .ok (.getfield 15, 3) := by decide +kernel
theorem dX7_read_64 : decode cX7_read 64 = .ok (.ifCond .ne 23, 3) := by decide +kernel
theorem dX7_read_67 : decode cX7_read 67 = .ok (.aload_n 0, 1) := by decide +kernel
theorem dX7_read_68 : decode cX7_read 68 = .ok (.getfield 25, 3) := by decide +kernel
theorem dX7_read_71 : decode cX7_read 71 = .ok (.ifCond .eq 16, 3) := by decide +kernel
theorem dX7_read_74 : decode cX7_read 74 = .ok (.aload_n 0, 1) := by decide +kernel
theorem dX7_read_75 : decode cX7_read 75 = .ok (.aload_n 3, 1) := by decide +kernel
theorem dX7_read_76 : decode cX7_read 76 = .ok (.aload 4, 2) := by decide +kernel
theorem dX7_read_78 : decode cX7_read 78 = .ok (.invokevirtual 57, 3) := by decide +kernel
theorem dX7_read_81 : decode cX7_read 81 = .ok (.iinc 5 1, 3) := by decide +kernel
theorem dX7_read_84 : decode cX7_read 84 = .ok (.goto (-33), 3) := by decide +kernel
end
section
-- 70.snow.lean.txt
theorem okState.refused2 {cs : Nat → ClassId} {ad : Nat → Nat} {g g' : Nat → va_E} {i : Nat} {ac nz : Int} {r' : Nat → Int} (h : okState cs ad g i ac nz) (hG : ∀ j, i ≤ j → j < i + 436 → j ≠ i + 17 → g' j = g j) (hw : g' (i + 17) = iA cs 3 r') : okState cs ad g' i ac nz := by
  have h1 : okState cs ad (va_up g' (i + 17) (g (i + 17))) i ac nz := h.mv (fun _ _ _ => rfl) (fun j a b => by
    by_cases e : j = i + 17
    · subst e; rw [va_up_self]
    · rw [va_up_ne _ _ e]; exact hG j a b e)
  exact okState.refused h1 (fun j e => (va_up_ne _ _ e).symm) hw
end
section
-- 70a.bcalls.lean.txt
section ZPV
variable {p : Program} {l : Launch} {e : Env} {R : Room} {s : State} {m : MethodId} {args : Array Value} {below : List Frame} {meth : Method} {c : Code}
theorem zp_callVP {T : State} {locs : List Loc} {cells slots : Nat} (X : Stand p l e R s m args below meth c T locs cells slots) (hexec : p.tables.exec = Jvm.exec) {own : String} {index : Nat} {y : MethodName} {bytes : ByteArray} {maxL : Nat} {ret : Option FieldType}
    (hown : s.vm.findClass own = some m.cls) (hlink : (Cond.methodLink own index y).before args s = true) (hsame : (Cond.sameMethod y.cls y.cls y.name y.desc).before args s = true) (hpriv : (Cond.privateMethod y).before args s = true) (hinst : (Cond.instanceMethod y).before args s = true) (hcode : (Cond.code y bytes maxL ret).before args s = true) (hy : y.cls ≠ "java/lang/invoke/MethodHandle" ∧ y.cls ≠ "java/lang/invoke/VarHandle")
    {W : Nat} {Pre : Pt → Array Value → Prop} {Post : Pt → Array Value → Option Value → Pt → Prop} (hK : Back l R p e below s args y 3 W Pre Post)
    {b : Addr} {cellB : Cell} (hcell : T.heap[b]? = some cellB) (hobj : cellB.vm.isStatics = false)
    {g : JFrame} (hg : g.method = m) (hsize : g.locals.size = c.maxLocals) {argsL rest : List Value} (hlen : ∀ sig, parseMethodDescriptor y.desc = some sig → argsL.length = sig.parameters.length)
    (hstack : g.stack = argsL.reverse ++ .ref b :: rest) (hW : 2 * g.monitorRoom + (rest.map fun v => v.category).sum ≤ W) (hdg : decode c.code g.pc = .ok (.invokevirtual index, 3))
    (hpre : ∀ vm₁, s.WarmedH vm₁ → Pre ⟨T.setVm vm₁, locs, cells, slots⟩ (Value.ref b :: argsL).toArray) :
    ∃ (v : Option Value) (vm₁ : Vm) (B : Pt), s.WarmedH vm₁ ∧ Stand p l e R s m args below meth c B.U B.locs B.cells B.slots ∧ Post ⟨T.setVm vm₁, locs, cells, slots⟩ (Value.ref b :: argsL).toArray v B ∧
      ∀ target, Steps p.tables e below (B.U.setTop { g with pc := g.pc + 3, stack := v.toList ++ rest }) target → Steps p.tables e below (T.setTop g) target := by
  obtain ⟨mk, methM, hnamed, hmethM, hstM, habM⟩ := Cond.instanceMethod_spec hinst
  obtain ⟨methM', cM, hmethM', -, -, -, -, -, -, hsigM⟩ := Cond.code_spec hnamed hcode
  cases hmethM.symm.trans hmethM'
  obtain ⟨cn, ck, r1, hcn, hck, hni, hf, hn1⟩ := Cond.sameMethod_found hsame
  have hn : s.methodNamed? ⟨y.cls, y.name, y.desc⟩ = some mk := hnamed
  have hpm : cn = mk.cls := Option.some.inj (hcn.symm.trans (findClass_of_methodNamed hnamed))
  subst hpm
  have hselP : selectMethod e.platform s.vm cellB.cls mk = .method mk := selectMethod_private hmethM (Cond.privateMethod_at hpriv mk methM hnamed hmethM)
  obtain ⟨vm₁, X₁, hstep₁⟩ := X.invokevirtualUp hexec hown hlink hsame hy hn hmethM hstM (a := b) (cell := cellB) hcell
    (fun z h => by rw [h] at hobj; cases hobj) hselP hmethM habM hck hni (g := g) hg (argsL := argsL) (rest := rest) (hlen _ hsigM) hstack hdg
  obtain ⟨v, B, X', hpost, hsteps⟩ := hK m meth c ⟨T.setVm vm₁, locs, cells, slots⟩ { g with stack := rest } (.invokevirtual index) mk (Value.ref b :: argsL).toArray X₁ hg hsize hdg hW (X₁.named hnamed) (hpre vm₁ X₁.warmed)
  exact ⟨v, vm₁, B, X₁.warmed, X', hpost, fun target h => hstep₁ _ fun acts => by rw [doInvoke_state]; exact hsteps.trans h⟩
variable {H : Heap} {locs : List Loc} {cells slots : Nat}
theorem zp_runVP {y : MethodName} {bytes cc : ByteArray} {maxL nL mc ms n index : Nat} {ret : Option FieldType} {ws : List Cond} {rm : Room} {Pc : Array Value → State → Prop} {Qc : Array Value → State → Outcome → State → Prop} {free : Addr → Prop} {Ts : List Cond} {own C : String} {b : Addr} {As rest : List Value} {g : JFrame}
    (S : CallFix p m c cc nL s args Ts own) (hM : Met l y ws rm Pc Qc mc ms free) (hrc : rm.cells = mc) (hrs : rm.slots = ms) (hfr : rm.frames + 1 ≤ R.frames) (hlo : 8 + (maxL + 11) + rm.locals ≤ R.locals) (hws : ∀ w ∈ ws, ∀ (a' : Array Value) (U : State), s.WarmedH U.vm → w.before a' U = true) (hcw : Cond.code y bytes maxL ret ∈ ws)
    (hlink : (Cond.methodLink own index y).before args s = true) (hsame : (Cond.sameMethod y.cls y.cls y.name y.desc).before args s = true) (hpriv : (Cond.privateMethod y).before args s = true) (hinst : (Cond.instanceMethod y).before args s = true) (hini : (Cond.initialized y.cls).before args s = true) (hcode : (Cond.code y bytes maxL ret).before args s = true) (hy : y.cls ≠ "java/lang/invoke/MethodHandle" ∧ y.cls ≠ "java/lang/invoke/VarHandle" ∧ (parseMethodDescriptor y.desc).map (fun d => d.parameters.length) = some n) (hp : PreV s H C b Pc As)
    (hg : g.method = m) (hn : As.length = n) (hsize : g.locals.size = nL) (hstack : g.stack = As.reverse ++ .ref b :: rest) (hW : 2 * g.monitorRoom + (rest.map fun v => v.category).sum ≤ 8) (hdg : decode cc g.pc = .ok (.invokevirtual index, 3)) (hf : cells + mc ≤ R.cells ∧ slots + ms ≤ R.slots) :
    va_Run p l e R s m args below meth c H locs cells slots mc ms g rest (Qc (Value.ref b :: As).toArray) (free) := by
  have hK : Back l R p e below s args y 3 8 (PreOf R mc ms Pc) (PostOf Qc mc ms free) := back_of (bytes := bytes) (maxL := maxL) (ret := ret) hM hp.1 hrc hrs hfr hlo hws hcw (fun a' U hW => word_at hW (Or.inl (by first | rfl | simp [Cond.onTables, Cond.keeps, Cond.steady])) hini)
  obtain ⟨hx, hb, hml, ho, -⟩ := S
  obtain ⟨-, ⟨cellB, hcB, hoB, hclB⟩, hPc⟩ := hp
  have hlen : ∀ sig, parseMethodDescriptor y.desc = some sig → n = sig.parameters.length := fun sig h => by
    have h2 := hy.2.2
    rw [h] at h2
    exact (Option.some.inj h2).symm
  intro T hT X
  obtain ⟨v, vm₁, ⟨U', l2, c2, s2⟩, hW₁, X', ⟨g', mk, t, L, e1, e2, hq, h1, hL, h2, h3⟩, st⟩ := zp_callVP X hx (bytes := bytes) (maxL := maxL) (ret := ret) ho hlink hsame hpriv hinst hcode ⟨hy.1, hy.2.1⟩ hK (by rw [hT]; exact hcB) hoB hg (hsize.trans hml.symm) (argsL := As) (rest := rest) (fun sig h => hn.trans (hlen sig h)) hstack hW (by rw [hb]; exact hdg)
    (fun vm₁ hW₁ => ⟨hf.1, hf.2, hPc (T.setVm vm₁) hT hW₁⟩)
  dsimp only [Pt.U, Pt.locs, Pt.cells, Pt.slots] at X' e1 e2 h1 h2 h3 st
  subst h1; subst h2; subst h3
  exact ⟨v, (T.setVm vm₁).calling g' mk (Value.ref b :: As).toArray, t, U', L, hT, X', hL, e1, e2, hq, st⟩
end ZPV

section ZPC
variable {p : Program} {l : Launch} {e : Env} {R : Room} {s : State} {m : MethodId} {args : Array Value} {below : List Frame} {meth : Method} {c : Code} {Q : State → Prop} {D : va_G} {A : Nat → Prop} {cs : Nat → ClassId} {tt : Nat} {cc : ByteArray} {nL : Nat} {own : String} {N : Nat} {ad : Nat → Nat} {g : Nat → va_E} {k n pc : Nat} {lv lv' : List (Nat × Value)} {rest st : List Value} {Qr : zR} {mc ms : Nat}
theorem z_cVP (C : zC p s m args c cc nL own D A cs tt) {y : MethodName} {cb : ByteArray} {mL index : Nat} {ret : Option FieldType} {rm : Room} {As : List Value} {i a ci : Nat} {fs : List Value} {q : vw_C} (hM : zM l y cb mL ret rm D A cs tt N ad g (.ref a :: As) Qr) (hi : i < N) (ha : ad i = a) (hg : g i = oC ci fs) (hc : vwCl[ci]? = some q) (hlk : Cond.methodLink own index y ∈ AW) (hsm : Cond.sameMethod y.cls y.cls y.name y.desc ∈ AW) (hpv : Cond.privateMethod y ∈ NW) (hin : Cond.instanceMethod y ∈ AW) (hini : Cond.initialized y.cls ∈ AW) (hcd : Cond.code y cb mL ret ∈ AW) (hd : y.cls ≠ "java/lang/invoke/MethodHandle" ∧ y.cls ≠ "java/lang/invoke/VarHandle" ∧ (parseMethodDescriptor y.desc).map (fun d => d.parameters.length) = some As.length) (hR : rm.frames + 1 ≤ R.frames ∧ 8 + (mL + 11) + rm.locals ≤ R.locals) (hrest : (rest.map fun v => v.category).sum ≤ 8) (hf : k + rm.cells ≤ R.cells ∧ n + rm.slots ≤ R.slots) (hdg : decode cc pc = .ok (.invokevirtual index, 3)) (hst : st = As.reverse ++ .ref a :: rest)
    (kk : ∀ (r : Option Value) (N' : Nat) (ad' : Nat → Nat) (g' : Nat → va_E), Qr r N' ad' g' → zV p l e R s m args below meth c Q D A nL N' ad' g' (k + rm.cells) (n + rm.slots) (pc + 3) (lv) (r.toList ++ rest)) : zV p l e R s m args below meth c Q D A nL N ad g k n (pc) (lv) (st) := fun H locs ls hP hD hS hl => by
  have hrc : ∃ cell : Cell, H[a]? = some cell ∧ cell.vm.isStatics = false ∧ s.vm.findClass q.1 = some cell.cls := va_recv C.2.2.2.2.2.1 hP hc ((wl_at hi).trans (by rw [hg, ha]))
  have hT := C.2.2.2.2.1
  exact z_run (zp_runVP (As := As) (rest := rest) (C := q.1) ⟨C.1, C.2.1, C.2.2.1, C.2.2.2.1, C.2.2.2.2.1⟩ hM rfl rfl hR.1 hR.2 (pay_in C.2.2.2.2.1 (AW_cons hcd)) List.mem_cons_self (hT _ hlk) (hT _ hsm) (NW_use hpv (C.2.2.2.2.2.2.1 _ hpv)) (hT _ hin) (hT _ hini) (hT _ hcd) hd ⟨zPre.blind, hrc, (z_preS C hP hD hS).2⟩ rfl rfl hl.1 hst (lv_room hrest) hdg hf) hS hl kk
theorem z_cVU (C : zC p s m args c cc nL own D A cs tt) {y : MethodName} {cb : ByteArray} {mL index : Nat} {ret : Option FieldType} {rm : Room} {As : List Value} {i a ci : Nat} {fs : List Value} {q : vw_C} (hM : zM l y cb mL ret rm D A cs tt N ad g (.ref a :: As) Qr) (hi : i < N) (ha : ad i = a) (hg : g i = oC ci fs) (hc : vwCl[ci]? = some q) (hlk : Cond.methodLink own index y ∈ AW) (hsm : Cond.sameMethod y.cls y.cls y.name y.desc ∈ AW) (hsl : Cond.selects q.1 y y ∈ AW) (hin : Cond.instanceMethod y ∈ AW) (hini : Cond.initialized y.cls ∈ AW) (hcd : Cond.code y cb mL ret ∈ AW) (hd : y.cls ≠ "java/lang/invoke/MethodHandle" ∧ y.cls ≠ "java/lang/invoke/VarHandle" ∧ (parseMethodDescriptor y.desc).map (fun d => d.parameters.length) = some As.length) (hR : rm.frames + 1 ≤ R.frames ∧ 8 + (mL + 11) + rm.locals ≤ R.locals) (hrest : (rest.map fun v => v.category).sum ≤ 8) (hf : k + rm.cells ≤ R.cells ∧ n + rm.slots ≤ R.slots) (hdg : decode cc pc = .ok (.invokevirtual index, 3)) (hst : st = As.reverse ++ .ref a :: rest)
    (kk : ∀ (r : Option Value) (N' : Nat) (ad' : Nat → Nat) (g' : Nat → va_E), Qr r N' ad' g' → zV p l e R s m args below meth c Q D A nL N' ad' g' (k + rm.cells) (n + rm.slots) (pc + 3) (lv) (r.toList ++ rest)) : zV p l e R s m args below meth c Q D A nL N ad g k n (pc) (lv) (st) := fun H locs ls hP hD hS hl => by
  have hrc : ∃ cell : Cell, H[a]? = some cell ∧ cell.vm.isStatics = false ∧ s.vm.findClass q.1 = some cell.cls := va_recv C.2.2.2.2.2.1 hP hc ((wl_at hi).trans (by rw [hg, ha]))
  have hG : GoodIn AW (va_wsU own index q.1 y.cls y y (Cond.code y cb mL ret :: AW)) := AW_in (fun w h => by
    unfold va_wsU at h
    rcases List.mem_append.mp h with h | h
    · rcases List.mem_cons.mp h with rfl | h
      · exact hlk
      · rcases List.mem_cons.mp h with rfl | h
        · exact hsm
        · rcases List.mem_cons.mp h with rfl | h
          · exact hsl
          · rcases List.mem_cons.mp h with rfl | h
            · exact hin
            · rcases List.mem_cons.mp h with rfl | h
              · exact hini
              · exact absurd h List.not_mem_nil
    · rcases List.mem_cons.mp h with rfl | h
      · exact hcd
      · exact h)
  exact z_run (va_runU (As := As) (rest := rest) ⟨C.1, C.2.1, C.2.2.1, C.2.2.2.1, C.2.2.2.2.1⟩ hM (va_cwU As.length C.2.2.2.2.1 hG rfl rfl rfl rfl hd hR) ⟨zPre.blind, hrc, (z_preS C hP hD hS).2⟩ rfl rfl hl.1 hst (lv_room hrest) hdg hf) hS hl kk
theorem z_cSU (C : zC p s m args c cc nL own D A cs tt) {y : MethodName} {cb : ByteArray} {mL index : Nat} {ret : Option FieldType} {rm : Room} {As : List Value} {i a ci : Nat} {fs : List Value} {q : vw_C} (hM : zM l y cb mL ret rm D A cs tt N ad g (.ref a :: As) Qr) (hi : i < N) (ha : ad i = a) (hg : g i = oC ci fs) (hc : vwCl[ci]? = some q) (hlk : Cond.methodLink own index y ∈ AW) (hsm : Cond.sameMethod y.cls y.cls y.name y.desc ∈ AW) (hsp : Cond.superclass own y.cls ∈ AW) (hin : Cond.instanceMethod y ∈ AW) (hini : Cond.initialized y.cls ∈ AW) (hcd : Cond.code y cb mL ret ∈ AW) (hnm : y.name ≠ "<init>") (hd : y.cls ≠ "java/lang/invoke/MethodHandle" ∧ y.cls ≠ "java/lang/invoke/VarHandle" ∧ (parseMethodDescriptor y.desc).map (fun d => d.parameters.length) = some As.length) (hR : rm.frames + 1 ≤ R.frames ∧ 8 + (mL + 11) + rm.locals ≤ R.locals) (hrest : (rest.map fun v => v.category).sum ≤ 8) (hf : k + rm.cells ≤ R.cells ∧ n + rm.slots ≤ R.slots) (hdg : decode cc pc = .ok (.invokespecial index, 3)) (hst : st = As.reverse ++ .ref a :: rest)
    (kk : ∀ (r : Option Value) (N' : Nat) (ad' : Nat → Nat) (g' : Nat → va_E), Qr r N' ad' g' → zV p l e R s m args below meth c Q D A nL N' ad' g' (k + rm.cells) (n + rm.slots) (pc + 3) (lv) (r.toList ++ rest)) : zV p l e R s m args below meth c Q D A nL N ad g k n (pc) (lv) (st) := fun H locs ls hP hD hS hl => by
  have hrc : ∃ cell : Cell, H[a]? = some cell ∧ cell.vm.isStatics = false ∧ s.vm.findClass q.1 = some cell.cls := va_recv C.2.2.2.2.2.1 hP hc ((wl_at hi).trans (by rw [hg, ha]))
  have hG : GoodIn AW (va_wsSU own index y (Cond.code y cb mL ret :: AW)) := AW_in (fun w h => by
    unfold va_wsSU at h
    rcases List.mem_append.mp h with h | h
    · rcases List.mem_cons.mp h with rfl | h
      · exact hlk
      · rcases List.mem_cons.mp h with rfl | h
        · exact hsm
        · rcases List.mem_cons.mp h with rfl | h
          · exact hsp
          · rcases List.mem_cons.mp h with rfl | h
            · exact hin
            · rcases List.mem_cons.mp h with rfl | h
              · exact hini
              · exact absurd h List.not_mem_nil
    · rcases List.mem_cons.mp h with rfl | h
      · exact hcd
      · exact h)
  have hat := (C.2.2.2.2.2.1.1 _ _ hc).2
  exact z_run (va_runSU (As := As) (rest := rest) hat ⟨C.1, C.2.1, C.2.2.1, C.2.2.2.1, C.2.2.2.2.1⟩ hM (va_cwSU As.length C.2.2.2.2.1 hG rfl rfl rfl ⟨hnm, hd.2.2⟩ hR) ⟨zPre.blind, hrc, (z_preS C hP hD hS).2⟩ rfl rfl hl.1 hst (lv_room hrest) hdg hf) hS hl kk

end ZPC
end
section
-- 70b.words.lean.txt
-- words of bld
theorem n_1058 : (Jvm.Cond.privateMethod ({ cls := "java/lang/AbstractStringBuilder", name := "putStringAt", desc := "(ILjava/lang/String;)V" } : Jvm.MethodName)) ∈ NW := NW_m5 98 (by decide +kernel) (by decide +kernel)
theorem n_1062 : (Jvm.Cond.privateMethod ({ cls := "java/lang/AbstractStringBuilder", name := "inflateIfNeededFor", desc := "(Ljava/lang/String;)V" } : Jvm.MethodName)) ∈ NW := NW_m5 102 (by decide +kernel) (by decide +kernel)
theorem n_986 : (Jvm.Cond.privateMethod ({ cls := "java/lang/AbstractStringBuilder", name := "ensureCapacityInternal", desc := "(I)V" } : Jvm.MethodName)) ∈ NW := NW_m5 26 (by decide +kernel) (by decide +kernel)
theorem n_990 : (Jvm.Cond.privateMethod ({ cls := "java/lang/AbstractStringBuilder", name := "newCapacity", desc := "(I)I" } : Jvm.MethodName)) ∈ NW := NW_m5 30 (by decide +kernel) (by decide +kernel)
theorem q_1001 : (Jvm.Cond.constant "java/lang/AbstractStringBuilder" (39 : Nat) (2147483647 : Int32)) ∈ AW := AW_m5 41 (by decide +kernel) (by decide +kernel)
theorem q_1002 : (Jvm.Cond.methodLink "java/lang/AbstractStringBuilder" (108 : Nat) ({ cls := "java/util/Arrays", name := "copyOf", desc := "([BI)[B" } : Jvm.MethodName)) ∈ AW := AW_m5 42 (by decide +kernel) (by decide +kernel)
theorem q_1003 : (Jvm.Cond.static ({ cls := "java/util/Arrays", name := "copyOf", desc := "([BI)[B" } : Jvm.MethodName)) ∈ AW := AW_m5 43 (by decide +kernel) (by decide +kernel)
theorem q_1004 : (Jvm.Cond.code ({ cls := "java/util/Arrays", name := "copyOf", desc := "([BI)[B" } : Jvm.MethodName) prog_33_method_121_code (3 : Nat) (Option.some (Jvm.ClassFile.FieldType.array Jvm.ClassFile.FieldType.byte))) ∈ AW := AW_m5 44 (by decide +kernel) (by decide +kernel)
theorem q_1010 : (Jvm.Cond.methodLink "java/util/Arrays" (304 : Nat) ({ cls := "java/lang/Math", name := "min", desc := "(II)I" } : Jvm.MethodName)) ∈ AW := AW_m5 50 (by decide +kernel) (by decide +kernel)
theorem q_1011 : (Jvm.Cond.methodLink "java/util/Arrays" (150 : Nat) ({ cls := "java/lang/System", name := "arraycopy", desc := "(Ljava/lang/Object;ILjava/lang/Object;II)V" } : Jvm.MethodName)) ∈ AW := AW_m5 51 (by decide +kernel) (by decide +kernel)
theorem q_1012 : (Jvm.Cond.methodLink "java/lang/AbstractStringBuilder" (83 : Nat) ({ cls := "java/lang/AbstractStringBuilder", name := "isLatin1", desc := "()Z" } : Jvm.MethodName)) ∈ AW := AW_m5 52 (by decide +kernel) (by decide +kernel)
theorem q_1013 : (Jvm.Cond.instanceMethod ({ cls := "java/lang/AbstractStringBuilder", name := "isLatin1", desc := "()Z" } : Jvm.MethodName)) ∈ AW := AW_m5 53 (by decide +kernel) (by decide +kernel)
theorem q_1014 : (Jvm.Cond.sameMethod "java/lang/AbstractStringBuilder" "java/lang/AbstractStringBuilder" "isLatin1" "()Z") ∈ AW := AW_m5 54 (by decide +kernel) (by decide +kernel)
theorem q_1015 : (Jvm.Cond.selects "java/lang/StringBuilder" ({ cls := "java/lang/AbstractStringBuilder", name := "isLatin1", desc := "()Z" } : Jvm.MethodName) ({ cls := "java/lang/AbstractStringBuilder", name := "isLatin1", desc := "()Z" } : Jvm.MethodName)) ∈ AW := AW_m5 55 (by decide +kernel) (by decide +kernel)
theorem q_1016 : (Jvm.Cond.code ({ cls := "java/lang/AbstractStringBuilder", name := "isLatin1", desc := "()Z" } : Jvm.MethodName) prog_14_method_68_code (1 : Nat) (Option.some Jvm.ClassFile.FieldType.boolean)) ∈ AW := AW_m5 56 (by decide +kernel) (by decide +kernel)
theorem q_1034 : (Jvm.Cond.methodLink "java/lang/StringBuilder" (29 : Nat) ({ cls := "java/lang/AbstractStringBuilder", name := "append", desc := "(Ljava/lang/String;)Ljava/lang/AbstractStringBuilder;" } : Jvm.MethodName)) ∈ AW := AW_m5 74 (by decide +kernel) (by decide +kernel)
theorem q_1035 : (Jvm.Cond.instanceMethod ({ cls := "java/lang/AbstractStringBuilder", name := "append", desc := "(Ljava/lang/String;)Ljava/lang/AbstractStringBuilder;" } : Jvm.MethodName)) ∈ AW := AW_m5 75 (by decide +kernel) (by decide +kernel)
theorem q_1036 : (Jvm.Cond.code ({ cls := "java/lang/AbstractStringBuilder", name := "append", desc := "(Ljava/lang/String;)Ljava/lang/AbstractStringBuilder;" } : Jvm.MethodName) prog_14_method_22_code (3 : Nat) (Option.some (Jvm.ClassFile.FieldType.object "java/lang/AbstractStringBuilder"))) ∈ AW := AW_m5 76 (by decide +kernel) (by decide +kernel)
theorem q_1056 : (Jvm.Cond.methodLink "java/lang/AbstractStringBuilder" (32 : Nat) ({ cls := "java/lang/String", name := "length", desc := "()I" } : Jvm.MethodName)) ∈ AW := AW_m5 96 (by decide +kernel) (by decide +kernel)
theorem q_1057 : (Jvm.Cond.methodLink "java/lang/AbstractStringBuilder" (208 : Nat) ({ cls := "java/lang/AbstractStringBuilder", name := "putStringAt", desc := "(ILjava/lang/String;)V" } : Jvm.MethodName)) ∈ AW := AW_m5 97 (by decide +kernel) (by decide +kernel)
theorem q_1059 : (Jvm.Cond.instanceMethod ({ cls := "java/lang/AbstractStringBuilder", name := "putStringAt", desc := "(ILjava/lang/String;)V" } : Jvm.MethodName)) ∈ AW := AW_m5 99 (by decide +kernel) (by decide +kernel)
theorem q_1060 : (Jvm.Cond.code ({ cls := "java/lang/AbstractStringBuilder", name := "putStringAt", desc := "(ILjava/lang/String;)V" } : Jvm.MethodName) prog_14_method_73_code (3 : Nat) (Option.none : Option Jvm.ClassFile.FieldType)) ∈ AW := AW_m5 100 (by decide +kernel) (by decide +kernel)
theorem q_1061 : (Jvm.Cond.methodLink "java/lang/AbstractStringBuilder" (397 : Nat) ({ cls := "java/lang/AbstractStringBuilder", name := "inflateIfNeededFor", desc := "(Ljava/lang/String;)V" } : Jvm.MethodName)) ∈ AW := AW_m5 101 (by decide +kernel) (by decide +kernel)
theorem q_1063 : (Jvm.Cond.instanceMethod ({ cls := "java/lang/AbstractStringBuilder", name := "inflateIfNeededFor", desc := "(Ljava/lang/String;)V" } : Jvm.MethodName)) ∈ AW := AW_m5 103 (by decide +kernel) (by decide +kernel)
theorem q_1064 : (Jvm.Cond.code ({ cls := "java/lang/AbstractStringBuilder", name := "inflateIfNeededFor", desc := "(Ljava/lang/String;)V" } : Jvm.MethodName) prog_14_method_71_code (2 : Nat) (Option.none : Option Jvm.ClassFile.FieldType)) ∈ AW := AW_m5 104 (by decide +kernel) (by decide +kernel)
theorem q_1065 : (Jvm.Cond.methodLink "java/lang/AbstractStringBuilder" (40 : Nat) ({ cls := "java/lang/String", name := "coder", desc := "()B" } : Jvm.MethodName)) ∈ AW := AW_m5 105 (by decide +kernel) (by decide +kernel)
theorem q_1085 : (Jvm.Cond.methodLink "java/lang/AbstractStringBuilder" (399 : Nat) ({ cls := "java/lang/String", name := "getBytes", desc := "([BIB)V" } : Jvm.MethodName)) ∈ AW := AW_m5 125 (by decide +kernel) (by decide +kernel)
theorem q_1086 : (Jvm.Cond.instanceMethod ({ cls := "java/lang/String", name := "getBytes", desc := "([BIB)V" } : Jvm.MethodName)) ∈ AW := AW_m5 126 (by decide +kernel) (by decide +kernel)
theorem q_1087 : (Jvm.Cond.selects "java/lang/String" ({ cls := "java/lang/String", name := "getBytes", desc := "([BIB)V" } : Jvm.MethodName) ({ cls := "java/lang/String", name := "getBytes", desc := "([BIB)V" } : Jvm.MethodName)) ∈ AW := AW_m5 127 (by decide +kernel) (by decide +kernel)
theorem q_1088 : (Jvm.Cond.code ({ cls := "java/lang/String", name := "getBytes", desc := "([BIB)V" } : Jvm.MethodName) prog_25_method_147_code (4 : Nat) (Option.none : Option Jvm.ClassFile.FieldType)) ∈ AW := AW_m5 128 (by decide +kernel) (by decide +kernel)
theorem q_1089 : (Jvm.Cond.methodLink "java/lang/String" (212 : Nat) ({ cls := "java/lang/System", name := "arraycopy", desc := "(Ljava/lang/Object;ILjava/lang/Object;II)V" } : Jvm.MethodName)) ∈ AW := AW_m5 129 (by decide +kernel) (by decide +kernel)
theorem q_1095 : (Jvm.Cond.methodLink "java/lang/StringBuilder" (53 : Nat) ({ cls := "java/lang/AbstractStringBuilder", name := "append", desc := "(I)Ljava/lang/AbstractStringBuilder;" } : Jvm.MethodName)) ∈ AW := AW_m5 135 (by decide +kernel) (by decide +kernel)
theorem q_1096 : (Jvm.Cond.instanceMethod ({ cls := "java/lang/AbstractStringBuilder", name := "append", desc := "(I)Ljava/lang/AbstractStringBuilder;" } : Jvm.MethodName)) ∈ AW := AW_m5 136 (by decide +kernel) (by decide +kernel)
theorem q_1097 : (Jvm.Cond.code ({ cls := "java/lang/AbstractStringBuilder", name := "append", desc := "(I)Ljava/lang/AbstractStringBuilder;" } : Jvm.MethodName) prog_14_method_32_code (4 : Nat) (Option.some (Jvm.ClassFile.FieldType.object "java/lang/AbstractStringBuilder"))) ∈ AW := AW_m5 137 (by decide +kernel) (by decide +kernel)
theorem q_1098 : (Jvm.Cond.methodLink "java/lang/AbstractStringBuilder" (245 : Nat) ({ cls := "java/lang/Integer", name := "stringSize", desc := "(I)I" } : Jvm.MethodName)) ∈ AW := AW_m5 138 (by decide +kernel) (by decide +kernel)
theorem q_1099 : (Jvm.Cond.static ({ cls := "java/lang/Integer", name := "stringSize", desc := "(I)I" } : Jvm.MethodName)) ∈ AW := AW_m5 139 (by decide +kernel) (by decide +kernel)
theorem q_1100 : (Jvm.Cond.code ({ cls := "java/lang/Integer", name := "stringSize", desc := "(I)I" } : Jvm.MethodName) prog_21_method_13_code (4 : Nat) (Option.some Jvm.ClassFile.FieldType.int)) ∈ AW := AW_m5 140 (by decide +kernel) (by decide +kernel)
theorem q_1101 : (Jvm.Cond.methodLink "java/lang/AbstractStringBuilder" (248 : Nat) ({ cls := "java/lang/Integer", name := "getChars", desc := "(II[B)I" } : Jvm.MethodName)) ∈ AW := AW_m5 141 (by decide +kernel) (by decide +kernel)
theorem q_1102 : (Jvm.Cond.static ({ cls := "java/lang/Integer", name := "getChars", desc := "(II[B)I" } : Jvm.MethodName)) ∈ AW := AW_m5 142 (by decide +kernel) (by decide +kernel)
theorem q_1103 : (Jvm.Cond.code ({ cls := "java/lang/Integer", name := "getChars", desc := "(II[B)I" } : Jvm.MethodName) prog_21_method_12_code (7 : Nat) (Option.some Jvm.ClassFile.FieldType.int)) ∈ AW := AW_m5 143 (by decide +kernel) (by decide +kernel)
theorem q_1186 : (Jvm.Cond.methodLink "java/lang/StringBuilder" (50 : Nat) ({ cls := "java/lang/AbstractStringBuilder", name := "append", desc := "(C)Ljava/lang/AbstractStringBuilder;" } : Jvm.MethodName)) ∈ AW := AW_m5 226 (by decide +kernel) (by decide +kernel)
theorem q_1187 : (Jvm.Cond.instanceMethod ({ cls := "java/lang/AbstractStringBuilder", name := "append", desc := "(C)Ljava/lang/AbstractStringBuilder;" } : Jvm.MethodName)) ∈ AW := AW_m5 227 (by decide +kernel) (by decide +kernel)
theorem q_1188 : (Jvm.Cond.code ({ cls := "java/lang/AbstractStringBuilder", name := "append", desc := "(C)Ljava/lang/AbstractStringBuilder;" } : Jvm.MethodName) prog_14_method_31_code (2 : Nat) (Option.some (Jvm.ClassFile.FieldType.object "java/lang/AbstractStringBuilder"))) ∈ AW := AW_m5 228 (by decide +kernel) (by decide +kernel)
theorem q_1189 : (Jvm.Cond.methodLink "java/lang/AbstractStringBuilder" (191 : Nat) ({ cls := "java/lang/StringLatin1", name := "canEncode", desc := "(C)Z" } : Jvm.MethodName)) ∈ AW := AW_m5 229 (by decide +kernel) (by decide +kernel)
theorem q_1190 : (Jvm.Cond.static ({ cls := "java/lang/StringLatin1", name := "canEncode", desc := "(C)Z" } : Jvm.MethodName)) ∈ AW := AW_m5 230 (by decide +kernel) (by decide +kernel)
theorem q_1191 : (Jvm.Cond.code ({ cls := "java/lang/StringLatin1", name := "canEncode", desc := "(C)Z" } : Jvm.MethodName) prog_27_method_3_code (1 : Nat) (Option.some Jvm.ClassFile.FieldType.boolean)) ∈ AW := AW_m5 231 (by decide +kernel) (by decide +kernel)
theorem q_2119 : (Jvm.Cond.sameMethod "java/lang/AbstractStringBuilder" "java/lang/AbstractStringBuilder" "ensureCapacityInternal" "(I)V") ∈ AW := AW_m9 199 (by decide +kernel) (by decide +kernel)
theorem q_2120 : (Jvm.Cond.sameMethod "java/lang/AbstractStringBuilder" "java/lang/AbstractStringBuilder" "newCapacity" "(I)I") ∈ AW := AW_m9 200 (by decide +kernel) (by decide +kernel)
theorem q_2121 : (Jvm.Cond.sameMethod "java/lang/AbstractStringBuilder" "java/lang/AbstractStringBuilder" "append" "(Ljava/lang/String;)Ljava/lang/AbstractStringBuilder;") ∈ AW := AW_m9 201 (by decide +kernel) (by decide +kernel)
theorem q_2123 : (Jvm.Cond.sameMethod "java/lang/AbstractStringBuilder" "java/lang/AbstractStringBuilder" "putStringAt" "(ILjava/lang/String;)V") ∈ AW := AW_m9 203 (by decide +kernel) (by decide +kernel)
theorem q_2124 : (Jvm.Cond.sameMethod "java/lang/AbstractStringBuilder" "java/lang/AbstractStringBuilder" "inflateIfNeededFor" "(Ljava/lang/String;)V") ∈ AW := AW_m9 204 (by decide +kernel) (by decide +kernel)
theorem q_2126 : (Jvm.Cond.sameMethod "java/lang/AbstractStringBuilder" "java/lang/AbstractStringBuilder" "append" "(I)Ljava/lang/AbstractStringBuilder;") ∈ AW := AW_m9 206 (by decide +kernel) (by decide +kernel)
theorem q_2127 : (Jvm.Cond.sameMethod "java/lang/AbstractStringBuilder" "java/lang/AbstractStringBuilder" "append" "(C)Ljava/lang/AbstractStringBuilder;") ∈ AW := AW_m9 207 (by decide +kernel) (by decide +kernel)
theorem q_25 : (Jvm.Cond.initialized "jdk/internal/util/ArraysSupport") ∈ AW := AW_m1 25 (by decide +kernel) (by decide +kernel)
theorem q_26 : (Jvm.Cond.initialized "java/util/Arrays") ∈ AW := AW_m1 26 (by decide +kernel) (by decide +kernel)
theorem q_28 : (Jvm.Cond.initialized "java/lang/Integer") ∈ AW := AW_m1 28 (by decide +kernel) (by decide +kernel)
theorem q_337 : (Jvm.Cond.fieldLink "java/lang/AbstractStringBuilder" (73 : Nat) "java/lang/AbstractStringBuilder" "maybeLatin1" "Z") ∈ AW := AW_m2 97 (by decide +kernel) (by decide +kernel)
theorem q_339 : (Jvm.Cond.fieldLink "java/lang/AbstractStringBuilder" (79 : Nat) "java/lang/AbstractStringBuilder" "count" "I") ∈ AW := AW_m2 99 (by decide +kernel) (by decide +kernel)
theorem q_348 : (Jvm.Cond.superclass "java/lang/StringBuilder" "java/lang/AbstractStringBuilder") ∈ AW := AW_m2 108 (by decide +kernel) (by decide +kernel)
theorem q_985 : (Jvm.Cond.methodLink "java/lang/AbstractStringBuilder" (100 : Nat) ({ cls := "java/lang/AbstractStringBuilder", name := "ensureCapacityInternal", desc := "(I)V" } : Jvm.MethodName)) ∈ AW := AW_m5 25 (by decide +kernel) (by decide +kernel)
theorem q_987 : (Jvm.Cond.instanceMethod ({ cls := "java/lang/AbstractStringBuilder", name := "ensureCapacityInternal", desc := "(I)V" } : Jvm.MethodName)) ∈ AW := AW_m5 27 (by decide +kernel) (by decide +kernel)
theorem q_988 : (Jvm.Cond.code ({ cls := "java/lang/AbstractStringBuilder", name := "ensureCapacityInternal", desc := "(I)V" } : Jvm.MethodName) prog_14_method_9_code (3 : Nat) (Option.none : Option Jvm.ClassFile.FieldType)) ∈ AW := AW_m5 28 (by decide +kernel) (by decide +kernel)
theorem q_989 : (Jvm.Cond.methodLink "java/lang/AbstractStringBuilder" (104 : Nat) ({ cls := "java/lang/AbstractStringBuilder", name := "newCapacity", desc := "(I)I" } : Jvm.MethodName)) ∈ AW := AW_m5 29 (by decide +kernel) (by decide +kernel)
theorem q_991 : (Jvm.Cond.instanceMethod ({ cls := "java/lang/AbstractStringBuilder", name := "newCapacity", desc := "(I)I" } : Jvm.MethodName)) ∈ AW := AW_m5 31 (by decide +kernel) (by decide +kernel)
theorem q_992 : (Jvm.Cond.code ({ cls := "java/lang/AbstractStringBuilder", name := "newCapacity", desc := "(I)I" } : Jvm.MethodName) prog_14_method_10_code (6 : Nat) (Option.some Jvm.ClassFile.FieldType.int)) ∈ AW := AW_m5 32 (by decide +kernel) (by decide +kernel)
theorem q_993 : (Jvm.Cond.methodLink "java/lang/AbstractStringBuilder" (114 : Nat) ({ cls := "jdk/internal/util/ArraysSupport", name := "newLength", desc := "(III)I" } : Jvm.MethodName)) ∈ AW := AW_m5 33 (by decide +kernel) (by decide +kernel)
theorem q_994 : (Jvm.Cond.static ({ cls := "jdk/internal/util/ArraysSupport", name := "newLength", desc := "(III)I" } : Jvm.MethodName)) ∈ AW := AW_m5 34 (by decide +kernel) (by decide +kernel)
theorem q_995 : (Jvm.Cond.code ({ cls := "jdk/internal/util/ArraysSupport", name := "newLength", desc := "(III)I" } : Jvm.MethodName) prog_35_method_27_code (4 : Nat) (Option.some Jvm.ClassFile.FieldType.int)) ∈ AW := AW_m5 35 (by decide +kernel) (by decide +kernel)
theorem q_996 : (Jvm.Cond.methodLink "jdk/internal/util/ArraysSupport" (194 : Nat) ({ cls := "java/lang/Math", name := "max", desc := "(II)I" } : Jvm.MethodName)) ∈ AW := AW_m5 36 (by decide +kernel) (by decide +kernel)
theorem q_997 : (Jvm.Cond.constant "jdk/internal/util/ArraysSupport" (200 : Nat) (2147483639 : Int32)) ∈ AW := AW_m5 37 (by decide +kernel) (by decide +kernel)
theorem hd_yJ8_newLength_cabcc : yJ8_newLength_cabcc.cls ≠ "java/lang/invoke/MethodHandle" ∧ yJ8_newLength_cabcc.cls ≠ "java/lang/invoke/VarHandle" ∧ (parseMethodDescriptor yJ8_newLength_cabcc.desc).map (fun d => d.parameters.length) = some 3 := by decide +kernel
theorem hd_yJ5_newCapacity_0f7a4 : yJ5_newCapacity_0f7a4.cls ≠ "java/lang/invoke/MethodHandle" ∧ yJ5_newCapacity_0f7a4.cls ≠ "java/lang/invoke/VarHandle" ∧ (parseMethodDescriptor yJ5_newCapacity_0f7a4.desc).map (fun d => d.parameters.length) = some 1 := by decide +kernel
theorem hd_yJ7_copyOf_9075b : yJ7_copyOf_9075b.cls ≠ "java/lang/invoke/MethodHandle" ∧ yJ7_copyOf_9075b.cls ≠ "java/lang/invoke/VarHandle" ∧ (parseMethodDescriptor yJ7_copyOf_9075b.desc).map (fun d => d.parameters.length) = some 2 := by decide +kernel
theorem hd_yJ5_ensureCapacityInternal_d00df : yJ5_ensureCapacityInternal_d00df.cls ≠ "java/lang/invoke/MethodHandle" ∧ yJ5_ensureCapacityInternal_d00df.cls ≠ "java/lang/invoke/VarHandle" ∧ (parseMethodDescriptor yJ5_ensureCapacityInternal_d00df.desc).map (fun d => d.parameters.length) = some 1 := by decide +kernel
theorem hd_yJ5_isLatin1_aae02 : yJ5_isLatin1_aae02.cls ≠ "java/lang/invoke/MethodHandle" ∧ yJ5_isLatin1_aae02.cls ≠ "java/lang/invoke/VarHandle" ∧ (parseMethodDescriptor yJ5_isLatin1_aae02.desc).map (fun d => d.parameters.length) = some 0 := by decide +kernel
theorem hd_yJ1_canEncode_fc78d : yJ1_canEncode_fc78d.cls ≠ "java/lang/invoke/MethodHandle" ∧ yJ1_canEncode_fc78d.cls ≠ "java/lang/invoke/VarHandle" ∧ (parseMethodDescriptor yJ1_canEncode_fc78d.desc).map (fun d => d.parameters.length) = some 1 := by decide +kernel
theorem hd_yJ6_stringSize_0f7a4 : yJ6_stringSize_0f7a4.cls ≠ "java/lang/invoke/MethodHandle" ∧ yJ6_stringSize_0f7a4.cls ≠ "java/lang/invoke/VarHandle" ∧ (parseMethodDescriptor yJ6_stringSize_0f7a4.desc).map (fun d => d.parameters.length) = some 1 := by decide +kernel
theorem hd_yJ6_getChars_ba4f3 : yJ6_getChars_ba4f3.cls ≠ "java/lang/invoke/MethodHandle" ∧ yJ6_getChars_ba4f3.cls ≠ "java/lang/invoke/VarHandle" ∧ (parseMethodDescriptor yJ6_getChars_ba4f3.desc).map (fun d => d.parameters.length) = some 3 := by decide +kernel
theorem hd_yJ5_inflateIfNeededFor_a7421 : yJ5_inflateIfNeededFor_a7421.cls ≠ "java/lang/invoke/MethodHandle" ∧ yJ5_inflateIfNeededFor_a7421.cls ≠ "java/lang/invoke/VarHandle" ∧ (parseMethodDescriptor yJ5_inflateIfNeededFor_a7421.desc).map (fun d => d.parameters.length) = some 1 := by decide +kernel
theorem hd_yJ0_getBytes_840e7 : yJ0_getBytes_840e7.cls ≠ "java/lang/invoke/MethodHandle" ∧ yJ0_getBytes_840e7.cls ≠ "java/lang/invoke/VarHandle" ∧ (parseMethodDescriptor yJ0_getBytes_840e7.desc).map (fun d => d.parameters.length) = some 3 := by decide +kernel
theorem hd_yJ5_putStringAt_47b60 : yJ5_putStringAt_47b60.cls ≠ "java/lang/invoke/MethodHandle" ∧ yJ5_putStringAt_47b60.cls ≠ "java/lang/invoke/VarHandle" ∧ (parseMethodDescriptor yJ5_putStringAt_47b60.desc).map (fun d => d.parameters.length) = some 2 := by decide +kernel
theorem hd_yJ5_append_c97b9 : yJ5_append_c97b9.cls ≠ "java/lang/invoke/MethodHandle" ∧ yJ5_append_c97b9.cls ≠ "java/lang/invoke/VarHandle" ∧ (parseMethodDescriptor yJ5_append_c97b9.desc).map (fun d => d.parameters.length) = some 1 := by decide +kernel
theorem hd_yJ5_append_3fe6f : yJ5_append_3fe6f.cls ≠ "java/lang/invoke/MethodHandle" ∧ yJ5_append_3fe6f.cls ≠ "java/lang/invoke/VarHandle" ∧ (parseMethodDescriptor yJ5_append_3fe6f.desc).map (fun d => d.parameters.length) = some 1 := by decide +kernel
theorem hd_yJ5_append_cf1ce : yJ5_append_cf1ce.cls ≠ "java/lang/invoke/MethodHandle" ∧ yJ5_append_cf1ce.cls ≠ "java/lang/invoke/VarHandle" ∧ (parseMethodDescriptor yJ5_append_cf1ce.desc).map (fun d => d.parameters.length) = some 1 := by decide +kernel
theorem ms_yJ8_newLength_cabcc : zWs yJ8_newLength_cabcc cJ8_newLength_cabcc 4 (some .int) := ⟨q_994, q_25, q_995⟩
theorem ms_yJ7_copyOf_9075b : zWs yJ7_copyOf_9075b cJ7_copyOf_9075b 3 (some (.array .byte)) := ⟨q_1003, q_26, q_1004⟩
theorem ms_yJ1_canEncode_fc78d : zWs yJ1_canEncode_fc78d cJ1_canEncode_fc78d 1 (some .boolean) := ⟨q_1190, q_22, q_1191⟩
theorem ms_yJ6_stringSize_0f7a4 : zWs yJ6_stringSize_0f7a4 cJ6_stringSize_0f7a4 4 (some .int) := ⟨q_1099, q_28, q_1100⟩
theorem ms_yJ6_getChars_ba4f3 : zWs yJ6_getChars_ba4f3 cJ6_getChars_ba4f3 7 (some .int) := ⟨q_1102, q_28, q_1103⟩
theorem mv_yJ0_getBytes_840e7 : zWv yJ0_getBytes_840e7 cJ0_getBytes_840e7 4 none := ⟨q_1086, q_1087, q_13, q_1088⟩
end
section
-- 70c.dec.lean.txt
-- decode rows of bld
theorem dJ8_newLength_cabcc_0 : decode cJ8_newLength_cabcc 0 = .ok (.iload_n 0, 1) := by decide +kernel
theorem dJ8_newLength_cabcc_1 : decode cJ8_newLength_cabcc 1 = .ok (.iload_n 1, 1) := by decide +kernel
theorem dJ8_newLength_cabcc_2 : decode cJ8_newLength_cabcc 2 = .ok (.iload_n 2, 1) := by decide +kernel
theorem dJ8_newLength_cabcc_3 : decode cJ8_newLength_cabcc 3 = .ok (.invokestatic 194, 3) := by decide +kernel
theorem dJ8_newLength_cabcc_6 : decode cJ8_newLength_cabcc 6 = .ok (.iadd, 1) := by decide +kernel
theorem dJ8_newLength_cabcc_7 : decode cJ8_newLength_cabcc 7 = .ok (.istore_n 3, 1) := by decide +kernel
theorem dJ8_newLength_cabcc_8 : decode cJ8_newLength_cabcc 8 = .ok (.iconst 0, 1) := by decide +kernel
theorem dJ8_newLength_cabcc_9 : decode cJ8_newLength_cabcc 9 = .ok (.iload_n 3, 1) := by decide +kernel
theorem dJ8_newLength_cabcc_10 : decode cJ8_newLength_cabcc 10 = .ok (.if_icmp .ge 11, 3) := by decide +kernel
theorem dJ8_newLength_cabcc_13 : decode cJ8_newLength_cabcc 13 = .ok (.iload_n 3, 1) := by decide +kernel
theorem dJ8_newLength_cabcc_14 : decode cJ8_newLength_cabcc 14 = .ok (.ldc 200, 2) := by decide +kernel
theorem dJ8_newLength_cabcc_16 : decode cJ8_newLength_cabcc 16 = .ok (.if_icmp .gt 5, 3) := by decide +kernel
theorem dJ8_newLength_cabcc_19 : decode cJ8_newLength_cabcc 19 = .ok (.iload_n 3, 1) := by decide +kernel
theorem dJ8_newLength_cabcc_20 : decode cJ8_newLength_cabcc 20 = .ok (.ireturn, 1) := by decide +kernel
theorem dJ5_newCapacity_0f7a4_0 : decode cJ5_newCapacity_0f7a4 0 = .ok (.aload_n 0, 1) := by decide +kernel
theorem dJ5_newCapacity_0f7a4_1 : decode cJ5_newCapacity_0f7a4 1 = .ok (.getfield 15, 3) := by decide +kernel
theorem dJ5_newCapacity_0f7a4_4 : decode cJ5_newCapacity_0f7a4 4 = .ok (.arraylength, 1) := by decide +kernel
theorem dJ5_newCapacity_0f7a4_5 : decode cJ5_newCapacity_0f7a4 5 = .ok (.istore_n 2, 1) := by decide +kernel
theorem dJ5_newCapacity_0f7a4_6 : decode cJ5_newCapacity_0f7a4 6 = .ok (.iload_n 1, 1) := by decide +kernel
theorem dJ5_newCapacity_0f7a4_7 : decode cJ5_newCapacity_0f7a4 7 = .ok (.aload_n 0, 1) := by decide +kernel
theorem dJ5_newCapacity_0f7a4_8 : decode cJ5_newCapacity_0f7a4 8 = .ok (.getfield 22, 3) := by decide +kernel
theorem dJ5_newCapacity_0f7a4_11 : decode cJ5_newCapacity_0f7a4 11 = .ok (.ishl, 1) := by decide +kernel
theorem dJ5_newCapacity_0f7a4_12 : decode cJ5_newCapacity_0f7a4 12 = .ok (.istore_n 3, 1) := by decide +kernel
theorem dJ5_newCapacity_0f7a4_13 : decode cJ5_newCapacity_0f7a4 13 = .ok (.iload_n 3, 1) := by decide +kernel
theorem dJ5_newCapacity_0f7a4_14 : decode cJ5_newCapacity_0f7a4 14 = .ok (.iload_n 2, 1) := by decide +kernel
theorem dJ5_newCapacity_0f7a4_15 : decode cJ5_newCapacity_0f7a4 15 = .ok (.isub, 1) := by decide +kernel
theorem dJ5_newCapacity_0f7a4_16 : decode cJ5_newCapacity_0f7a4 16 = .ok (.istore 4, 2) := by decide +kernel
theorem dJ5_newCapacity_0f7a4_18 : decode cJ5_newCapacity_0f7a4 18 = .ok (.iload_n 2, 1) := by decide +kernel
theorem dJ5_newCapacity_0f7a4_19 : decode cJ5_newCapacity_0f7a4 19 = .ok (.iload 4, 2) := by decide +kernel
theorem dJ5_newCapacity_0f7a4_21 : decode cJ5_newCapacity_0f7a4 21 = .ok (.iload_n 2, 1) := by decide +kernel
theorem dJ5_newCapacity_0f7a4_22 : decode cJ5_newCapacity_0f7a4 22 = .ok (.iconst 2, 1) := by decide +kernel
theorem dJ5_newCapacity_0f7a4_23 : decode cJ5_newCapacity_0f7a4 23 = .ok (.aload_n 0, 1) := by decide +kernel
theorem dJ5_newCapacity_0f7a4_24 : decode cJ5_newCapacity_0f7a4 24 = .ok (.getfield 22, 3) := by decide +kernel
theorem dJ5_newCapacity_0f7a4_27 : decode cJ5_newCapacity_0f7a4 27 = .ok (.ishl, 1) := by decide +kernel
theorem dJ5_newCapacity_0f7a4_28 : decode cJ5_newCapacity_0f7a4 28 = .ok (.iadd, 1) := by decide +kernel
theorem dJ5_newCapacity_0f7a4_29 : decode cJ5_newCapacity_0f7a4 29 = .ok (.invokestatic 114, 3) := by decide +kernel
theorem dJ5_newCapacity_0f7a4_32 : decode cJ5_newCapacity_0f7a4 32 = .ok (.istore 5, 2) := by decide +kernel
theorem dJ5_newCapacity_0f7a4_34 : decode cJ5_newCapacity_0f7a4 34 = .ok (.iload 5, 2) := by decide +kernel
theorem dJ5_newCapacity_0f7a4_36 : decode cJ5_newCapacity_0f7a4 36 = .ok (.ldc 39, 2) := by decide +kernel
theorem dJ5_newCapacity_0f7a4_38 : decode cJ5_newCapacity_0f7a4 38 = .ok (.if_icmp .ne 13, 3) := by decide +kernel
theorem dJ5_newCapacity_0f7a4_51 : decode cJ5_newCapacity_0f7a4 51 = .ok (.iload 5, 2) := by decide +kernel
theorem dJ5_newCapacity_0f7a4_53 : decode cJ5_newCapacity_0f7a4 53 = .ok (.aload_n 0, 1) := by decide +kernel
theorem dJ5_newCapacity_0f7a4_54 : decode cJ5_newCapacity_0f7a4 54 = .ok (.getfield 22, 3) := by decide +kernel
theorem dJ5_newCapacity_0f7a4_57 : decode cJ5_newCapacity_0f7a4 57 = .ok (.ishr, 1) := by decide +kernel
theorem dJ5_newCapacity_0f7a4_58 : decode cJ5_newCapacity_0f7a4 58 = .ok (.ireturn, 1) := by decide +kernel
theorem dJ7_copyOf_9075b_0 : decode cJ7_copyOf_9075b 0 = .ok (.iload_n 1, 1) := by decide +kernel
theorem dJ7_copyOf_9075b_1 : decode cJ7_copyOf_9075b 1 = .ok (.aload_n 0, 1) := by decide +kernel
theorem dJ7_copyOf_9075b_2 : decode cJ7_copyOf_9075b 2 = .ok (.arraylength, 1) := by decide +kernel
theorem dJ7_copyOf_9075b_3 : decode cJ7_copyOf_9075b 3 = .ok (.if_icmp .ne 11, 3) := by decide +kernel
theorem dJ7_copyOf_9075b_14 : decode cJ7_copyOf_9075b 14 = .ok (.iload_n 1, 1) := by decide +kernel
theorem dJ7_copyOf_9075b_15 : decode cJ7_copyOf_9075b 15 = .ok (.newarray .byte, 2) := by decide +kernel
theorem dJ7_copyOf_9075b_17 : decode cJ7_copyOf_9075b 17 = .ok (.astore_n 2, 1) := by decide +kernel
theorem dJ7_copyOf_9075b_18 : decode cJ7_copyOf_9075b 18 = .ok (.aload_n 0, 1) := by decide +kernel
theorem dJ7_copyOf_9075b_19 : decode cJ7_copyOf_9075b 19 = .ok (.iconst 0, 1) := by decide +kernel
theorem dJ7_copyOf_9075b_20 : decode cJ7_copyOf_9075b 20 = .ok (.aload_n 2, 1) := by decide +kernel
theorem dJ7_copyOf_9075b_21 : decode cJ7_copyOf_9075b 21 = .ok (.iconst 0, 1) := by decide +kernel
theorem dJ7_copyOf_9075b_22 : decode cJ7_copyOf_9075b 22 = .ok (.aload_n 0, 1) := by decide +kernel
theorem dJ7_copyOf_9075b_23 : decode cJ7_copyOf_9075b 23 = .ok (.arraylength, 1) := by decide +kernel
theorem dJ7_copyOf_9075b_24 : decode cJ7_copyOf_9075b 24 = .ok (.iload_n 1, 1) := by decide +kernel
theorem dJ7_copyOf_9075b_25 : decode cJ7_copyOf_9075b 25 = .ok (.invokestatic 304, 3) := by decide +kernel
theorem dJ7_copyOf_9075b_28 : decode cJ7_copyOf_9075b 28 = .ok (.invokestatic 150, 3) := by decide +kernel
theorem dJ7_copyOf_9075b_31 : decode cJ7_copyOf_9075b 31 = .ok (.aload_n 2, 1) := by decide +kernel
theorem dJ7_copyOf_9075b_32 : decode cJ7_copyOf_9075b 32 = .ok (.areturn, 1) := by decide +kernel
theorem dJ5_ensureCapacityInternal_d00df_0 : decode cJ5_ensureCapacityInternal_d00df 0 = .ok (.aload_n 0, 1) := by decide +kernel
theorem dJ5_ensureCapacityInternal_d00df_1 : decode cJ5_ensureCapacityInternal_d00df 1 = .ok (.getfield 15, 3) := by decide +kernel
theorem dJ5_ensureCapacityInternal_d00df_4 : decode cJ5_ensureCapacityInternal_d00df 4 = .ok (.arraylength, 1) := by decide +kernel
theorem dJ5_ensureCapacityInternal_d00df_5 : decode cJ5_ensureCapacityInternal_d00df 5 = .ok (.aload_n 0, 1) := by decide +kernel
theorem dJ5_ensureCapacityInternal_d00df_6 : decode cJ5_ensureCapacityInternal_d00df 6 = .ok (.getfield 22, 3) := by decide +kernel
theorem dJ5_ensureCapacityInternal_d00df_9 : decode cJ5_ensureCapacityInternal_d00df 9 = .ok (.ishr, 1) := by decide +kernel
theorem dJ5_ensureCapacityInternal_d00df_10 : decode cJ5_ensureCapacityInternal_d00df 10 = .ok (.istore_n 2, 1) := by decide +kernel
theorem dJ5_ensureCapacityInternal_d00df_11 : decode cJ5_ensureCapacityInternal_d00df 11 = .ok (.iload_n 1, 1) := by decide +kernel
theorem dJ5_ensureCapacityInternal_d00df_12 : decode cJ5_ensureCapacityInternal_d00df 12 = .ok (.iload_n 2, 1) := by decide +kernel
theorem dJ5_ensureCapacityInternal_d00df_13 : decode cJ5_ensureCapacityInternal_d00df 13 = .ok (.isub, 1) := by decide +kernel
theorem dJ5_ensureCapacityInternal_d00df_14 : decode cJ5_ensureCapacityInternal_d00df 14 = .ok (.ifCond .le 24, 3) := by decide +kernel
theorem dJ5_ensureCapacityInternal_d00df_38 : decode cJ5_ensureCapacityInternal_d00df 38 = .ok (.return_, 1) := by decide +kernel
theorem dJ5_ensureCapacityInternal_d00df_17 : decode cJ5_ensureCapacityInternal_d00df 17 = .ok (.aload_n 0, 1) := by decide +kernel
theorem dJ5_ensureCapacityInternal_d00df_18 : decode cJ5_ensureCapacityInternal_d00df 18 = .ok (.aload_n 0, 1) := by decide +kernel
theorem dJ5_ensureCapacityInternal_d00df_19 : decode cJ5_ensureCapacityInternal_d00df 19 = .ok (.getfield 15, 3) := by decide +kernel
theorem dJ5_ensureCapacityInternal_d00df_22 : decode cJ5_ensureCapacityInternal_d00df 22 = .ok (.aload_n 0, 1) := by decide +kernel
theorem dJ5_ensureCapacityInternal_d00df_23 : decode cJ5_ensureCapacityInternal_d00df 23 = .ok (.iload_n 1, 1) := by decide +kernel
theorem dJ5_ensureCapacityInternal_d00df_24 : decode cJ5_ensureCapacityInternal_d00df 24 = .ok (.invokevirtual 104, 3) := by decide +kernel
theorem dJ5_ensureCapacityInternal_d00df_27 : decode cJ5_ensureCapacityInternal_d00df 27 = .ok (.aload_n 0, 1) := by decide +kernel
theorem dJ5_ensureCapacityInternal_d00df_28 : decode cJ5_ensureCapacityInternal_d00df 28 = .ok (.getfield 22, 3) := by decide +kernel
theorem dJ5_ensureCapacityInternal_d00df_31 : decode cJ5_ensureCapacityInternal_d00df 31 = .ok (.ishl, 1) := by decide +kernel
theorem dJ5_ensureCapacityInternal_d00df_32 : decode cJ5_ensureCapacityInternal_d00df 32 = .ok (.invokestatic 108, 3) := by decide +kernel
theorem dJ5_ensureCapacityInternal_d00df_35 : decode cJ5_ensureCapacityInternal_d00df 35 = .ok (.putfield 15, 3) := by decide +kernel
theorem dJ5_isLatin1_aae02_0 : decode cJ5_isLatin1_aae02 0 = .ok (.getstatic 18, 3) := by decide +kernel
theorem dJ5_isLatin1_aae02_3 : decode cJ5_isLatin1_aae02 3 = .ok (.ifCond .eq 14, 3) := by decide +kernel
theorem dJ5_isLatin1_aae02_6 : decode cJ5_isLatin1_aae02 6 = .ok (.aload_n 0, 1) := by decide +kernel
theorem dJ5_isLatin1_aae02_7 : decode cJ5_isLatin1_aae02 7 = .ok (.getfield 22, 3) := by decide +kernel
theorem dJ5_isLatin1_aae02_10 : decode cJ5_isLatin1_aae02 10 = .ok (.ifCond .ne 7, 3) := by decide +kernel
theorem dJ5_isLatin1_aae02_13 : decode cJ5_isLatin1_aae02 13 = .ok (.iconst 1, 1) := by decide +kernel
theorem dJ5_isLatin1_aae02_14 : decode cJ5_isLatin1_aae02 14 = .ok (.goto 4, 3) := by decide +kernel
theorem dJ5_isLatin1_aae02_18 : decode cJ5_isLatin1_aae02 18 = .ok (.ireturn, 1) := by decide +kernel
theorem dJ5_setLength_d00df_0 : decode cJ5_setLength_d00df 0 = .ok (.iload_n 1, 1) := by decide +kernel
theorem dJ5_setLength_d00df_1 : decode cJ5_setLength_d00df 1 = .ok (.ifCond .ge 12, 3) := by decide +kernel
theorem dJ5_setLength_d00df_13 : decode cJ5_setLength_d00df 13 = .ok (.aload_n 0, 1) := by decide +kernel
theorem dJ5_setLength_d00df_14 : decode cJ5_setLength_d00df 14 = .ok (.iload_n 1, 1) := by decide +kernel
theorem dJ5_setLength_d00df_15 : decode cJ5_setLength_d00df 15 = .ok (.invokevirtual 100, 3) := by decide +kernel
theorem dJ5_setLength_d00df_18 : decode cJ5_setLength_d00df 18 = .ok (.aload_n 0, 1) := by decide +kernel
theorem dJ5_setLength_d00df_19 : decode cJ5_setLength_d00df 19 = .ok (.getfield 79, 3) := by decide +kernel
theorem dJ5_setLength_d00df_22 : decode cJ5_setLength_d00df 22 = .ok (.iload_n 1, 1) := by decide +kernel
theorem dJ5_setLength_d00df_23 : decode cJ5_setLength_d00df 23 = .ok (.if_icmp .ge 40, 3) := by decide +kernel
theorem dJ5_setLength_d00df_63 : decode cJ5_setLength_d00df 63 = .ok (.aload_n 0, 1) := by decide +kernel
theorem dJ5_setLength_d00df_64 : decode cJ5_setLength_d00df 64 = .ok (.getfield 79, 3) := by decide +kernel
theorem dJ5_setLength_d00df_67 : decode cJ5_setLength_d00df 67 = .ok (.iload_n 1, 1) := by decide +kernel
theorem dJ5_setLength_d00df_68 : decode cJ5_setLength_d00df 68 = .ok (.if_icmp .le 8, 3) := by decide +kernel
theorem dJ5_setLength_d00df_76 : decode cJ5_setLength_d00df 76 = .ok (.aload_n 0, 1) := by decide +kernel
theorem dJ5_setLength_d00df_77 : decode cJ5_setLength_d00df 77 = .ok (.iload_n 1, 1) := by decide +kernel
theorem dJ5_setLength_d00df_78 : decode cJ5_setLength_d00df 78 = .ok (.putfield 79, 3) := by decide +kernel
theorem dJ5_setLength_d00df_81 : decode cJ5_setLength_d00df 81 = .ok (.return_, 1) := by decide +kernel
theorem dJ5_setLength_d00df_71 : decode cJ5_setLength_d00df 71 = .ok (.aload_n 0, 1) := by decide +kernel
theorem dJ5_setLength_d00df_72 : decode cJ5_setLength_d00df 72 = .ok (.iconst 1, 1) := by decide +kernel
theorem dJ5_setLength_d00df_73 : decode cJ5_setLength_d00df 73 = .ok (.putfield 73, 3) := by decide +kernel
theorem dJ1_canEncode_fc78d_0 : decode cJ1_canEncode_fc78d 0 = .ok (.iload_n 0, 1) := by decide +kernel
theorem dJ1_canEncode_fc78d_1 : decode cJ1_canEncode_fc78d 1 = .ok (.sipush 255, 3) := by decide +kernel
theorem dJ1_canEncode_fc78d_4 : decode cJ1_canEncode_fc78d 4 = .ok (.if_icmp .gt 7, 3) := by decide +kernel
theorem dJ1_canEncode_fc78d_7 : decode cJ1_canEncode_fc78d 7 = .ok (.iconst 1, 1) := by decide +kernel
theorem dJ1_canEncode_fc78d_8 : decode cJ1_canEncode_fc78d 8 = .ok (.goto 4, 3) := by decide +kernel
theorem dJ1_canEncode_fc78d_12 : decode cJ1_canEncode_fc78d 12 = .ok (.ireturn, 1) := by decide +kernel
theorem dJ5_append_3fe6f_0 : decode cJ5_append_3fe6f 0 = .ok (.aload_n 0, 1) := by decide +kernel
theorem dJ5_append_3fe6f_1 : decode cJ5_append_3fe6f 1 = .ok (.aload_n 0, 1) := by decide +kernel
theorem dJ5_append_3fe6f_2 : decode cJ5_append_3fe6f 2 = .ok (.getfield 79, 3) := by decide +kernel
theorem dJ5_append_3fe6f_5 : decode cJ5_append_3fe6f 5 = .ok (.iconst 1, 1) := by decide +kernel
theorem dJ5_append_3fe6f_6 : decode cJ5_append_3fe6f 6 = .ok (.iadd, 1) := by decide +kernel
theorem dJ5_append_3fe6f_7 : decode cJ5_append_3fe6f 7 = .ok (.invokevirtual 100, 3) := by decide +kernel
theorem dJ5_append_3fe6f_10 : decode cJ5_append_3fe6f 10 = .ok (.aload_n 0, 1) := by decide +kernel
theorem dJ5_append_3fe6f_11 : decode cJ5_append_3fe6f 11 = .ok (.invokevirtual 83, 3) := by decide +kernel
theorem dJ5_append_3fe6f_14 : decode cJ5_append_3fe6f 14 = .ok (.ifCond .eq 31, 3) := by decide +kernel
theorem dJ5_append_3fe6f_17 : decode cJ5_append_3fe6f 17 = .ok (.iload_n 1, 1) := by decide +kernel
theorem dJ5_append_3fe6f_18 : decode cJ5_append_3fe6f 18 = .ok (.invokestatic 191, 3) := by decide +kernel
theorem dJ5_append_3fe6f_21 : decode cJ5_append_3fe6f 21 = .ok (.ifCond .eq 24, 3) := by decide +kernel
theorem dJ5_append_3fe6f_24 : decode cJ5_append_3fe6f 24 = .ok (.aload_n 0, 1) := by decide +kernel
theorem dJ5_append_3fe6f_25 : decode cJ5_append_3fe6f 25 = .ok (.getfield 15, 3) := by decide +kernel
theorem dJ5_append_3fe6f_28 : decode cJ5_append_3fe6f 28 = .ok (.aload_n 0, 1) := by decide +kernel
theorem dJ5_append_3fe6f_29 : decode cJ5_append_3fe6f 29 = .ok (.dup, 1) := by decide +kernel
theorem dJ5_append_3fe6f_30 : decode cJ5_append_3fe6f 30 = .ok (.getfield 79, 3) := by decide +kernel
theorem dJ5_append_3fe6f_33 : decode cJ5_append_3fe6f 33 = .ok (.dup_x1, 1) := by decide +kernel
theorem dJ5_append_3fe6f_34 : decode cJ5_append_3fe6f 34 = .ok (.iconst 1, 1) := by decide +kernel
theorem dJ5_append_3fe6f_35 : decode cJ5_append_3fe6f 35 = .ok (.iadd, 1) := by decide +kernel
theorem dJ5_append_3fe6f_36 : decode cJ5_append_3fe6f 36 = .ok (.putfield 79, 3) := by decide +kernel
theorem dJ5_append_3fe6f_39 : decode cJ5_append_3fe6f 39 = .ok (.iload_n 1, 1) := by decide +kernel
theorem dJ5_append_3fe6f_40 : decode cJ5_append_3fe6f 40 = .ok (.i2b, 1) := by decide +kernel
theorem dJ5_append_3fe6f_41 : decode cJ5_append_3fe6f 41 = .ok (.bastore, 1) := by decide +kernel
theorem dJ5_append_3fe6f_42 : decode cJ5_append_3fe6f 42 = .ok (.goto 33, 3) := by decide +kernel
theorem dJ5_append_3fe6f_75 : decode cJ5_append_3fe6f 75 = .ok (.aload_n 0, 1) := by decide +kernel
theorem dJ5_append_3fe6f_76 : decode cJ5_append_3fe6f 76 = .ok (.areturn, 1) := by decide +kernel
theorem dJ5_append_c97b9_0 : decode cJ5_append_c97b9 0 = .ok (.aload_n 0, 1) := by decide +kernel
theorem dJ5_append_c97b9_1 : decode cJ5_append_c97b9 1 = .ok (.getfield 79, 3) := by decide +kernel
theorem dJ5_append_c97b9_4 : decode cJ5_append_c97b9 4 = .ok (.istore_n 2, 1) := by decide +kernel
theorem dJ5_append_c97b9_5 : decode cJ5_append_c97b9 5 = .ok (.iload_n 2, 1) := by decide +kernel
theorem dJ5_append_c97b9_6 : decode cJ5_append_c97b9 6 = .ok (.iload_n 1, 1) := by decide +kernel
theorem dJ5_append_c97b9_7 : decode cJ5_append_c97b9 7 = .ok (.invokestatic 245, 3) := by decide +kernel
theorem dJ5_append_c97b9_10 : decode cJ5_append_c97b9 10 = .ok (.iadd, 1) := by decide +kernel
theorem dJ5_append_c97b9_11 : decode cJ5_append_c97b9 11 = .ok (.istore_n 3, 1) := by decide +kernel
theorem dJ5_append_c97b9_12 : decode cJ5_append_c97b9 12 = .ok (.aload_n 0, 1) := by decide +kernel
theorem dJ5_append_c97b9_13 : decode cJ5_append_c97b9 13 = .ok (.iload_n 3, 1) := by decide +kernel
theorem dJ5_append_c97b9_14 : decode cJ5_append_c97b9 14 = .ok (.invokevirtual 100, 3) := by decide +kernel
theorem dJ5_append_c97b9_17 : decode cJ5_append_c97b9 17 = .ok (.aload_n 0, 1) := by decide +kernel
theorem dJ5_append_c97b9_18 : decode cJ5_append_c97b9 18 = .ok (.invokevirtual 83, 3) := by decide +kernel
theorem dJ5_append_c97b9_21 : decode cJ5_append_c97b9 21 = .ok (.ifCond .eq 16, 3) := by decide +kernel
theorem dJ5_append_c97b9_24 : decode cJ5_append_c97b9 24 = .ok (.iload_n 1, 1) := by decide +kernel
theorem dJ5_append_c97b9_25 : decode cJ5_append_c97b9 25 = .ok (.iload_n 3, 1) := by decide +kernel
theorem dJ5_append_c97b9_26 : decode cJ5_append_c97b9 26 = .ok (.aload_n 0, 1) := by decide +kernel
theorem dJ5_append_c97b9_27 : decode cJ5_append_c97b9 27 = .ok (.getfield 15, 3) := by decide +kernel
theorem dJ5_append_c97b9_30 : decode cJ5_append_c97b9 30 = .ok (.invokestatic 248, 3) := by decide +kernel
theorem dJ5_append_c97b9_33 : decode cJ5_append_c97b9 33 = .ok (.pop, 1) := by decide +kernel
theorem dJ5_append_c97b9_34 : decode cJ5_append_c97b9 34 = .ok (.goto 14, 3) := by decide +kernel
theorem dJ5_append_c97b9_48 : decode cJ5_append_c97b9 48 = .ok (.aload_n 0, 1) := by decide +kernel
theorem dJ5_append_c97b9_49 : decode cJ5_append_c97b9 49 = .ok (.iload_n 3, 1) := by decide +kernel
theorem dJ5_append_c97b9_50 : decode cJ5_append_c97b9 50 = .ok (.putfield 79, 3) := by decide +kernel
theorem dJ5_append_c97b9_53 : decode cJ5_append_c97b9 53 = .ok (.aload_n 0, 1) := by decide +kernel
theorem dJ5_append_c97b9_54 : decode cJ5_append_c97b9 54 = .ok (.areturn, 1) := by decide +kernel
theorem dJ5_inflateIfNeededFor_a7421_0 : decode cJ5_inflateIfNeededFor_a7421 0 = .ok (.getstatic 18, 3) := by decide +kernel
theorem dJ5_inflateIfNeededFor_a7421_3 : decode cJ5_inflateIfNeededFor_a7421 3 = .ok (.ifCond .eq 18, 3) := by decide +kernel
theorem dJ5_inflateIfNeededFor_a7421_6 : decode cJ5_inflateIfNeededFor_a7421 6 = .ok (.aload_n 0, 1) := by decide +kernel
theorem dJ5_inflateIfNeededFor_a7421_7 : decode cJ5_inflateIfNeededFor_a7421 7 = .ok (.getfield 22, 3) := by decide +kernel
theorem dJ5_inflateIfNeededFor_a7421_10 : decode cJ5_inflateIfNeededFor_a7421 10 = .ok (.aload_n 1, 1) := by decide +kernel
theorem dJ5_inflateIfNeededFor_a7421_11 : decode cJ5_inflateIfNeededFor_a7421 11 = .ok (.invokevirtual 40, 3) := by decide +kernel
theorem dJ5_inflateIfNeededFor_a7421_14 : decode cJ5_inflateIfNeededFor_a7421 14 = .ok (.if_icmp .eq 7, 3) := by decide +kernel
theorem dJ5_inflateIfNeededFor_a7421_21 : decode cJ5_inflateIfNeededFor_a7421 21 = .ok (.return_, 1) := by decide +kernel
theorem dJ0_getBytes_840e7_0 : decode cJ0_getBytes_840e7 0 = .ok (.aload_n 0, 1) := by decide +kernel
theorem dJ0_getBytes_840e7_1 : decode cJ0_getBytes_840e7 1 = .ok (.invokevirtual 335, 3) := by decide +kernel
theorem dJ0_getBytes_840e7_4 : decode cJ0_getBytes_840e7 4 = .ok (.iload_n 3, 1) := by decide +kernel
theorem dJ0_getBytes_840e7_5 : decode cJ0_getBytes_840e7 5 = .ok (.if_icmp .ne 23, 3) := by decide +kernel
theorem dJ0_getBytes_840e7_8 : decode cJ0_getBytes_840e7 8 = .ok (.aload_n 0, 1) := by decide +kernel
theorem dJ0_getBytes_840e7_9 : decode cJ0_getBytes_840e7 9 = .ok (.getfield 9, 3) := by decide +kernel
theorem dJ0_getBytes_840e7_12 : decode cJ0_getBytes_840e7 12 = .ok (.iconst 0, 1) := by decide +kernel
theorem dJ0_getBytes_840e7_13 : decode cJ0_getBytes_840e7 13 = .ok (.aload_n 1, 1) := by decide +kernel
theorem dJ0_getBytes_840e7_14 : decode cJ0_getBytes_840e7 14 = .ok (.iload_n 2, 1) := by decide +kernel
theorem dJ0_getBytes_840e7_15 : decode cJ0_getBytes_840e7 15 = .ok (.iload_n 3, 1) := by decide +kernel
theorem dJ0_getBytes_840e7_16 : decode cJ0_getBytes_840e7 16 = .ok (.ishl, 1) := by decide +kernel
theorem dJ0_getBytes_840e7_17 : decode cJ0_getBytes_840e7 17 = .ok (.aload_n 0, 1) := by decide +kernel
theorem dJ0_getBytes_840e7_18 : decode cJ0_getBytes_840e7 18 = .ok (.getfield 9, 3) := by decide +kernel
theorem dJ0_getBytes_840e7_21 : decode cJ0_getBytes_840e7 21 = .ok (.arraylength, 1) := by decide +kernel
theorem dJ0_getBytes_840e7_22 : decode cJ0_getBytes_840e7 22 = .ok (.invokestatic 212, 3) := by decide +kernel
theorem dJ0_getBytes_840e7_25 : decode cJ0_getBytes_840e7 25 = .ok (.goto 18, 3) := by decide +kernel
theorem dJ0_getBytes_840e7_43 : decode cJ0_getBytes_840e7 43 = .ok (.return_, 1) := by decide +kernel
theorem dJ5_putStringAt_47b60_0 : decode cJ5_putStringAt_47b60 0 = .ok (.aload_n 0, 1) := by decide +kernel
theorem dJ5_putStringAt_47b60_1 : decode cJ5_putStringAt_47b60 1 = .ok (.aload_n 2, 1) := by decide +kernel
theorem dJ5_putStringAt_47b60_2 : decode cJ5_putStringAt_47b60 2 = .ok (.invokevirtual 397, 3) := by decide +kernel
theorem dJ5_putStringAt_47b60_5 : decode cJ5_putStringAt_47b60 5 = .ok (.aload_n 2, 1) := by decide +kernel
theorem dJ5_putStringAt_47b60_6 : decode cJ5_putStringAt_47b60 6 = .ok (.aload_n 0, 1) := by decide +kernel
theorem dJ5_putStringAt_47b60_7 : decode cJ5_putStringAt_47b60 7 = .ok (.getfield 15, 3) := by decide +kernel
theorem dJ5_putStringAt_47b60_10 : decode cJ5_putStringAt_47b60 10 = .ok (.iload_n 1, 1) := by decide +kernel
theorem dJ5_putStringAt_47b60_11 : decode cJ5_putStringAt_47b60 11 = .ok (.aload_n 0, 1) := by decide +kernel
theorem dJ5_putStringAt_47b60_12 : decode cJ5_putStringAt_47b60 12 = .ok (.getfield 22, 3) := by decide +kernel
theorem dJ5_putStringAt_47b60_15 : decode cJ5_putStringAt_47b60 15 = .ok (.invokevirtual 399, 3) := by decide +kernel
theorem dJ5_putStringAt_47b60_18 : decode cJ5_putStringAt_47b60 18 = .ok (.return_, 1) := by decide +kernel
theorem dJ5_append_cf1ce_0 : decode cJ5_append_cf1ce 0 = .ok (.aload_n 1, 1) := by decide +kernel
theorem dJ5_append_cf1ce_1 : decode cJ5_append_cf1ce 1 = .ok (.ifnonnull 8, 3) := by decide +kernel
theorem dJ5_append_cf1ce_9 : decode cJ5_append_cf1ce 9 = .ok (.aload_n 1, 1) := by decide +kernel
theorem dJ5_append_cf1ce_10 : decode cJ5_append_cf1ce 10 = .ok (.invokevirtual 32, 3) := by decide +kernel
theorem dJ5_append_cf1ce_13 : decode cJ5_append_cf1ce 13 = .ok (.istore_n 2, 1) := by decide +kernel
theorem dJ5_append_cf1ce_14 : decode cJ5_append_cf1ce 14 = .ok (.aload_n 0, 1) := by decide +kernel
theorem dJ5_append_cf1ce_15 : decode cJ5_append_cf1ce 15 = .ok (.aload_n 0, 1) := by decide +kernel
theorem dJ5_append_cf1ce_16 : decode cJ5_append_cf1ce 16 = .ok (.getfield 79, 3) := by decide +kernel
theorem dJ5_append_cf1ce_19 : decode cJ5_append_cf1ce 19 = .ok (.iload_n 2, 1) := by decide +kernel
theorem dJ5_append_cf1ce_20 : decode cJ5_append_cf1ce 20 = .ok (.iadd, 1) := by decide +kernel
theorem dJ5_append_cf1ce_21 : decode cJ5_append_cf1ce 21 = .ok (.invokevirtual 100, 3) := by decide +kernel
theorem dJ5_append_cf1ce_24 : decode cJ5_append_cf1ce 24 = .ok (.aload_n 0, 1) := by decide +kernel
theorem dJ5_append_cf1ce_25 : decode cJ5_append_cf1ce 25 = .ok (.aload_n 0, 1) := by decide +kernel
theorem dJ5_append_cf1ce_26 : decode cJ5_append_cf1ce 26 = .ok (.getfield 79, 3) := by decide +kernel
theorem dJ5_append_cf1ce_29 : decode cJ5_append_cf1ce 29 = .ok (.aload_n 1, 1) := by decide +kernel
theorem dJ5_append_cf1ce_30 : decode cJ5_append_cf1ce 30 = .ok (.invokevirtual 208, 3) := by decide +kernel
theorem dJ5_append_cf1ce_33 : decode cJ5_append_cf1ce 33 = .ok (.aload_n 0, 1) := by decide +kernel
theorem dJ5_append_cf1ce_34 : decode cJ5_append_cf1ce 34 = .ok (.dup, 1) := by decide +kernel
theorem dJ5_append_cf1ce_35 : decode cJ5_append_cf1ce 35 = .ok (.getfield 79, 3) := by decide +kernel
theorem dJ5_append_cf1ce_38 : decode cJ5_append_cf1ce 38 = .ok (.iload_n 2, 1) := by decide +kernel
theorem dJ5_append_cf1ce_39 : decode cJ5_append_cf1ce 39 = .ok (.iadd, 1) := by decide +kernel
theorem dJ5_append_cf1ce_40 : decode cJ5_append_cf1ce 40 = .ok (.putfield 79, 3) := by decide +kernel
theorem dJ5_append_cf1ce_43 : decode cJ5_append_cf1ce 43 = .ok (.aload_n 0, 1) := by decide +kernel
theorem dJ5_append_cf1ce_44 : decode cJ5_append_cf1ce 44 = .ok (.areturn, 1) := by decide +kernel
theorem dJ4_append_bf812_0 : decode cJ4_append_bf812 0 = .ok (.aload_n 0, 1) := by decide +kernel
theorem dJ4_append_bf812_1 : decode cJ4_append_bf812 1 = .ok (.iload_n 1, 1) := by decide +kernel
theorem dJ4_append_bf812_2 : decode cJ4_append_bf812 2 = .ok (.invokespecial 53, 3) := by decide +kernel
theorem dJ4_append_bf812_5 : decode cJ4_append_bf812 5 = .ok (.pop, 1) := by decide +kernel
theorem dJ4_append_bf812_6 : decode cJ4_append_bf812 6 = .ok (.aload_n 0, 1) := by decide +kernel
theorem dJ4_append_bf812_7 : decode cJ4_append_bf812 7 = .ok (.areturn, 1) := by decide +kernel
theorem dJ4_append_cf468_0 : decode cJ4_append_cf468 0 = .ok (.aload_n 0, 1) := by decide +kernel
theorem dJ4_append_cf468_1 : decode cJ4_append_cf468 1 = .ok (.iload_n 1, 1) := by decide +kernel
theorem dJ4_append_cf468_2 : decode cJ4_append_cf468 2 = .ok (.invokespecial 50, 3) := by decide +kernel
theorem dJ4_append_cf468_5 : decode cJ4_append_cf468 5 = .ok (.pop, 1) := by decide +kernel
theorem dJ4_append_cf468_6 : decode cJ4_append_cf468 6 = .ok (.aload_n 0, 1) := by decide +kernel
theorem dJ4_append_cf468_7 : decode cJ4_append_cf468 7 = .ok (.areturn, 1) := by decide +kernel
theorem dJ4_append_15ec4_0 : decode cJ4_append_15ec4 0 = .ok (.aload_n 0, 1) := by decide +kernel
theorem dJ4_append_15ec4_1 : decode cJ4_append_15ec4 1 = .ok (.aload_n 1, 1) := by decide +kernel
theorem dJ4_append_15ec4_2 : decode cJ4_append_15ec4 2 = .ok (.invokespecial 29, 3) := by decide +kernel
theorem dJ4_append_15ec4_5 : decode cJ4_append_15ec4 5 = .ok (.pop, 1) := by decide +kernel
theorem dJ4_append_15ec4_6 : decode cJ4_append_15ec4 6 = .ok (.aload_n 0, 1) := by decide +kernel
theorem dJ4_append_15ec4_7 : decode cJ4_append_15ec4 7 = .ok (.areturn, 1) := by decide +kernel
end
section
-- 70d.bld.lean.txt
/-- the builder: cn letters, room for cp at least -/
def bldC (cs : Nat → ClassId) (ad : Nat → Nat) (g : Nat → va_E) (N : Nat) (cn cp : Int) : Prop := ∃ (v cap : Nat) (ml : Int) (b : Nat → Int), (v = 920 ∨ 952 ≤ v) ∧ v < N ∧ cap ≤ 1000 ∧ cp ≤ (cap : Int) ∧ (0 ≤ cn ∧ cn ≤ (cap : Int)) ∧ (0 ≤ ml ∧ ml ≤ 1) ∧ (∀ j, -128 ≤ b j ∧ b j ≤ 127) ∧ g 919 = oC 1 [.ref (ad v), .int (zI 0), .int (zI ml), .int (zI cn)] ∧ g v = bA cs cap b
/-- what stays when the builder writes -/
def GR (N : Nat) (ad : Nat → Nat) (g : Nat → va_E) (N' : Nat) (ad' : Nat → Nat) (g' : Nat → va_E) : Prop := N ≤ N' ∧ (∀ j, j < N → ad' j = ad j) ∧ ∀ j, j < 952 → j ≠ 919 → j ≠ 920 → g' j = g j
theorem GR.refl {N : Nat} {ad : Nat → Nat} {g : Nat → va_E} : GR N ad g N ad g := ⟨Nat.le_refl _, fun _ _ => rfl, fun _ _ _ _ => rfl⟩
theorem GR.trans {N N1 N2 : Nat} {ad ad1 ad2 : Nat → Nat} {g g1 g2 : Nat → va_E} (h : GR N ad g N1 ad1 g1) (k : GR N1 ad1 g1 N2 ad2 g2) : GR N ad g N2 ad2 g2 := ⟨Nat.le_trans h.1 k.1, fun j hj => (k.2.1 j (Nat.lt_of_lt_of_le hj h.1)).trans (h.2.1 j hj), fun j a b c => (k.2.2 j a b c).trans (h.2.2 j a b c)⟩
theorem fits_b {x : Int} (h : -128 ≤ x ∧ x ≤ 127) : fits .byte (.int (zI x)) = true := by
  have e1 : zI (-128) ≤ zI x := (zI_le (by omega) (by omega)).mpr h.1
  have e2 : zI x ≤ zI 127 := (zI_le (by omega) (by omega)).mpr h.2
  have k1 : zI (-128) = (-128 : Int32) := by decide
  have k2 : zI 127 = (127 : Int32) := by decide
  rw [k1] at e1
  rw [k2] at e2
  unfold fits
  simp only [Bool.and_eq_true, decide_eq_true_eq]
  exact ⟨e1, e2⟩

section ZBC
variable {p : Program} {l : Launch} {e : Env} {R : Room} {s : State} {m : MethodId} {args : Array Value} {below : List Frame} {meth : Method} {c : Code} {Q : State → Prop} {D : va_G} {A : Nat → Prop} {cs : Nat → ClassId} {tt : Nat} {cc : ByteArray} {nL : Nat} {own : String} {N : Nat} {ad : Nat → Nat} {g : Nat → va_E} {k n pc : Nat} {lv lv' : List (Nat × Value)} {rest st : List Value} {Qr : zR} {mc ms : Nat}
theorem z_copyB (C : zC p s m args c cc nL own D A cs tt) {index i j a b : Nat} (hlk : Cond.methodLink own index arraycopyName ∈ AW) (hnat : Cond.native arraycopyName ∈ AW) (hstat : Cond.static arraycopyName ∈ AW) (hini : Cond.initialized "java/lang/System" ∈ AW) (hi : i < N) (hj : j < N) (ha : ad i = a) (hb2 : ad j = b) {n0 n1 : Nat} {r r2 : Nat → Int} (hgi : g i = bA cs n0 r) (hgj : g j = bA cs n1 r2) (sp dp nn : Nat) {zs zd zn : Int} (hzs : zs = (sp : Int)) (hzd : zd = (dp : Int)) (hzn : zn = (nn : Int)) (h4 : sp + nn ≤ n0) (h5 : dp + nn ≤ n1) (hs : n0 ≤ 2147483647) (hd : n1 ≤ 2147483647) (hfit : ∀ q, -128 ≤ r q ∧ r q ≤ 127) (hframes : 1 ≤ R.frames) (hlocals : (rest.map fun v => v.category).sum + (nativeFrameWords "java/lang/System" "arraycopy" 5 + 11) ≤ R.locals) (hdg : decode cc pc = .ok (.invokestatic index, 3))
    (kk : ∀ g' : Nat → va_E, g' = va_up g j (bA cs n1 (cZ r r2 sp dp nn)) → zV p l e R s m args below meth c Q D A nL N ad g' k n (pc + 3) (lv) (rest)) : zV p l e R s m args below meth c Q D A nL N ad g k n (pc) (lv) (.int (zI zn) :: .int (zI zd) :: .ref b :: .int (zI zs) :: .ref a :: rest) := fun H locs ls hP hD hS hl => by
  subst hzs; subst hzd; subst hzn; subst ha; subst hb2
  have e1 : (zI (sp : Int)).toNatClampNeg = sp := zI_clN (by omega)
  have e2 : (zI (dp : Int)).toNatClampNeg = dp := zI_clN (by omega)
  have e3 : (zI (nn : Int)).toNatClampNeg = nn := zI_clN (by omega)
  have hneg : ∀ q : Nat, q ≤ 2147483647 → ¬ zI (q : Int) < 0 := fun q hq => by rw [← zI_0, zI_lt (by omega) (by omega)]; omega
  exact va_copyi C.1 C.2.1 (by rw [C.2.2.1]; exact hl.1.symm) C.2.2.2.1 (C.2.2.2.2.1 _ hlk) (C.2.2.2.2.1 _ hnat) (C.2.2.2.2.1 _ hstat) (C.2.2.2.2.1 _ hini) C.2.2.2.2.2.1 hP hD hS i j 0 0 (f := fun q => zI (r q)) (g := fun q => zI (r2 q)) (ty := .byte) ((wl_at hi).trans (by rw [hgi])) ((wl_at hj).trans (by rw [hgj])) rfl rfl rfl (hneg sp (by omega)) (hneg dp (by omega)) (hneg nn (by omega)) (by rw [e1, e3]; exact h4) (by rw [e2, e3]; exact h5) (fun q hq => fits_b (hfit _)) hframes hlocals hdg (fun H1 locs1 hP1 hD1 hS1 => by
    rw [e1, e2, e3] at hP1 hD1
    have e4 : va_cpy (fun q => zI (r q)) (fun q => zI (r2 q)) sp dp nn = fun q => zI (cZ r r2 sp dp nn q) := by
      funext q
      unfold va_cpy cZ
      split <;> rfl
    rw [e4, wl_set] at hP1 hD1
    exact kk _ rfl H1 locs1 ls hP1 hD1 hS1 hl)
theorem cZ_b {r r2 : Nat → Int} {sp dp nn : Nat} (h : ∀ q, -128 ≤ r q ∧ r q ≤ 127) (h2 : ∀ q, -128 ≤ r2 q ∧ r2 q ≤ 127) : ∀ q, -128 ≤ cZ r r2 sp dp nn q ∧ cZ r r2 sp dp nn q ≤ 127 := fun q => by
  unfold cZ
  split
  · exact h _
  · exact h2 _
theorem SKL_by : ∀ q ∈ SKL, ∀ x ∈ q.2.2.2.2, 0 ≤ x.toInt ∧ x.toInt ≤ 127 := by decide
theorem SKL_g {q : String × Nat × String × Nat × List Int32} (hq : q ∈ SKL) (j : Nat) : 0 ≤ (q.2.2.2.2.getD j 0).toInt ∧ (q.2.2.2.2.getD j 0).toInt ≤ 127 := by
  by_cases h : j < q.2.2.2.2.length
  · have e : q.2.2.2.2.getD j 0 = q.2.2.2.2[j] := by simp [List.getD, h]
    rw [e]
    exact SKL_by q hq _ (List.getElem_mem h)
  · have e : q.2.2.2.2.getD j 0 = 0 := by simp [List.getD, List.getElem?_eq_none (Nat.le_of_not_lt h)]
    rw [e]
    decide
theorem z_copyS (C : zC p s m args c cc nL own D A cs tt) {q : String × Nat × String × Nat × List Int32} (hq : q ∈ SKL) {index j b : Nat} (hlk : Cond.methodLink own index arraycopyName ∈ AW) (hnat : Cond.native arraycopyName ∈ AW) (hstat : Cond.static arraycopyName ∈ AW) (hini : Cond.initialized "java/lang/System" ∈ AW) (hj : j < N) (hb2 : ad j = b) {n1 : Nat} {r2 : Nat → Int} (hgj : g j = bA cs n1 r2) (dp : Nat) {zd zn : Int} (hzd : zd = (dp : Int)) (hzn : zn = (q.2.2.2.2.length : Int)) (h5 : dp + q.2.2.2.2.length ≤ n1) (hd : n1 ≤ 2147483647) (hframes : 1 ≤ R.frames) (hlocals : (rest.map fun v => v.category).sum + (nativeFrameWords "java/lang/System" "arraycopy" 5 + 11) ≤ R.locals) (hdg : decode cc pc = .ok (.invokestatic index, 3))
    (kk : ∀ g' : Nat → va_E, g' = va_up g j (bA cs n1 (cZ (fun k => (q.2.2.2.2.getD k 0).toInt) r2 0 dp q.2.2.2.2.length)) → zV p l e R s m args below meth c Q D A nL N ad g' k n (pc + 3) (lv) (rest)) : zV p l e R s m args below meth c Q D A nL N ad g k n (pc) (lv) (.int (zI zn) :: .int (zI zd) :: .ref b :: .int (zI 0) :: .ref (cs (200 + q.2.2.2.1)) :: rest) := fun H locs ls hP hD hS hl => by
  subst hzd; subst hzn; subst hb2
  have e2 : (zI (dp : Int)).toNatClampNeg = dp := zI_clN (by omega)
  have e3 : (zI (q.2.2.2.2.length : Int)).toNatClampNeg = q.2.2.2.2.length := zI_clN (by omega)
  have e1 : (zI 0).toNatClampNeg = 0 := rfl
  have hneg : ∀ k : Nat, k ≤ 2147483647 → ¬ zI (k : Int) < 0 := fun k hk => by rw [← zI_0, zI_lt (by omega) (by omega)]; omega
  exact vk_copyt C.1 C.2.1 (by rw [C.2.2.1]; exact hl.1.symm) C.2.2.2.1 (C.2.2.2.2.1 _ hlk) (C.2.2.2.2.1 _ hnat) (C.2.2.2.2.1 _ hstat) (C.2.2.2.2.1 _ hini) C.2.2.2.2.2.1 hP hD hS (C.S.1 q hq).2.2.2.2 j 0 (g := fun k => zI (r2 k)) ((wl_at hj).trans (by rw [hgj])) rfl (by decide) (hneg dp (by omega)) (hneg _ (by omega)) (by rw [e1, e3]; omega) (by rw [e2, e3]; exact h5) (fun k hk => by
    have h9 := SKL_g hq ((zI 0).toNatClampNeg + k)
    have h8 := fits_b (x := (q.2.2.2.2.getD ((zI 0).toNatClampNeg + k) 0).toInt) (by omega)
    rw [show zI ((q.2.2.2.2.getD ((zI 0).toNatClampNeg + k) 0).toInt) = q.2.2.2.2.getD ((zI 0).toNatClampNeg + k) 0 from Int32.ofInt_toInt _] at h8
    exact h8) hframes hlocals hdg (fun H1 locs1 hP1 hD1 hS1 => by
    rw [e1, e2, e3] at hP1 hD1
    have e4 : va_cpy (fun k => q.2.2.2.2.getD k 0) (fun k => zI (r2 k)) 0 dp q.2.2.2.2.length = fun k => zI (cZ (fun k => (q.2.2.2.2.getD k 0).toInt) r2 0 dp q.2.2.2.2.length k) := by
      funext k
      unfold va_cpy cZ
      split
      · exact (Int32.ofInt_toInt _).symm
      · rfl
    rw [e4, wl_set] at hP1 hD1
    exact kk _ rfl H1 locs1 ls hP1 hD1 hS1 hl)
end ZBC

theorem shl0 (x : Int) : zI x <<< (zI 0 &&& 31) = zI x := by simp [show zI 0 = (0 : Int32) from rfl]
set_option maxRecDepth 100000 in
set_option maxHeartbeats 4000000 in
theorem c_newLength (l : Launch) (D : va_G) (A : Nat → Prop) (cs : Nat → ClassId) (tt : Nat) (N : Nat) (ad : Nat → Nat) (g : Nat → va_E) (z : Int) (hz : 0 ≤ z ∧ z ≤ 1000) (z1 : Int) (hz1 : 0 ≤ z1 ∧ z1 ≤ 1000) (z2 : Int) (hz2 : 1 ≤ z2 ∧ z2 ≤ 1002) : zM l yJ8_newLength_cabcc cJ8_newLength_cabcc 4 (some .int) ({ frames := 2, cells := 0, slots := 0, locals := 120 } : Room) D A cs tt N ad g [.int (zI (z)), .int (zI (z1)), .int (zI (z2))] (rI0 N ad fun r g' => ((r = z + z1 ∧ z2 ≤ z1) ∨ (r = z + z2 ∧ z1 ≤ z2)) ∧ g = g') := by
  refine z_of (by decide) (Nat.le_of_ble_eq_true rfl) ?_
  intro p e s m below meth c C hr hlk hnm
  refine z_lv (lv' := [(0, .int (zI (z))), (1, .int (zI (z1))), (2, .int (zI (z2)))]) [0, 1, 2] rfl ?_
  refine z_iload_n C 0 dJ8_newLength_cabcc_0 rfl ?_
  refine z_iload_n C 1 dJ8_newLength_cabcc_1 rfl ?_
  refine z_iload_n C 2 dJ8_newLength_cabcc_2 rfl ?_
  refine z_mmax C q_996 q_470 q_20 q_471 (by omega) (by omega) (by decide) (Nat.le_of_ble_eq_true rfl) (by decide) (by decide) dJ8_newLength_cabcc_3 ?_
  obtain ⟨xy1, exy2, hxy3⟩ := mm_max (z1) (z2)
  rw [exy2]
  refine z_iadd C dJ8_newLength_cabcc_6 ?_
  refine z_istore_n (lv' := [(3, .int (zI (z + xy1))), (0, .int (zI (z))), (1, .int (zI (z1))), (2, .int (zI (z2)))]) C dJ8_newLength_cabcc_7 rfl (by decide) rfl ?_
  refine z_iconst (z := 0) C dJ8_newLength_cabcc_8 rfl ?_
  refine z_iload_n C 0 dJ8_newLength_cabcc_9 rfl ?_
  refine z_icmp_ge (tgt := 21) C dJ8_newLength_cabcc_10 (by decide) (by omega) (by omega) (fun h => absurd h (by omega)) (fun _ => ?_)
  refine z_iload_n C 0 dJ8_newLength_cabcc_13 rfl ?_
  refine z_ldc (z := 2147483639) C dJ8_newLength_cabcc_14 q_997 (by decide) ?_
  refine z_icmp_gt (tgt := 21) C dJ8_newLength_cabcc_16 (by decide) (by omega) (by omega) (fun h => absurd h (by omega)) (fun _ => ?_)
  refine z_iload_n C 0 dJ8_newLength_cabcc_19 rfl ?_
  exact z_iret C hr hlk dJ8_newLength_cabcc_20 (by decide) (by decide) ⟨z + xy1, rfl, rfl, rfl, by omega, rfl⟩

set_option maxRecDepth 100000 in
set_option maxHeartbeats 4000000 in
theorem c_newCap (l : Launch) (D : va_G) (A : Nat → Prop) (cs : Nat → ClassId) (tt : Nat) (N : Nat) (ad : Nat → Nat) (g : Nat → va_E) (hN : 952 ≤ N) (b9 : Nat) (hb9 : zAt ad 919 b9) (v cap : Nat) (ml cn : Int) (b : Nat → Int) (hv : v < N) (h9 : g 919 = oC 1 [.ref (ad v), .int (zI 0), .int (zI ml), .int (zI cn)]) (hgv : g v = bA cs cap b) (z : Int) (hz : (cap : Int) < z ∧ z ≤ 81) : zM l yJ5_newCapacity_0f7a4 cJ5_newCapacity_0f7a4 6 (some .int) ({ frames := 3, cells := 0, slots := 0, locals := 180 } : Room) D A cs tt N ad g [.ref b9, .int (zI (z))] (rI0 N ad fun r g' => (z ≤ r ∧ r ≤ 164) ∧ g = g') := by
  have hay1 : zAt ad (v) (ad v) := rfl
  refine z_of (by decide) (Nat.le_of_ble_eq_true rfl) ?_
  intro p e s m below meth c C hr hlk hnm
  refine z_lv (lv' := [(0, .ref b9), (1, .int (zI (z)))]) [0, 1] rfl ?_
  refine z_aload_n C 0 dJ5_newCapacity_0f7a4_0 rfl ?_
  refine z_get (v := .ref (ad v)) C (lt_K hN (rfl : Nat.blt (919) 952 = true)) hb9 h9 rfl inA_J4 0 (by decide) q_335 rfl rfl dJ5_newCapacity_0f7a4_1 ?_
  refine z_alen (z := (cap : Int)) C (by omega) hay1 hgv 0 rfl rfl dJ5_newCapacity_0f7a4_4 ?_
  refine z_istore_n (lv' := [(2, .int (zI ((cap : Int)))), (0, .ref b9), (1, .int (zI (z)))]) C dJ5_newCapacity_0f7a4_5 rfl (by decide) rfl ?_
  refine z_iload_n C 2 dJ5_newCapacity_0f7a4_6 rfl ?_
  refine z_aload_n C 1 dJ5_newCapacity_0f7a4_7 rfl ?_
  refine z_get (v := .int (zI (0))) C (lt_K hN (rfl : Nat.blt (919) 952 = true)) hb9 h9 rfl inA_J4 1 (by decide) q_336 rfl rfl dJ5_newCapacity_0f7a4_8 ?_
  refine z_ishl (z := z) C dJ5_newCapacity_0f7a4_11 (shl0 _) ?_
  refine z_istore_n (lv' := [(3, .int (zI (z))), (2, .int (zI ((cap : Int)))), (0, .ref b9), (1, .int (zI (z)))]) C dJ5_newCapacity_0f7a4_12 rfl (by decide) rfl ?_
  refine z_iload_n C 0 dJ5_newCapacity_0f7a4_13 rfl ?_
  refine z_iload_n C 1 dJ5_newCapacity_0f7a4_14 rfl ?_
  refine z_isub C dJ5_newCapacity_0f7a4_15 ?_
  refine z_istore (lv' := [(4, .int (zI (z - ((cap : Int))))), (3, .int (zI (z))), (2, .int (zI ((cap : Int)))), (0, .ref b9), (1, .int (zI (z)))]) C dJ5_newCapacity_0f7a4_16 (by decide) rfl ?_
  refine z_iload_n C 2 dJ5_newCapacity_0f7a4_18 rfl ?_
  refine z_iload C 0 dJ5_newCapacity_0f7a4_19 rfl ?_
  refine z_iload_n C 2 dJ5_newCapacity_0f7a4_21 rfl ?_
  refine z_iconst (z := 2) C dJ5_newCapacity_0f7a4_22 rfl ?_
  refine z_aload_n C 3 dJ5_newCapacity_0f7a4_23 rfl ?_
  refine z_get (v := .int (zI (0))) C (lt_K hN (rfl : Nat.blt (919) 952 = true)) hb9 h9 rfl inA_J4 1 (by decide) q_336 rfl rfl dJ5_newCapacity_0f7a4_24 ?_
  refine z_ishl (z := 2) C dJ5_newCapacity_0f7a4_27 (shl0 _) ?_
  refine z_iadd C dJ5_newCapacity_0f7a4_28 ?_
  refine z_cS (As := [.int (zI ((cap : Int))), .int (zI (z - ((cap : Int)))), .int (zI (((cap : Int)) + 2))]) (rest := []) C (c_newLength l D A cs tt N ad _ ((cap : Int)) (by omega) (z - ((cap : Int))) (by omega) (((cap : Int)) + 2) (by omega)) ms_yJ8_newLength_cabcc q_993 hd_yJ8_newLength_cabcc (by decide) (Nat.le_of_ble_eq_true rfl) (by decide) dJ5_newCapacity_0f7a4_29 rfl (kI0 fun vy2 gvy2 hvy2 => ?_)
  obtain ⟨hvy2, rfl⟩ := hvy2
  refine z_istore (lv' := [(5, .int (zI (vy2))), (4, .int (zI (z - ((cap : Int))))), (3, .int (zI (z))), (2, .int (zI ((cap : Int)))), (0, .ref b9), (1, .int (zI (z)))]) C dJ5_newCapacity_0f7a4_32 (by decide) rfl ?_
  refine z_iload C 0 dJ5_newCapacity_0f7a4_34 rfl ?_
  refine z_ldc (z := 2147483647) C dJ5_newCapacity_0f7a4_36 q_1001 (by decide) ?_
  refine z_icmp_ne (tgt := 51) C dJ5_newCapacity_0f7a4_38 (by decide) (by omega) (by omega) (fun _ => ?_) (fun h => absurd h (by omega))
  refine z_iload C 0 dJ5_newCapacity_0f7a4_51 rfl ?_
  refine z_aload_n C 4 dJ5_newCapacity_0f7a4_53 rfl ?_
  refine z_get (v := .int (zI (0))) C (lt_K hN (rfl : Nat.blt (919) 952 = true)) hb9 h9 rfl inA_J4 1 (by decide) q_336 rfl rfl dJ5_newCapacity_0f7a4_54 ?_
  refine z_ishr (z := vy2) C dJ5_newCapacity_0f7a4_57 (shr0 _) ?_
  exact z_iret C hr hlk dJ5_newCapacity_0f7a4_58 (by decide) (by decide) ⟨vy2, rfl, rfl, rfl, by omega, rfl⟩

set_option maxRecDepth 100000 in
set_option maxHeartbeats 4000000 in
theorem c_copyOf (l : Launch) (D : va_G) (A : Nat → Prop) (cs : Nat → ClassId) (tt : Nat) (N : Nat) (ad : Nat → Nat) (g : Nat → va_E) (v cap : Nat) (b : Nat → Int) (hv : v < N) (hcap : cap ≤ 1000) (hby : ∀ j, -128 ≤ b j ∧ b j ≤ 127) (hgv : g v = bA cs cap b) (z : Int) (hz : (cap : Int) < z ∧ z ≤ 164) : zM l yJ7_copyOf_9075b cJ7_copyOf_9075b 3 (some (.array .byte)) ({ frames := 2, cells := 1, slots := 164, locals := 120 } : Room) D A cs tt N ad g [.ref (ad v), .int (zI (z))] (rR fun a N' ad' g' => N' = N + 1 ∧ a = ad' N ∧ (∀ j, j < N → ad' j = ad j) ∧ (∀ j, j < N → g' j = g j) ∧ ∃ b' : Nat → Int, (∀ j, -128 ≤ b' j ∧ b' j ≤ 127) ∧ g' N = bA cs z.toNat b') := by
  have hay1 : zAt ad (v) (ad v) := rfl
  refine z_of (by decide) (Nat.le_of_ble_eq_true rfl) ?_
  intro p e s m below meth c C hr hlk hnm
  refine z_lv (lv' := [(0, .ref (ad v)), (1, .int (zI (z)))]) [0, 1] rfl ?_
  refine z_iload_n C 1 dJ7_copyOf_9075b_0 rfl ?_
  refine z_aload_n C 0 dJ7_copyOf_9075b_1 rfl ?_
  refine z_alen (z := (cap : Int)) C (by omega) hay1 hgv 0 rfl rfl dJ7_copyOf_9075b_2 ?_
  refine z_icmp_ne (tgt := 14) C dJ7_copyOf_9075b_3 (by decide) (by omega) (by omega) (fun _ => ?_) (fun h => absurd h (by omega))
  refine z_iload_n C 1 dJ7_copyOf_9075b_14 rfl ?_
  refine z_newB C ((z).toNat) (by omega) q_72 ⟨by show (z).toNat * 1 ≤ _; omega, by omega⟩ (by decide) (by show 0 + (z).toNat ≤ 164; omega) dJ7_copyOf_9075b_15 (fun qy2 ady3 gy4 eay5 egy6 => ?_)
  refine z_widen (k2 := 1) (n2 := 164) (by decide) (by omega) ?_
  have hay7 : zAt ady3 (N) qy2 := up_s eay5
  have hgy8 := up_s egy6
  refine z_astore_n (lv' := [(2, .ref qy2), (0, .ref (ad v)), (1, .int (zI (z)))]) C dJ7_copyOf_9075b_17 rfl (by decide) rfl ?_
  refine z_aload_n C 1 dJ7_copyOf_9075b_18 rfl ?_
  refine z_iconst (z := 0) C dJ7_copyOf_9075b_19 rfl ?_
  refine z_aload_n C 0 dJ7_copyOf_9075b_20 rfl ?_
  refine z_iconst (z := 0) C dJ7_copyOf_9075b_21 rfl ?_
  refine z_aload_n C 1 dJ7_copyOf_9075b_22 rfl ?_
  have hay9 : zAt ady3 (v) (ad v) := up_n eay5 hay1 (by omega)
  have hgy10 := up_n egy6 hgv (by omega)
  refine z_alen (z := (cap : Int)) C (by omega) hay9 hgy10 0 rfl rfl dJ7_copyOf_9075b_23 ?_
  refine z_iload_n C 2 dJ7_copyOf_9075b_24 rfl ?_
  refine z_mmin C q_1010 q_473 q_20 q_474 (by omega) (by omega) (by decide) (Nat.le_of_ble_eq_true rfl) (by decide) (by decide) dJ7_copyOf_9075b_25 ?_
  obtain ⟨xy11, exy12, hxy13⟩ := mm_min ((cap : Int)) (z)
  rw [exy12]
  refine z_copyB C q_1011 q_430 q_429 q_21 (by omega) (lt_o (i := N) (c := 0) (d := 1) rfl) hay9 hay7 hgy10 hgy8 0 0 cap rfl rfl (by omega) (by omega) (by omega) (by omega) (by omega) hby (by decide) (Nat.le_of_ble_eq_true rfl) dJ7_copyOf_9075b_28 (fun gy14 egy15 => ?_)
  have hgy16 := up_s egy15
  refine z_aload_n C 0 dJ7_copyOf_9075b_31 rfl ?_
  exact z_aret C hr (Or.inr ⟨_, rfl⟩) hlk dJ7_copyOf_9075b_32 (by decide) (by decide) ⟨_, rfl, rfl, hay7.symm, fun j j1 => by rw [eay5, va_up_ne _ _ (by omega)], fun j j1 => by rw [egy15, va_up_ne _ _ (by omega)]; rw [egy6, va_up_ne _ _ (by omega)], _, cZ_b hby (fun _ => by decide), hgy16⟩

set_option maxRecDepth 100000 in
set_option maxHeartbeats 4000000 in
theorem c_ensure (l : Launch) (D : va_G) (A : Nat → Prop) (cs : Nat → ClassId) (tt : Nat) (N : Nat) (ad : Nat → Nat) (g : Nat → va_E) (hN : 952 ≤ N) (cn cp : Int) (hB : bldC cs ad g N cn cp) (b9 : Nat) (hb9 : zAt ad 919 b9) (z : Int) (hz : 0 ≤ z ∧ z ≤ 81) : zM l yJ5_ensureCapacityInternal_d00df cJ5_ensureCapacityInternal_d00df 3 none ({ frames := 4, cells := 1, slots := 164, locals := 240 } : Room) D A cs tt N ad g [.ref b9, .int (zI (z))] (rV fun N' ad' g' => GR N ad g N' ad' g' ∧ bldC cs ad' g' N' (cn) (z)) := by
  obtain ⟨v_y1, cap_y1, ml_y1, b_y1, hv_y1, hvN_y1, hcap_y1, hcp_y1, hcn_y1, hml_y1, hby_y1, h9_y1, hgv_y1⟩ := id hB
  have hay2 : zAt ad (v_y1) (ad v_y1) := rfl
  refine z_of (by decide) (Nat.le_of_ble_eq_true rfl) ?_
  intro p e s m below meth c C hr hlk hnm
  refine z_lv (lv' := [(0, .ref b9), (1, .int (zI (z)))]) [0, 1] rfl ?_
  refine z_aload_n C 0 dJ5_ensureCapacityInternal_d00df_0 rfl ?_
  refine z_get (v := .ref (ad v_y1)) C (lt_K hN (rfl : Nat.blt (919) 952 = true)) hb9 h9_y1 rfl inA_J4 0 (by decide) q_335 rfl rfl dJ5_ensureCapacityInternal_d00df_1 ?_
  refine z_alen (z := (cap_y1 : Int)) C (by omega) hay2 hgv_y1 0 rfl rfl dJ5_ensureCapacityInternal_d00df_4 ?_
  refine z_aload_n C 0 dJ5_ensureCapacityInternal_d00df_5 rfl ?_
  refine z_get (v := .int (zI (0))) C (lt_K hN (rfl : Nat.blt (919) 952 = true)) hb9 h9_y1 rfl inA_J4 1 (by decide) q_336 rfl rfl dJ5_ensureCapacityInternal_d00df_6 ?_
  refine z_ishr (z := (cap_y1 : Int)) C dJ5_ensureCapacityInternal_d00df_9 (shr0 _) ?_
  refine z_istore_n (lv' := [(2, .int (zI ((cap_y1 : Int)))), (0, .ref b9), (1, .int (zI (z)))]) C dJ5_ensureCapacityInternal_d00df_10 rfl (by decide) rfl ?_
  refine z_iload_n C 2 dJ5_ensureCapacityInternal_d00df_11 rfl ?_
  refine z_iload_n C 0 dJ5_ensureCapacityInternal_d00df_12 rfl ?_
  refine z_isub C dJ5_ensureCapacityInternal_d00df_13 ?_
  refine z_if_le (tgt := 38) C dJ5_ensureCapacityInternal_d00df_14 (by decide) (by omega) (fun hby3 => ?_) (fun hby3 => ?_)
  · refine z_widen (k2 := 1) (n2 := 164) (by decide) (by decide) ?_
    have hBy4 : bldC cs ad g (N) (cn) (z) := ⟨v_y1, cap_y1, ml_y1, b_y1, by omega, by omega, by omega, by omega, by omega, by omega, hby_y1, h9_y1, hgv_y1⟩
    have hGRy5 : GR N ad g (N) ad g := ⟨by omega, fun j j1 => by rfl, fun j j1 j2 j3 => by rfl⟩
    exact z_vret C hr hlk dJ5_ensureCapacityInternal_d00df_38 (by decide) (by decide) ⟨rfl, hGRy5, hBy4⟩
  · refine z_aload_n C 1 dJ5_ensureCapacityInternal_d00df_17 rfl ?_
    refine z_aload_n C 1 dJ5_ensureCapacityInternal_d00df_18 rfl ?_
    refine z_get (v := .ref (ad v_y1)) C (lt_K hN (rfl : Nat.blt (919) 952 = true)) hb9 h9_y1 rfl inA_J4 0 (by decide) q_335 rfl rfl dJ5_ensureCapacityInternal_d00df_19 ?_
    refine z_aload_n C 1 dJ5_ensureCapacityInternal_d00df_22 rfl ?_
    refine z_iload_n C 2 dJ5_ensureCapacityInternal_d00df_23 rfl ?_
    refine z_cVP (As := [.int (zI (z))]) (rest := [.ref (ad v_y1), .ref b9]) (ci := 1) C (c_newCap l D A cs tt N ad _ (by omega) _ hb9 (v_y1) _ _ _ _ (by omega) h9_y1 hgv_y1 (z) (by omega)) (lt_K hN (rfl : Nat.blt (919) 952 = true)) hb9 h9_y1 rfl q_989 q_2120 n_990 q_991 q_11 q_992 hd_yJ5_newCapacity_0f7a4 (by decide) (Nat.le_of_ble_eq_true rfl) (by decide) dJ5_ensureCapacityInternal_d00df_24 rfl (kI0 fun vy6 gvy6 hvy6 => ?_)
    obtain ⟨hvy6, rfl⟩ := hvy6
    refine z_aload_n C 1 dJ5_ensureCapacityInternal_d00df_27 rfl ?_
    refine z_get (v := .int (zI (0))) C (lt_K hN (rfl : Nat.blt (919) 952 = true)) hb9 h9_y1 rfl inA_J4 1 (by decide) q_336 rfl rfl dJ5_ensureCapacityInternal_d00df_28 ?_
    refine z_ishl (z := vy6) C dJ5_ensureCapacityInternal_d00df_31 (shl0 _) ?_
    refine z_cS (As := [.ref (ad v_y1), .int (zI (vy6))]) (rest := [.ref b9]) C (c_copyOf l D A cs tt N ad _ v_y1 _ _ (by omega) (by omega) hby_y1 hgv_y1 (vy6) (by omega)) ms_yJ7_copyOf_9075b q_1002 hd_yJ7_copyOf_9075b (by decide) (Nat.le_of_ble_eq_true rfl) (by decide) dJ5_ensureCapacityInternal_d00df_32 rfl (kR fun avy7 Nvy7 advy7 gvy7 hvy7 => ?_)
    obtain ⟨hNvy7, havy7, hAvy7, hGvy7, bvy7, hbvy7, hcvy7⟩ := hvy7
    have hatvy7 : zAt advy7 (N) avy7 := havy7.symm
    have hay8 : zAt advy7 (919) (b9) := (hAvy7 (919) (lt_K hN (rfl : Nat.blt (919) 952 = true))).trans hb9
    have hgy9 := (hGvy7 (919) (lt_K hN (rfl : Nat.blt (919) 952 = true))).trans h9_y1
    refine z_put (fs' := [.ref avy7, .int (zI (0)), .int (zI (ml_y1)), .int (zI (cn))]) C (by omega) hay8 hgy9 tyJ4 tyJ4_ok nmJ4 rfl inA_J4 0 (by decide) q_335 rfl rfl rfl rfl (Nat.le_of_ble_eq_true rfl) rfl dJ5_ensureCapacityInternal_d00df_35 (fun gy10 egy11 => ?_)
    have hgy12 := up_s egy11
    have hgy13 := up_n egy11 hcvy7 (by omega)
    have hBy14 : bldC cs advy7 gy10 (Nvy7) (cn) (z) := ⟨N, (vy6).toNat, ml_y1, bvy7, by omega, by omega, by omega, by omega, by omega, by omega, hbvy7, (by rw [show advy7 (N) = avy7 from hatvy7]; exact hgy12), hgy13⟩
    have hGRy15 : GR N ad g (Nvy7) advy7 gy10 := ⟨by omega, fun j j1 => by rw [hAvy7 _ (by omega)], fun j j1 j2 j3 => by rw [egy11, va_up_ne _ _ (by omega)]; rw [hGvy7 _ (by omega)]⟩
    exact z_vret C hr hlk dJ5_ensureCapacityInternal_d00df_38 (by decide) (by decide) ⟨rfl, hGRy15, hBy14⟩

set_option maxRecDepth 100000 in
set_option maxHeartbeats 4000000 in
theorem c_bLatin1 (l : Launch) (D : va_G) (A : Nat → Prop) (cs : Nat → ClassId) (tt : Nat) (N : Nat) (ad : Nat → Nat) (g : Nat → va_E) (hN : 952 ≤ N) (cn cp : Int) (hB : bldC cs ad g N cn cp) (b9 : Nat) (hb9 : zAt ad 919 b9) : zM l yJ5_isLatin1_aae02 cJ5_isLatin1_aae02 1 (some .boolean) ({ frames := 1, cells := 0, slots := 0, locals := 60 } : Room) D A cs tt N ad g [.ref b9] (rI0 N ad fun r g' => r = 1 ∧ g = g') := by
  obtain ⟨v_y1, cap_y1, ml_y1, b_y1, hv_y1, hvN_y1, hcap_y1, hcp_y1, hcn_y1, hml_y1, hby_y1, h9_y1, hgv_y1⟩ := id hB
  have hay2 : zAt ad (v_y1) (ad v_y1) := rfl
  refine z_of (by decide) (Nat.le_of_ble_eq_true rfl) ?_
  intro p e s m below meth c C hr hlk hnm
  refine z_lv (lv' := [(0, .ref b9)]) [0] rfl ?_
  refine z_getZ C q_326 dJ5_isLatin1_aae02_0 ?_
  refine z_if_eq (tgt := 17) C dJ5_isLatin1_aae02_3 (by decide) (by omega) (fun h => absurd h (by omega)) (fun _ => ?_)
  refine z_aload_n C 0 dJ5_isLatin1_aae02_6 rfl ?_
  refine z_get (v := .int (zI (0))) C (lt_K hN (rfl : Nat.blt (919) 952 = true)) hb9 h9_y1 rfl inA_J4 1 (by decide) q_336 rfl rfl dJ5_isLatin1_aae02_7 ?_
  refine z_if_ne (tgt := 17) C dJ5_isLatin1_aae02_10 (by decide) (by omega) (fun h => absurd h (by omega)) (fun _ => ?_)
  refine z_iconst (z := 1) C dJ5_isLatin1_aae02_13 rfl ?_
  refine z_goto (tgt := 18) C dJ5_isLatin1_aae02_14 (by decide) ?_
  exact z_zret C hr hlk dJ5_isLatin1_aae02_18 (by decide) (by decide) (by decide) ⟨1, rfl, rfl, rfl, rfl, rfl⟩

set_option maxRecDepth 100000 in
set_option maxHeartbeats 4000000 in
theorem c_setLen (l : Launch) (D : va_G) (A : Nat → Prop) (cs : Nat → ClassId) (tt : Nat) (N : Nat) (ad : Nat → Nat) (g : Nat → va_E) (hN : 952 ≤ N) (cn cp : Int) (hB : bldC cs ad g N cn cp) (b9 : Nat) (hb9 : zAt ad 919 b9) : zM l yJ5_setLength_d00df cJ5_setLength_d00df 2 none ({ frames := 5, cells := 1, slots := 164, locals := 300 } : Room) D A cs tt N ad g [.ref b9, .int (zI (0))] (rV fun N' ad' g' => GR N ad g N' ad' g' ∧ bldC cs ad' g' N' (0) (0)) := by
  obtain ⟨v_y1, cap_y1, ml_y1, b_y1, hv_y1, hvN_y1, hcap_y1, hcp_y1, hcn_y1, hml_y1, hby_y1, h9_y1, hgv_y1⟩ := id hB
  have hay2 : zAt ad (v_y1) (ad v_y1) := rfl
  refine z_of (by decide) (Nat.le_of_ble_eq_true rfl) ?_
  intro p e s m below meth c C hr hlk hnm
  refine z_lv (lv' := [(0, .ref b9), (1, .int (zI (0)))]) [0, 1] rfl ?_
  refine z_iload_n C 1 dJ5_setLength_d00df_0 rfl ?_
  refine z_if_ge (tgt := 13) C dJ5_setLength_d00df_1 (by decide) (by omega) (fun _ => ?_) (fun h => absurd h (by omega))
  refine z_aload_n C 0 dJ5_setLength_d00df_13 rfl ?_
  refine z_iload_n C 1 dJ5_setLength_d00df_14 rfl ?_
  have hBy3 : bldC cs ad g (N) (cn) ((cap_y1 : Int)) := ⟨v_y1, cap_y1, ml_y1, b_y1, by omega, by omega, by omega, by omega, by omega, by omega, hby_y1, h9_y1, hgv_y1⟩
  refine z_cVP (As := [.int (zI (0))]) (rest := []) (ci := 1) C (c_ensure l D A cs tt N ad _ (by omega) _ _ hBy3 _ hb9 (0) (by omega)) (lt_K hN (rfl : Nat.blt (919) 952 = true)) hb9 h9_y1 rfl q_985 q_2119 n_986 q_987 q_11 q_988 hd_yJ5_ensureCapacityInternal_d00df (by decide) (Nat.le_of_ble_eq_true rfl) (by decide) dJ5_setLength_d00df_15 rfl (kV fun Nvy4 advy4 gvy4 hvy4 => ?_)
  obtain ⟨⟨hNvy4, hAvy4, hGvy4⟩, hBvy4⟩ := hvy4
  obtain ⟨v_y5, cap_y5, ml_y5, b_y5, hv_y5, hvN_y5, hcap_y5, hcp_y5, hcn_y5, hml_y5, hby_y5, h9_y5, hgv_y5⟩ := id hBvy4
  have hay6 : zAt advy4 (v_y5) (advy4 v_y5) := rfl
  refine z_aload_n C 0 dJ5_setLength_d00df_18 rfl ?_
  have hay7 : zAt advy4 (919) (b9) := (hAvy4 (919) (lt_K hN (rfl : Nat.blt (919) 952 = true))).trans hb9
  refine z_get (v := .int (zI (cn))) C (by omega) hay7 h9_y5 rfl inA_J4 3 (by decide) q_339 rfl rfl dJ5_setLength_d00df_19 ?_
  refine z_iload_n C 1 dJ5_setLength_d00df_22 rfl ?_
  refine z_icmp_ge (tgt := 63) C dJ5_setLength_d00df_23 (by decide) (by omega) (by omega) (fun _ => ?_) (fun h => absurd h (by omega))
  refine z_aload_n C 0 dJ5_setLength_d00df_63 rfl ?_
  refine z_get (v := .int (zI (cn))) C (by omega) hay7 h9_y5 rfl inA_J4 3 (by decide) q_339 rfl rfl dJ5_setLength_d00df_64 ?_
  refine z_iload_n C 1 dJ5_setLength_d00df_67 rfl ?_
  refine z_icmp_le (tgt := 76) C dJ5_setLength_d00df_68 (by decide) (by omega) (by omega) (fun hby8 => ?_) (fun hby8 => ?_)
  · refine z_aload_n C 0 dJ5_setLength_d00df_76 rfl ?_
    refine z_iload_n C 1 dJ5_setLength_d00df_77 rfl ?_
    refine z_put (fs' := [.ref (advy4 v_y5), .int (zI (0)), .int (zI (ml_y5)), .int (zI (0))]) C (by omega) hay7 h9_y5 tyJ4 tyJ4_ok nmJ4 rfl inA_J4 3 (by decide) q_339 rfl rfl rfl rfl (Nat.le_of_ble_eq_true rfl) rfl dJ5_setLength_d00df_78 (fun gy9 egy10 => ?_)
    have hgy11 := up_s egy10
    have hgy12 := up_n egy10 hgv_y5 (by omega)
    have hBy13 : bldC cs advy4 gy9 (Nvy4) (0) (0) := ⟨v_y5, cap_y5, ml_y5, b_y5, by omega, by omega, by omega, by omega, by omega, by omega, hby_y5, hgy11, hgy12⟩
    have hGRy14 : GR N ad g (Nvy4) advy4 gy9 := ⟨by omega, fun j j1 => by rw [hAvy4 _ (by omega)], fun j j1 j2 j3 => by rw [egy10, va_up_ne _ _ (by omega)]; rw [hGvy4 _ (by omega) (by omega) (by omega)]⟩
    exact z_vret C hr hlk dJ5_setLength_d00df_81 (by decide) (by decide) ⟨rfl, hGRy14, hBy13⟩
  · refine z_aload_n C 0 dJ5_setLength_d00df_71 rfl ?_
    refine z_iconst (z := 1) C dJ5_setLength_d00df_72 rfl ?_
    refine z_put (fs' := [.ref (advy4 v_y5), .int (zI (0)), .int (zI (1)), .int (zI (cn))]) C (by omega) hay7 h9_y5 tyJ4 tyJ4_ok nmJ4 rfl inA_J4 2 (by decide) q_337 rfl rfl (by decide) rfl (Nat.le_of_ble_eq_true rfl) rfl dJ5_setLength_d00df_73 (fun gy15 egy16 => ?_)
    have hgy17 := up_s egy16
    refine z_aload_n C 0 dJ5_setLength_d00df_76 rfl ?_
    refine z_iload_n C 1 dJ5_setLength_d00df_77 rfl ?_
    refine z_put (fs' := [.ref (advy4 v_y5), .int (zI (0)), .int (zI (1)), .int (zI (0))]) C (by omega) hay7 hgy17 tyJ4 tyJ4_ok nmJ4 rfl inA_J4 3 (by decide) q_339 rfl rfl rfl rfl (Nat.le_of_ble_eq_true rfl) rfl dJ5_setLength_d00df_78 (fun gy18 egy19 => ?_)
    have hgy20 := up_s egy19
    have hgy21 := up_n egy16 hgv_y5 (by omega)
    have hgy22 := up_n egy19 hgy21 (by omega)
    have hBy23 : bldC cs advy4 gy18 (Nvy4) (0) (0) := ⟨v_y5, cap_y5, 1, b_y5, by omega, by omega, by omega, by omega, by omega, by omega, hby_y5, hgy20, hgy22⟩
    have hGRy24 : GR N ad g (Nvy4) advy4 gy18 := ⟨by omega, fun j j1 => by rw [hAvy4 _ (by omega)], fun j j1 j2 j3 => by rw [egy19, va_up_ne _ _ (by omega)]; rw [egy16, va_up_ne _ _ (by omega)]; rw [hGvy4 _ (by omega) (by omega) (by omega)]⟩
    exact z_vret C hr hlk dJ5_setLength_d00df_81 (by decide) (by decide) ⟨rfl, hGRy24, hBy23⟩

set_option maxRecDepth 100000 in
set_option maxHeartbeats 4000000 in
theorem c_canEnc (l : Launch) (D : va_G) (A : Nat → Prop) (cs : Nat → ClassId) (tt : Nat) (N : Nat) (ad : Nat → Nat) (g : Nat → va_E) (z : Int) (hz : 0 ≤ z ∧ z ≤ 127) : zM l yJ1_canEncode_fc78d cJ1_canEncode_fc78d 1 (some .boolean) ({ frames := 1, cells := 0, slots := 0, locals := 60 } : Room) D A cs tt N ad g [.int (zI (z))] (rI0 N ad fun r g' => r = 1 ∧ g = g') := by
  refine z_of (by decide) (Nat.le_of_ble_eq_true rfl) ?_
  intro p e s m below meth c C hr hlk hnm
  refine z_lv (lv' := [(0, .int (zI (z)))]) [0] rfl ?_
  refine z_iload_n C 0 dJ1_canEncode_fc78d_0 rfl ?_
  refine z_sipush (z := 255) C dJ1_canEncode_fc78d_1 (by decide) ?_
  refine z_icmp_gt (tgt := 11) C dJ1_canEncode_fc78d_4 (by decide) (by omega) (by omega) (fun h => absurd h (by omega)) (fun _ => ?_)
  refine z_iconst (z := 1) C dJ1_canEncode_fc78d_7 rfl ?_
  refine z_goto (tgt := 12) C dJ1_canEncode_fc78d_8 (by decide) ?_
  exact z_zret C hr hlk dJ1_canEncode_fc78d_12 (by decide) (by decide) (by decide) ⟨1, rfl, rfl, rfl, rfl, rfl⟩

set_option maxRecDepth 100000 in
set_option maxHeartbeats 4000000 in
theorem c_appC (l : Launch) (D : va_G) (A : Nat → Prop) (cs : Nat → ClassId) (tt : Nat) (N : Nat) (ad : Nat → Nat) (g : Nat → va_E) (hN : 952 ≤ N) (cn cp : Int) (hB : bldC cs ad g N cn cp) (b9 : Nat) (hb9 : zAt ad 919 b9) (z : Int) (hz : 0 ≤ z ∧ z ≤ 127) (hc : cn + 1 ≤ 81) : zM l yJ5_append_3fe6f cJ5_append_3fe6f 2 (some (.object "java/lang/AbstractStringBuilder")) ({ frames := 5, cells := 1, slots := 164, locals := 300 } : Room) D A cs tt N ad g [.ref b9, .int (zI (z))] (rR fun a N' ad' g' => a = b9 ∧ GR N ad g N' ad' g' ∧ ∃ cn' : Int, (cn + 1 ≤ cn' ∧ cn' ≤ cn + 1) ∧ bldC cs ad' g' N' cn' 0) := by
  obtain ⟨v_y1, cap_y1, ml_y1, b_y1, hv_y1, hvN_y1, hcap_y1, hcp_y1, hcn_y1, hml_y1, hby_y1, h9_y1, hgv_y1⟩ := id hB
  have hay2 : zAt ad (v_y1) (ad v_y1) := rfl
  refine z_of (by decide) (Nat.le_of_ble_eq_true rfl) ?_
  intro p e s m below meth c C hr hlk hnm
  refine z_lv (lv' := [(0, .ref b9), (1, .int (zI (z)))]) [0, 1] rfl ?_
  refine z_aload_n C 0 dJ5_append_3fe6f_0 rfl ?_
  refine z_aload_n C 0 dJ5_append_3fe6f_1 rfl ?_
  refine z_get (v := .int (zI (cn))) C (lt_K hN (rfl : Nat.blt (919) 952 = true)) hb9 h9_y1 rfl inA_J4 3 (by decide) q_339 rfl rfl dJ5_append_3fe6f_2 ?_
  refine z_iconst (z := 1) C dJ5_append_3fe6f_5 rfl ?_
  refine z_iadd C dJ5_append_3fe6f_6 ?_
  have hBy3 : bldC cs ad g (N) (cn) ((cap_y1 : Int)) := ⟨v_y1, cap_y1, ml_y1, b_y1, by omega, by omega, by omega, by omega, by omega, by omega, hby_y1, h9_y1, hgv_y1⟩
  refine z_cVP (As := [.int (zI (cn + 1))]) (rest := []) (ci := 1) C (c_ensure l D A cs tt N ad _ (by omega) _ _ hBy3 _ hb9 (cn + 1) (by omega)) (lt_K hN (rfl : Nat.blt (919) 952 = true)) hb9 h9_y1 rfl q_985 q_2119 n_986 q_987 q_11 q_988 hd_yJ5_ensureCapacityInternal_d00df (by decide) (Nat.le_of_ble_eq_true rfl) (by decide) dJ5_append_3fe6f_7 rfl (kV fun Nvy4 advy4 gvy4 hvy4 => ?_)
  obtain ⟨⟨hNvy4, hAvy4, hGvy4⟩, hBvy4⟩ := hvy4
  obtain ⟨v_y5, cap_y5, ml_y5, b_y5, hv_y5, hvN_y5, hcap_y5, hcp_y5, hcn_y5, hml_y5, hby_y5, h9_y5, hgv_y5⟩ := id hBvy4
  have hay6 : zAt advy4 (v_y5) (advy4 v_y5) := rfl
  refine z_aload_n C 0 dJ5_append_3fe6f_10 rfl ?_
  have hBy7 : bldC cs advy4 gvy4 (Nvy4) (cn) ((cap_y5 : Int)) := ⟨v_y5, cap_y5, ml_y5, b_y5, by omega, by omega, by omega, by omega, by omega, by omega, hby_y5, h9_y5, hgv_y5⟩
  have hay8 : zAt advy4 (919) (b9) := (hAvy4 (919) (lt_K hN (rfl : Nat.blt (919) 952 = true))).trans hb9
  refine z_cVU (As := []) (rest := []) (ci := 1) C (c_bLatin1 l D A cs tt Nvy4 advy4 _ (by omega) _ _ hBy7 _ hay8) (by omega) hay8 h9_y5 rfl q_1012 q_1014 q_1015 q_1013 q_11 q_1016 hd_yJ5_isLatin1_aae02 (by decide) (Nat.le_of_ble_eq_true rfl) (by decide) dJ5_append_3fe6f_11 rfl (kI0 fun vy9 gvy9 hvy9 => ?_)
  obtain ⟨rfl, rfl⟩ := hvy9
  refine z_if_eq (tgt := 45) C dJ5_append_3fe6f_14 (by decide) (by omega) (fun h => absurd h (by omega)) (fun _ => ?_)
  refine z_iload_n C 1 dJ5_append_3fe6f_17 rfl ?_
  refine z_cS (As := [.int (zI (z))]) (rest := []) C (c_canEnc l D A cs tt Nvy4 advy4 _ (z) (by omega)) ms_yJ1_canEncode_fc78d q_1189 hd_yJ1_canEncode_fc78d (by decide) (Nat.le_of_ble_eq_true rfl) (by decide) dJ5_append_3fe6f_18 rfl (kI0 fun vy10 gvy10 hvy10 => ?_)
  obtain ⟨rfl, rfl⟩ := hvy10
  refine z_if_eq (tgt := 45) C dJ5_append_3fe6f_21 (by decide) (by omega) (fun h => absurd h (by omega)) (fun _ => ?_)
  refine z_aload_n C 0 dJ5_append_3fe6f_24 rfl ?_
  refine z_get (v := .ref (advy4 v_y5)) C (by omega) hay8 h9_y5 rfl inA_J4 0 (by decide) q_335 rfl rfl dJ5_append_3fe6f_25 ?_
  refine z_aload_n C 0 dJ5_append_3fe6f_28 rfl ?_
  refine z_dup C dJ5_append_3fe6f_29 rfl ?_
  refine z_get (v := .int (zI (cn))) C (by omega) hay8 h9_y5 rfl inA_J4 3 (by decide) q_339 rfl rfl dJ5_append_3fe6f_30 ?_
  refine z_dup_x1 C dJ5_append_3fe6f_33 rfl rfl ?_
  refine z_iconst (z := 1) C dJ5_append_3fe6f_34 rfl ?_
  refine z_iadd C dJ5_append_3fe6f_35 ?_
  refine z_put (fs' := [.ref (advy4 v_y5), .int (zI (0)), .int (zI (ml_y5)), .int (zI (cn + 1))]) C (by omega) hay8 h9_y5 tyJ4 tyJ4_ok nmJ4 rfl inA_J4 3 (by decide) q_339 rfl rfl rfl rfl (Nat.le_of_ble_eq_true rfl) rfl dJ5_append_3fe6f_36 (fun gy11 egy12 => ?_)
  have hgy13 := up_s egy12
  refine z_iload_n C 1 dJ5_append_3fe6f_39 rfl ?_
  obtain ⟨xy14, exy15, hxy16⟩ := b8_of (zI (z))
  refine z_i2b (z := xy14) C dJ5_append_3fe6f_40 exy15 ?_
  have hgy17 := up_n egy12 hgv_y5 (by omega)
  refine z_bast C (by omega) hay6 hgy17 ((cn).toNat) (by omega) (by omega) (by omega) (by omega) dJ5_append_3fe6f_41 (fun gy18 egy19 => ?_)
  have hgy20 := up_s egy19
  refine z_goto (tgt := 75) C dJ5_append_3fe6f_42 (by decide) ?_
  refine z_aload_n C 0 dJ5_append_3fe6f_75 rfl ?_
  have hbz : ∀ j, -128 ≤ (uZ (b_y5) ((cn).toNat) (xy14)) j ∧ (uZ (b_y5) ((cn).toNat) (xy14)) j ≤ 127 := fun j => by unfold uZ; split; omega; exact hby_y5 j
  have hgy21 := up_n egy19 hgy13 (by omega)
  have hBy22 : bldC cs advy4 gy18 (Nvy4) (cn + 1) (0) := ⟨v_y5, cap_y5, ml_y5, uZ (b_y5) ((cn).toNat) (xy14), by omega, by omega, by omega, by omega, by omega, by omega, hbz, hgy21, hgy20⟩
  have hGRy23 : GR N ad g (Nvy4) advy4 gy18 := ⟨by omega, fun j j1 => by rw [hAvy4 _ (by omega)], fun j j1 j2 j3 => by rw [egy19, va_up_ne _ _ (by omega)]; rw [egy12, va_up_ne _ _ (by omega)]; rw [hGvy4 _ (by omega) (by omega) (by omega)]⟩
  exact z_aret C hr (Or.inl ⟨_, rfl⟩) hlk dJ5_append_3fe6f_76 (by decide) (by decide) ⟨_, rfl, rfl, hGRy23, _, by omega, hBy22⟩

set_option maxRecDepth 100000 in
set_option maxHeartbeats 4000000 in
theorem c_appI (l : Launch) (D : va_G) (A : Nat → Prop) (cs : Nat → ClassId) (tt : Nat) (N : Nat) (ad : Nat → Nat) (g : Nat → va_E) (hN : 952 ≤ N) (cn cp : Int) (hB : bldC cs ad g N cn cp) (b9 : Nat) (hb9 : zAt ad 919 b9) (z : Int) (hz : -2147483648 ≤ z ∧ z ≤ 2147483647) (hc : cn + 11 ≤ 81) : zM l yJ5_append_c97b9 cJ5_append_c97b9 4 (some (.object "java/lang/AbstractStringBuilder")) ({ frames := 5, cells := 1, slots := 164, locals := 300 } : Room) D A cs tt N ad g [.ref b9, .int (zI (z))] (rR fun a N' ad' g' => a = b9 ∧ GR N ad g N' ad' g' ∧ ∃ cn' : Int, (cn + 1 ≤ cn' ∧ cn' ≤ cn + 11) ∧ bldC cs ad' g' N' cn' 0) := by
  obtain ⟨v_y1, cap_y1, ml_y1, b_y1, hv_y1, hvN_y1, hcap_y1, hcp_y1, hcn_y1, hml_y1, hby_y1, h9_y1, hgv_y1⟩ := id hB
  have hay2 : zAt ad (v_y1) (ad v_y1) := rfl
  refine z_of (by decide) (Nat.le_of_ble_eq_true rfl) ?_
  intro p e s m below meth c C hr hlk hnm
  refine z_lv (lv' := [(0, .ref b9), (1, .int (zI (z)))]) [0, 1] rfl ?_
  refine z_aload_n C 0 dJ5_append_c97b9_0 rfl ?_
  refine z_get (v := .int (zI (cn))) C (lt_K hN (rfl : Nat.blt (919) 952 = true)) hb9 h9_y1 rfl inA_J4 3 (by decide) q_339 rfl rfl dJ5_append_c97b9_1 ?_
  refine z_istore_n (lv' := [(2, .int (zI (cn))), (0, .ref b9), (1, .int (zI (z)))]) C dJ5_append_c97b9_4 rfl (by decide) rfl ?_
  refine z_iload_n C 0 dJ5_append_c97b9_5 rfl ?_
  refine z_iload_n C 2 dJ5_append_c97b9_6 rfl ?_
  refine z_cS (As := [.int (zI (z))]) (rest := [.int (zI (cn))]) C (c_strSize l D A cs tt N ad _ (z) (by omega)) ms_yJ6_stringSize_0f7a4 q_1098 hd_yJ6_stringSize_0f7a4 (by decide) (Nat.le_of_ble_eq_true rfl) (by decide) dJ5_append_c97b9_7 rfl (kI0 fun vy3 gvy3 hvy3 => ?_)
  obtain ⟨hrvy3, hgvy3, rfl⟩ := hvy3
  refine z_iadd C dJ5_append_c97b9_10 ?_
  refine z_istore_n (lv' := [(3, .int (zI (cn + vy3))), (2, .int (zI (cn))), (0, .ref b9), (1, .int (zI (z)))]) C dJ5_append_c97b9_11 rfl (by decide) rfl ?_
  refine z_aload_n C 2 dJ5_append_c97b9_12 rfl ?_
  refine z_iload_n C 0 dJ5_append_c97b9_13 rfl ?_
  have hBy4 : bldC cs ad g (N) (cn) ((cap_y1 : Int)) := ⟨v_y1, cap_y1, ml_y1, b_y1, by omega, by omega, by omega, by omega, by omega, by omega, hby_y1, h9_y1, hgv_y1⟩
  refine z_cVP (As := [.int (zI (cn + vy3))]) (rest := []) (ci := 1) C (c_ensure l D A cs tt N ad _ (by omega) _ _ hBy4 _ hb9 (cn + vy3) (by omega)) (lt_K hN (rfl : Nat.blt (919) 952 = true)) hb9 h9_y1 rfl q_985 q_2119 n_986 q_987 q_11 q_988 hd_yJ5_ensureCapacityInternal_d00df (by decide) (Nat.le_of_ble_eq_true rfl) (by decide) dJ5_append_c97b9_14 rfl (kV fun Nvy5 advy5 gvy5 hvy5 => ?_)
  obtain ⟨⟨hNvy5, hAvy5, hGvy5⟩, hBvy5⟩ := hvy5
  obtain ⟨v_y6, cap_y6, ml_y6, b_y6, hv_y6, hvN_y6, hcap_y6, hcp_y6, hcn_y6, hml_y6, hby_y6, h9_y6, hgv_y6⟩ := id hBvy5
  have hay7 : zAt advy5 (v_y6) (advy5 v_y6) := rfl
  refine z_aload_n C 2 dJ5_append_c97b9_17 rfl ?_
  have hBy8 : bldC cs advy5 gvy5 (Nvy5) (cn) ((cap_y6 : Int)) := ⟨v_y6, cap_y6, ml_y6, b_y6, by omega, by omega, by omega, by omega, by omega, by omega, hby_y6, h9_y6, hgv_y6⟩
  have hay9 : zAt advy5 (919) (b9) := (hAvy5 (919) (lt_K hN (rfl : Nat.blt (919) 952 = true))).trans hb9
  refine z_cVU (As := []) (rest := []) (ci := 1) C (c_bLatin1 l D A cs tt Nvy5 advy5 _ (by omega) _ _ hBy8 _ hay9) (by omega) hay9 h9_y6 rfl q_1012 q_1014 q_1015 q_1013 q_11 q_1016 hd_yJ5_isLatin1_aae02 (by decide) (Nat.le_of_ble_eq_true rfl) (by decide) dJ5_append_c97b9_18 rfl (kI0 fun vy10 gvy10 hvy10 => ?_)
  obtain ⟨rfl, rfl⟩ := hvy10
  refine z_if_eq (tgt := 37) C dJ5_append_c97b9_21 (by decide) (by omega) (fun h => absurd h (by omega)) (fun _ => ?_)
  refine z_iload_n C 3 dJ5_append_c97b9_24 rfl ?_
  refine z_iload_n C 0 dJ5_append_c97b9_25 rfl ?_
  refine z_aload_n C 2 dJ5_append_c97b9_26 rfl ?_
  refine z_get (v := .ref (advy5 v_y6)) C (by omega) hay9 h9_y6 rfl inA_J4 0 (by decide) q_335 rfl rfl dJ5_append_c97b9_27 ?_
  have hdgy11 : ((0 ≤ z ∧ ((1 ≤ (cn + vy3) ∧ -10 < -(z)) ∨ (2 ≤ (cn + vy3) ∧ -100 < -(z)) ∨ (3 ≤ (cn + vy3) ∧ -1000 < -(z)) ∨ (4 ≤ (cn + vy3) ∧ -10000 < -(z)) ∨ (5 ≤ (cn + vy3) ∧ -100000 < -(z)) ∨ (6 ≤ (cn + vy3) ∧ -1000000 < -(z)) ∨ (7 ≤ (cn + vy3) ∧ -10000000 < -(z)) ∨ (8 ≤ (cn + vy3) ∧ -100000000 < -(z)) ∨ (9 ≤ (cn + vy3) ∧ -1000000000 < -(z)) ∨ (10 ≤ (cn + vy3) ∧ -10000000000 < -(z)))) ∨ (z < 0 ∧ ((1 ≤ (cn + vy3) - 1 ∧ -10 < z) ∨ (2 ≤ (cn + vy3) - 1 ∧ -100 < z) ∨ (3 ≤ (cn + vy3) - 1 ∧ -1000 < z) ∨ (4 ≤ (cn + vy3) - 1 ∧ -10000 < z) ∨ (5 ≤ (cn + vy3) - 1 ∧ -100000 < z) ∨ (6 ≤ (cn + vy3) - 1 ∧ -1000000 < z) ∨ (7 ≤ (cn + vy3) - 1 ∧ -10000000 < z) ∨ (8 ≤ (cn + vy3) - 1 ∧ -100000000 < z) ∨ (9 ≤ (cn + vy3) - 1 ∧ -1000000000 < z) ∨ (10 ≤ (cn + vy3) - 1 ∧ -10000000000 < z)))) := by omega
  refine z_cS (As := [.int (zI (z)), .int (zI (cn + vy3)), .ref (advy5 v_y6)]) (rest := []) C (c_getChars l D A cs tt Nvy5 advy5 _ v_y6 _ (by omega) (by omega) _ hby_y6 hgv_y6 (z) (by omega) (cn + vy3) (by omega) hdgy11) ms_yJ6_getChars_ba4f3 q_1101 hd_yJ6_getChars_ba4f3 (by decide) (Nat.le_of_ble_eq_true rfl) (by decide) dJ5_append_c97b9_30 rfl (kI0 fun vy12 gvy12 hvy12 => ?_)
  obtain ⟨hrvy12, ⟨bvy12, hbbvy12, hcvy12⟩, hfvy12⟩ := hvy12
  refine z_pop C dJ5_append_c97b9_33 rfl ?_
  refine z_goto (tgt := 48) C dJ5_append_c97b9_34 (by decide) ?_
  refine z_aload_n C 2 dJ5_append_c97b9_48 rfl ?_
  refine z_iload_n C 0 dJ5_append_c97b9_49 rfl ?_
  have hgy13 := (hfvy12 (919) (by omega)).trans h9_y6
  refine z_put (fs' := [.ref (advy5 v_y6), .int (zI (0)), .int (zI (ml_y6)), .int (zI (cn + vy3))]) C (by omega) hay9 hgy13 tyJ4 tyJ4_ok nmJ4 rfl inA_J4 3 (by decide) q_339 rfl rfl rfl rfl (Nat.le_of_ble_eq_true rfl) rfl dJ5_append_c97b9_50 (fun gy14 egy15 => ?_)
  have hgy16 := up_s egy15
  refine z_aload_n C 2 dJ5_append_c97b9_53 rfl ?_
  have hgy17 := up_n egy15 hcvy12 (by omega)
  have hBy18 : bldC cs advy5 gy14 (Nvy5) (cn + vy3) (0) := ⟨v_y6, cap_y6, ml_y6, bvy12, by omega, by omega, by omega, by omega, by omega, by omega, hbbvy12, hgy16, hgy17⟩
  have hGRy19 : GR N ad g (Nvy5) advy5 gy14 := ⟨by omega, fun j j1 => by rw [hAvy5 _ (by omega)], fun j j1 j2 j3 => by rw [egy15, va_up_ne _ _ (by omega)]; rw [hfvy12 _ (by omega)]; rw [hGvy5 _ (by omega) (by omega) (by omega)]⟩
  exact z_aret C hr (Or.inl ⟨_, rfl⟩) hlk dJ5_append_c97b9_54 (by decide) (by decide) ⟨_, rfl, rfl, hGRy19, _, by omega, hBy18⟩

set_option maxRecDepth 100000 in
set_option maxHeartbeats 4000000 in
theorem c_infl (l : Launch) (D : va_G) (A : Nat → Prop) (cs : Nat → ClassId) (tt : Nat) (N : Nat) (ad : Nat → Nat) (g : Nat → va_E) (hN : 952 ≤ N) (cn cp : Int) (hB : bldC cs ad g N cn cp) (b9 : Nat) (hb9 : zAt ad 919 b9) (q : String × Nat × String × Nat × List Int32) (hq : q ∈ SKL) : zM l yJ5_inflateIfNeededFor_a7421 cJ5_inflateIfNeededFor_a7421 2 none ({ frames := 2, cells := 0, slots := 0, locals := 120 } : Room) D A cs tt N ad g [.ref b9, .ref (cs (100 + q.2.2.2.1))] (rV0 N ad fun g' => g = g') := by
  obtain ⟨v_y1, cap_y1, ml_y1, b_y1, hv_y1, hvN_y1, hcap_y1, hcp_y1, hcn_y1, hml_y1, hby_y1, h9_y1, hgv_y1⟩ := id hB
  have hay2 : zAt ad (v_y1) (ad v_y1) := rfl
  refine z_of (by decide) (Nat.le_of_ble_eq_true rfl) ?_
  intro p e s m below meth c C hr hlk hnm
  refine z_lv (lv' := [(0, .ref b9), (1, .ref (cs (100 + q.2.2.2.1)))]) [0, 1] rfl ?_
  refine z_getZ C q_326 dJ5_inflateIfNeededFor_a7421_0 ?_
  refine z_if_eq (tgt := 21) C dJ5_inflateIfNeededFor_a7421_3 (by decide) (by omega) (fun h => absurd h (by omega)) (fun _ => ?_)
  refine z_aload_n C 0 dJ5_inflateIfNeededFor_a7421_6 rfl ?_
  refine z_get (v := .int (zI (0))) C (lt_K hN (rfl : Nat.blt (919) 952 = true)) hb9 h9_y1 rfl inA_J4 1 (by decide) q_336 rfl rfl dJ5_inflateIfNeededFor_a7421_7 ?_
  refine z_aload_n C 1 dJ5_inflateIfNeededFor_a7421_10 rfl ?_
  refine z_cVs (As := []) (rest := [.int (zI (0))]) C hq (c_coder l D A cs tt N ad _ q hq) rfl mv_yJ0_coder_7d493 q_1065 hd_yJ0_coder_7d493 (by decide) (Nat.le_of_ble_eq_true rfl) (by decide) dJ5_inflateIfNeededFor_a7421_11 rfl (kI0 fun vy3 gvy3 hvy3 => ?_)
  obtain ⟨rfl, rfl⟩ := hvy3
  refine z_icmp_eq (tgt := 21) C dJ5_inflateIfNeededFor_a7421_14 (by decide) (by omega) (by omega) (fun _ => ?_) (fun h => absurd h (by omega))
  exact z_vret C hr hlk dJ5_inflateIfNeededFor_a7421_21 (by decide) (by decide) ⟨rfl, rfl, rfl, rfl⟩

set_option maxRecDepth 100000 in
set_option maxHeartbeats 4000000 in
theorem c_getBytes (l : Launch) (D : va_G) (A : Nat → Prop) (cs : Nat → ClassId) (tt : Nat) (N : Nat) (ad : Nat → Nat) (g : Nat → va_E) (q : String × Nat × String × Nat × List Int32) (hq : q ∈ SKL) (v cap : Nat) (b : Nat → Int) (hv : v < N) (hcap : cap ≤ 1000) (hby : ∀ j, -128 ≤ b j ∧ b j ≤ 127) (hgv : g v = bA cs cap b) (z : Int) (hz : 0 ≤ z ∧ z + (q.2.2.2.2.length : Int) ≤ (cap : Int)) : zM l yJ0_getBytes_840e7 cJ0_getBytes_840e7 4 none ({ frames := 2, cells := 0, slots := 0, locals := 120 } : Room) D A cs tt N ad g [.ref (cs (100 + q.2.2.2.1)), .ref (ad v), .int (zI (z)), .int (zI (0))] (rV0 N ad fun g' => (∃ b' : Nat → Int, (∀ j, -128 ≤ b' j ∧ b' j ≤ 127) ∧ g' v = bA cs cap b') ∧ ∀ j, j ≠ v → g' j = g j) := by
  have hay1 : zAt ad (v) (ad v) := rfl
  have hqL := SKL_len q hq
  refine z_of (by decide) (Nat.le_of_ble_eq_true rfl) ?_
  intro p e s m below meth c C hr hlk hnm
  refine z_lv (lv' := [(0, .ref (cs (100 + q.2.2.2.1))), (1, .ref (ad v)), (2, .int (zI (z))), (3, .int (zI (0)))]) [0, 1, 2, 3] rfl ?_
  refine z_aload_n C 0 dJ0_getBytes_840e7_0 rfl ?_
  refine z_cVs (As := []) (rest := []) C hq (c_coder l D A cs tt N ad _ q hq) rfl mv_yJ0_coder_7d493 q_762 hd_yJ0_coder_7d493 (by decide) (Nat.le_of_ble_eq_true rfl) (by decide) dJ0_getBytes_840e7_1 rfl (kI0 fun vy2 gvy2 hvy2 => ?_)
  obtain ⟨rfl, rfl⟩ := hvy2
  refine z_iload_n C 3 dJ0_getBytes_840e7_4 rfl ?_
  refine z_icmp_ne (tgt := 28) C dJ0_getBytes_840e7_5 (by decide) (by omega) (by omega) (fun h => absurd h (by omega)) (fun _ => ?_)
  refine z_aload_n C 0 dJ0_getBytes_840e7_8 rfl ?_
  refine z_sval C hq q_1166 dJ0_getBytes_840e7_9 ?_
  refine z_iconst (z := 0) C dJ0_getBytes_840e7_12 rfl ?_
  refine z_aload_n C 1 dJ0_getBytes_840e7_13 rfl ?_
  refine z_iload_n C 2 dJ0_getBytes_840e7_14 rfl ?_
  refine z_iload_n C 3 dJ0_getBytes_840e7_15 rfl ?_
  refine z_ishl (z := z) C dJ0_getBytes_840e7_16 (shl0 _) ?_
  refine z_aload_n C 0 dJ0_getBytes_840e7_17 rfl ?_
  refine z_sval C hq q_1166 dJ0_getBytes_840e7_18 ?_
  refine z_salen C hq dJ0_getBytes_840e7_21 ?_
  refine z_copyS C hq q_1089 q_430 q_429 q_21 (by omega) hay1 hgv (z).toNat (by omega) rfl (by omega) (by omega) (by decide) (Nat.le_of_ble_eq_true rfl) dJ0_getBytes_840e7_22 (fun gy3 egy4 => ?_)
  have hgy5 := up_s egy4
  refine z_goto (tgt := 43) C dJ0_getBytes_840e7_25 (by decide) ?_
  exact z_vret C hr hlk dJ0_getBytes_840e7_43 (by decide) (by decide) ⟨rfl, rfl, rfl, ⟨_, cZ_b (fun k => by have h9 := SKL_g hq k; omega) hby, hgy5⟩, fun j j1 => by rw [egy4, va_up_ne _ _ (by omega)]⟩

set_option maxRecDepth 100000 in
set_option maxHeartbeats 4000000 in
theorem c_putStr (l : Launch) (D : va_G) (A : Nat → Prop) (cs : Nat → ClassId) (tt : Nat) (N : Nat) (ad : Nat → Nat) (g : Nat → va_E) (hN : 952 ≤ N) (cn cp : Int) (hB : bldC cs ad g N cn cp) (b9 : Nat) (hb9 : zAt ad 919 b9) (q : String × Nat × String × Nat × List Int32) (hq : q ∈ SKL) (z : Int) (hz : 0 ≤ z ∧ z + (q.2.2.2.2.length : Int) ≤ cp) : zM l yJ5_putStringAt_47b60 cJ5_putStringAt_47b60 3 none ({ frames := 4, cells := 0, slots := 0, locals := 240 } : Room) D A cs tt N ad g [.ref b9, .int (zI (z)), .ref (cs (100 + q.2.2.2.1))] (rV0 N ad fun g' => bldC cs ad g' N cn cp ∧ ∀ j, j < 952 → j ≠ 919 → j ≠ 920 → g' j = g j) := by
  obtain ⟨v_y1, cap_y1, ml_y1, b_y1, hv_y1, hvN_y1, hcap_y1, hcp_y1, hcn_y1, hml_y1, hby_y1, h9_y1, hgv_y1⟩ := id hB
  have hay2 : zAt ad (v_y1) (ad v_y1) := rfl
  have hqL := SKL_len q hq
  refine z_of (by decide) (Nat.le_of_ble_eq_true rfl) ?_
  intro p e s m below meth c C hr hlk hnm
  refine z_lv (lv' := [(0, .ref b9), (1, .int (zI (z))), (2, .ref (cs (100 + q.2.2.2.1)))]) [0, 1, 2] rfl ?_
  refine z_aload_n C 0 dJ5_putStringAt_47b60_0 rfl ?_
  refine z_aload_n C 2 dJ5_putStringAt_47b60_1 rfl ?_
  have hBy3 : bldC cs ad g (N) (cn) ((cap_y1 : Int)) := ⟨v_y1, cap_y1, ml_y1, b_y1, by omega, by omega, by omega, by omega, by omega, by omega, hby_y1, h9_y1, hgv_y1⟩
  refine z_cVP (As := [.ref (cs (100 + q.2.2.2.1))]) (rest := []) (ci := 1) C (c_infl l D A cs tt N ad _ (by omega) _ _ hBy3 _ hb9 q hq) (lt_K hN (rfl : Nat.blt (919) 952 = true)) hb9 h9_y1 rfl q_1061 q_2124 n_1062 q_1063 q_11 q_1064 hd_yJ5_inflateIfNeededFor_a7421 (by decide) (Nat.le_of_ble_eq_true rfl) (by decide) dJ5_putStringAt_47b60_2 rfl (kV0 fun gvy4 hvy4 => ?_)
  obtain rfl := hvy4
  refine z_aload_n C 2 dJ5_putStringAt_47b60_5 rfl ?_
  refine z_aload_n C 0 dJ5_putStringAt_47b60_6 rfl ?_
  refine z_get (v := .ref (ad v_y1)) C (lt_K hN (rfl : Nat.blt (919) 952 = true)) hb9 h9_y1 rfl inA_J4 0 (by decide) q_335 rfl rfl dJ5_putStringAt_47b60_7 ?_
  refine z_iload_n C 1 dJ5_putStringAt_47b60_10 rfl ?_
  refine z_aload_n C 0 dJ5_putStringAt_47b60_11 rfl ?_
  refine z_get (v := .int (zI (0))) C (lt_K hN (rfl : Nat.blt (919) 952 = true)) hb9 h9_y1 rfl inA_J4 1 (by decide) q_336 rfl rfl dJ5_putStringAt_47b60_12 ?_
  refine z_cVs (As := [.ref (ad v_y1), .int (zI (z)), .int (zI (0))]) (rest := []) C hq (c_getBytes l D A cs tt N ad _ q hq v_y1 _ _ (by omega) (by omega) hby_y1 hgv_y1 (z) (by omega)) rfl mv_yJ0_getBytes_840e7 q_1085 hd_yJ0_getBytes_840e7 (by decide) (Nat.le_of_ble_eq_true rfl) (by decide) dJ5_putStringAt_47b60_15 rfl (kV0 fun gvy5 hvy5 => ?_)
  obtain ⟨⟨bvy5, hbbvy5, hcvy5⟩, hfvy5⟩ := hvy5
  have hgy6 := (hfvy5 (919) (by omega)).trans h9_y1
  have hBy7 : bldC cs ad gvy5 (N) (cn) (cp) := ⟨v_y1, cap_y1, ml_y1, bvy5, by omega, by omega, by omega, by omega, by omega, by omega, hbbvy5, hgy6, hcvy5⟩
  exact z_vret C hr hlk dJ5_putStringAt_47b60_18 (by decide) (by decide) ⟨rfl, rfl, rfl, hBy7, fun j j1 j2 j3 => by rw [hfvy5 _ (by omega)]⟩

set_option maxRecDepth 100000 in
set_option maxHeartbeats 4000000 in
theorem c_appS (l : Launch) (D : va_G) (A : Nat → Prop) (cs : Nat → ClassId) (tt : Nat) (N : Nat) (ad : Nat → Nat) (g : Nat → va_E) (hN : 952 ≤ N) (cn cp : Int) (hB : bldC cs ad g N cn cp) (b9 : Nat) (hb9 : zAt ad 919 b9) (q : String × Nat × String × Nat × List Int32) (hq : q ∈ SKL) (hc : cn + (q.2.2.2.2.length : Int) ≤ 81) : zM l yJ5_append_cf1ce cJ5_append_cf1ce 3 (some (.object "java/lang/AbstractStringBuilder")) ({ frames := 6, cells := 1, slots := 164, locals := 360 } : Room) D A cs tt N ad g [.ref b9, .ref (cs (100 + q.2.2.2.1))] (rR fun a N' ad' g' => a = b9 ∧ GR N ad g N' ad' g' ∧ ∃ cn' : Int, (cn + (q.2.2.2.2.length : Int) ≤ cn' ∧ cn' ≤ cn + (q.2.2.2.2.length : Int)) ∧ bldC cs ad' g' N' cn' 0) := by
  obtain ⟨v_y1, cap_y1, ml_y1, b_y1, hv_y1, hvN_y1, hcap_y1, hcp_y1, hcn_y1, hml_y1, hby_y1, h9_y1, hgv_y1⟩ := id hB
  have hay2 : zAt ad (v_y1) (ad v_y1) := rfl
  have hqL := SKL_len q hq
  refine z_of (by decide) (Nat.le_of_ble_eq_true rfl) ?_
  intro p e s m below meth c C hr hlk hnm
  refine z_lv (lv' := [(0, .ref b9), (1, .ref (cs (100 + q.2.2.2.1)))]) [0, 1] rfl ?_
  refine z_aload_n C 1 dJ5_append_cf1ce_0 rfl ?_
  refine z_ifnn (tgt := 9) C dJ5_append_cf1ce_1 (by decide) ?_
  refine z_aload_n C 1 dJ5_append_cf1ce_9 rfl ?_
  refine z_cVs (As := []) (rest := []) C hq (c_slen l D A cs tt N ad _ q hq) rfl mv_yJ0_length_8abf5 q_1056 hd_yJ0_length_8abf5 (by decide) (Nat.le_of_ble_eq_true rfl) (by decide) dJ5_append_cf1ce_10 rfl (kI0 fun vy3 gvy3 hvy3 => ?_)
  obtain ⟨rfl, rfl⟩ := hvy3
  refine z_istore_n (lv' := [(2, .int (zI ((q.2.2.2.2.length : Int)))), (0, .ref b9), (1, .ref (cs (100 + q.2.2.2.1)))]) C dJ5_append_cf1ce_13 rfl (by decide) rfl ?_
  refine z_aload_n C 1 dJ5_append_cf1ce_14 rfl ?_
  refine z_aload_n C 1 dJ5_append_cf1ce_15 rfl ?_
  refine z_get (v := .int (zI (cn))) C (lt_K hN (rfl : Nat.blt (919) 952 = true)) hb9 h9_y1 rfl inA_J4 3 (by decide) q_339 rfl rfl dJ5_append_cf1ce_16 ?_
  refine z_iload_n C 0 dJ5_append_cf1ce_19 rfl ?_
  refine z_iadd C dJ5_append_cf1ce_20 ?_
  have hBy4 : bldC cs ad g (N) (cn) ((cap_y1 : Int)) := ⟨v_y1, cap_y1, ml_y1, b_y1, by omega, by omega, by omega, by omega, by omega, by omega, hby_y1, h9_y1, hgv_y1⟩
  refine z_cVP (As := [.int (zI (cn + ((q.2.2.2.2.length : Int))))]) (rest := []) (ci := 1) C (c_ensure l D A cs tt N ad _ (by omega) _ _ hBy4 _ hb9 (cn + ((q.2.2.2.2.length : Int))) (by omega)) (lt_K hN (rfl : Nat.blt (919) 952 = true)) hb9 h9_y1 rfl q_985 q_2119 n_986 q_987 q_11 q_988 hd_yJ5_ensureCapacityInternal_d00df (by decide) (Nat.le_of_ble_eq_true rfl) (by decide) dJ5_append_cf1ce_21 rfl (kV fun Nvy5 advy5 gvy5 hvy5 => ?_)
  obtain ⟨⟨hNvy5, hAvy5, hGvy5⟩, hBvy5⟩ := hvy5
  obtain ⟨v_y6, cap_y6, ml_y6, b_y6, hv_y6, hvN_y6, hcap_y6, hcp_y6, hcn_y6, hml_y6, hby_y6, h9_y6, hgv_y6⟩ := id hBvy5
  have hay7 : zAt advy5 (v_y6) (advy5 v_y6) := rfl
  refine z_aload_n C 1 dJ5_append_cf1ce_24 rfl ?_
  refine z_aload_n C 1 dJ5_append_cf1ce_25 rfl ?_
  have hay8 : zAt advy5 (919) (b9) := (hAvy5 (919) (lt_K hN (rfl : Nat.blt (919) 952 = true))).trans hb9
  refine z_get (v := .int (zI (cn))) C (by omega) hay8 h9_y6 rfl inA_J4 3 (by decide) q_339 rfl rfl dJ5_append_cf1ce_26 ?_
  refine z_aload_n C 2 dJ5_append_cf1ce_29 rfl ?_
  have hBy9 : bldC cs advy5 gvy5 (Nvy5) (cn) ((cap_y6 : Int)) := ⟨v_y6, cap_y6, ml_y6, b_y6, by omega, by omega, by omega, by omega, by omega, by omega, hby_y6, h9_y6, hgv_y6⟩
  refine z_cVP (As := [.int (zI (cn)), .ref (cs (100 + q.2.2.2.1))]) (rest := []) (ci := 1) C (c_putStr l D A cs tt Nvy5 advy5 _ (by omega) _ _ hBy9 _ hay8 q hq (cn) (by omega)) (by omega) hay8 h9_y6 rfl q_1057 q_2123 n_1058 q_1059 q_11 q_1060 hd_yJ5_putStringAt_47b60 (by decide) (Nat.le_of_ble_eq_true rfl) (by decide) dJ5_append_cf1ce_30 rfl (kV0 fun gvy10 hvy10 => ?_)
  obtain ⟨hBvy10, hGvy10⟩ := hvy10
  obtain ⟨v_y11, cap_y11, ml_y11, b_y11, hv_y11, hvN_y11, hcap_y11, hcp_y11, hcn_y11, hml_y11, hby_y11, h9_y11, hgv_y11⟩ := id hBvy10
  have hay12 : zAt advy5 (v_y11) (advy5 v_y11) := rfl
  refine z_aload_n C 1 dJ5_append_cf1ce_33 rfl ?_
  refine z_dup C dJ5_append_cf1ce_34 rfl ?_
  refine z_get (v := .int (zI (cn))) C (by omega) hay8 h9_y11 rfl inA_J4 3 (by decide) q_339 rfl rfl dJ5_append_cf1ce_35 ?_
  refine z_iload_n C 0 dJ5_append_cf1ce_38 rfl ?_
  refine z_iadd C dJ5_append_cf1ce_39 ?_
  refine z_put (fs' := [.ref (advy5 v_y11), .int (zI (0)), .int (zI (ml_y11)), .int (zI (cn + ((q.2.2.2.2.length : Int))))]) C (by omega) hay8 h9_y11 tyJ4 tyJ4_ok nmJ4 rfl inA_J4 3 (by decide) q_339 rfl rfl rfl rfl (Nat.le_of_ble_eq_true rfl) rfl dJ5_append_cf1ce_40 (fun gy13 egy14 => ?_)
  have hgy15 := up_s egy14
  refine z_aload_n C 1 dJ5_append_cf1ce_43 rfl ?_
  have hgy16 := up_n egy14 hgv_y11 (by omega)
  have hBy17 : bldC cs advy5 gy13 (Nvy5) (cn + ((q.2.2.2.2.length : Int))) (0) := ⟨v_y11, cap_y11, ml_y11, b_y11, by omega, by omega, by omega, by omega, by omega, by omega, hby_y11, hgy15, hgy16⟩
  have hGRy18 : GR N ad g (Nvy5) advy5 gy13 := ⟨by omega, fun j j1 => by rw [hAvy5 _ (by omega)], fun j j1 j2 j3 => by rw [egy14, va_up_ne _ _ (by omega)]; rw [hGvy10 _ (by omega) (by omega) (by omega)]; rw [hGvy5 _ (by omega) (by omega) (by omega)]⟩
  exact z_aret C hr (Or.inl ⟨_, rfl⟩) hlk dJ5_append_cf1ce_44 (by decide) (by decide) ⟨_, rfl, rfl, hGRy18, _, by omega, hBy17⟩

set_option maxRecDepth 100000 in
set_option maxHeartbeats 4000000 in
theorem c_sbI (l : Launch) (D : va_G) (A : Nat → Prop) (cs : Nat → ClassId) (tt : Nat) (N : Nat) (ad : Nat → Nat) (g : Nat → va_E) (hN : 952 ≤ N) (cn cp : Int) (hB : bldC cs ad g N cn cp) (b9 : Nat) (hb9 : zAt ad 919 b9) (z : Int) (hz : -2147483648 ≤ z ∧ z ≤ 2147483647) (hc : cn + 11 ≤ 81) : zM l yJ4_append_bf812 cJ4_append_bf812 2 (some (.object "java/lang/StringBuilder")) ({ frames := 6, cells := 1, slots := 164, locals := 360 } : Room) D A cs tt N ad g [.ref b9, .int (zI (z))] (rR fun a N' ad' g' => a = b9 ∧ GR N ad g N' ad' g' ∧ ∃ cn' : Int, (cn + 1 ≤ cn' ∧ cn' ≤ cn + 11) ∧ bldC cs ad' g' N' cn' 0) := by
  obtain ⟨v_y1, cap_y1, ml_y1, b_y1, hv_y1, hvN_y1, hcap_y1, hcp_y1, hcn_y1, hml_y1, hby_y1, h9_y1, hgv_y1⟩ := id hB
  have hay2 : zAt ad (v_y1) (ad v_y1) := rfl
  refine z_of (by decide) (Nat.le_of_ble_eq_true rfl) ?_
  intro p e s m below meth c C hr hlk hnm
  refine z_lv (lv' := [(0, .ref b9), (1, .int (zI (z)))]) [0, 1] rfl ?_
  refine z_aload_n C 0 dJ4_append_bf812_0 rfl ?_
  refine z_iload_n C 1 dJ4_append_bf812_1 rfl ?_
  have hBy3 : bldC cs ad g (N) (cn) ((cap_y1 : Int)) := ⟨v_y1, cap_y1, ml_y1, b_y1, by omega, by omega, by omega, by omega, by omega, by omega, hby_y1, h9_y1, hgv_y1⟩
  refine z_cSU (As := [.int (zI (z))]) (rest := []) (ci := 1) C (c_appI l D A cs tt N ad _ (by omega) _ _ hBy3 _ hb9 (z) (by omega) (by omega)) (lt_K hN (rfl : Nat.blt (919) 952 = true)) hb9 h9_y1 rfl q_1095 q_2126 q_348 q_1096 q_11 q_1097 (by decide) hd_yJ5_append_c97b9 (by decide) (Nat.le_of_ble_eq_true rfl) (by decide) dJ4_append_bf812_2 rfl (kR fun avy4 Nvy4 advy4 gvy4 hvy4 => ?_)
  obtain ⟨hxvy4, ⟨hNvy4, hAvy4, hGvy4⟩, cnvy4, hkvy4, hBvy4⟩ := hvy4
  rw [hxvy4]
  obtain ⟨v_y5, cap_y5, ml_y5, b_y5, hv_y5, hvN_y5, hcap_y5, hcp_y5, hcn_y5, hml_y5, hby_y5, h9_y5, hgv_y5⟩ := id hBvy4
  have hay6 : zAt advy4 (v_y5) (advy4 v_y5) := rfl
  refine z_pop C dJ4_append_bf812_5 rfl ?_
  refine z_aload_n C 0 dJ4_append_bf812_6 rfl ?_
  have hBy7 : bldC cs advy4 gvy4 (Nvy4) (cnvy4) (0) := ⟨v_y5, cap_y5, ml_y5, b_y5, by omega, by omega, by omega, by omega, by omega, by omega, hby_y5, h9_y5, hgv_y5⟩
  have hGRy8 : GR N ad g (Nvy4) advy4 gvy4 := ⟨by omega, fun j j1 => by rw [hAvy4 _ (by omega)], fun j j1 j2 j3 => by rw [hGvy4 _ (by omega) (by omega) (by omega)]⟩
  exact z_aret C hr (Or.inl ⟨_, rfl⟩) hlk dJ4_append_bf812_7 (by decide) (by decide) ⟨_, rfl, rfl, hGRy8, _, by omega, hBy7⟩

set_option maxRecDepth 100000 in
set_option maxHeartbeats 4000000 in
theorem c_sbC (l : Launch) (D : va_G) (A : Nat → Prop) (cs : Nat → ClassId) (tt : Nat) (N : Nat) (ad : Nat → Nat) (g : Nat → va_E) (hN : 952 ≤ N) (cn cp : Int) (hB : bldC cs ad g N cn cp) (b9 : Nat) (hb9 : zAt ad 919 b9) (z : Int) (hz : 0 ≤ z ∧ z ≤ 127) (hc : cn + 1 ≤ 81) : zM l yJ4_append_cf468 cJ4_append_cf468 2 (some (.object "java/lang/StringBuilder")) ({ frames := 6, cells := 1, slots := 164, locals := 360 } : Room) D A cs tt N ad g [.ref b9, .int (zI (z))] (rR fun a N' ad' g' => a = b9 ∧ GR N ad g N' ad' g' ∧ ∃ cn' : Int, (cn + 1 ≤ cn' ∧ cn' ≤ cn + 1) ∧ bldC cs ad' g' N' cn' 0) := by
  obtain ⟨v_y1, cap_y1, ml_y1, b_y1, hv_y1, hvN_y1, hcap_y1, hcp_y1, hcn_y1, hml_y1, hby_y1, h9_y1, hgv_y1⟩ := id hB
  have hay2 : zAt ad (v_y1) (ad v_y1) := rfl
  refine z_of (by decide) (Nat.le_of_ble_eq_true rfl) ?_
  intro p e s m below meth c C hr hlk hnm
  refine z_lv (lv' := [(0, .ref b9), (1, .int (zI (z)))]) [0, 1] rfl ?_
  refine z_aload_n C 0 dJ4_append_cf468_0 rfl ?_
  refine z_iload_n C 1 dJ4_append_cf468_1 rfl ?_
  have hBy3 : bldC cs ad g (N) (cn) ((cap_y1 : Int)) := ⟨v_y1, cap_y1, ml_y1, b_y1, by omega, by omega, by omega, by omega, by omega, by omega, hby_y1, h9_y1, hgv_y1⟩
  refine z_cSU (As := [.int (zI (z))]) (rest := []) (ci := 1) C (c_appC l D A cs tt N ad _ (by omega) _ _ hBy3 _ hb9 (z) (by omega) (by omega)) (lt_K hN (rfl : Nat.blt (919) 952 = true)) hb9 h9_y1 rfl q_1186 q_2127 q_348 q_1187 q_11 q_1188 (by decide) hd_yJ5_append_3fe6f (by decide) (Nat.le_of_ble_eq_true rfl) (by decide) dJ4_append_cf468_2 rfl (kR fun avy4 Nvy4 advy4 gvy4 hvy4 => ?_)
  obtain ⟨hxvy4, ⟨hNvy4, hAvy4, hGvy4⟩, cnvy4, hkvy4, hBvy4⟩ := hvy4
  rw [hxvy4]
  obtain ⟨v_y5, cap_y5, ml_y5, b_y5, hv_y5, hvN_y5, hcap_y5, hcp_y5, hcn_y5, hml_y5, hby_y5, h9_y5, hgv_y5⟩ := id hBvy4
  have hay6 : zAt advy4 (v_y5) (advy4 v_y5) := rfl
  refine z_pop C dJ4_append_cf468_5 rfl ?_
  refine z_aload_n C 0 dJ4_append_cf468_6 rfl ?_
  have hBy7 : bldC cs advy4 gvy4 (Nvy4) (cnvy4) (0) := ⟨v_y5, cap_y5, ml_y5, b_y5, by omega, by omega, by omega, by omega, by omega, by omega, hby_y5, h9_y5, hgv_y5⟩
  have hGRy8 : GR N ad g (Nvy4) advy4 gvy4 := ⟨by omega, fun j j1 => by rw [hAvy4 _ (by omega)], fun j j1 j2 j3 => by rw [hGvy4 _ (by omega) (by omega) (by omega)]⟩
  exact z_aret C hr (Or.inl ⟨_, rfl⟩) hlk dJ4_append_cf468_7 (by decide) (by decide) ⟨_, rfl, rfl, hGRy8, _, by omega, hBy7⟩

set_option maxRecDepth 100000 in
set_option maxHeartbeats 4000000 in
theorem c_sbS (l : Launch) (D : va_G) (A : Nat → Prop) (cs : Nat → ClassId) (tt : Nat) (N : Nat) (ad : Nat → Nat) (g : Nat → va_E) (hN : 952 ≤ N) (cn cp : Int) (hB : bldC cs ad g N cn cp) (b9 : Nat) (hb9 : zAt ad 919 b9) (q : String × Nat × String × Nat × List Int32) (hq : q ∈ SKL) (hc : cn + (q.2.2.2.2.length : Int) ≤ 81) : zM l yJ4_append_15ec4 cJ4_append_15ec4 2 (some (.object "java/lang/StringBuilder")) ({ frames := 7, cells := 1, slots := 164, locals := 420 } : Room) D A cs tt N ad g [.ref b9, .ref (cs (100 + q.2.2.2.1))] (rR fun a N' ad' g' => a = b9 ∧ GR N ad g N' ad' g' ∧ ∃ cn' : Int, (cn + (q.2.2.2.2.length : Int) ≤ cn' ∧ cn' ≤ cn + (q.2.2.2.2.length : Int)) ∧ bldC cs ad' g' N' cn' 0) := by
  obtain ⟨v_y1, cap_y1, ml_y1, b_y1, hv_y1, hvN_y1, hcap_y1, hcp_y1, hcn_y1, hml_y1, hby_y1, h9_y1, hgv_y1⟩ := id hB
  have hay2 : zAt ad (v_y1) (ad v_y1) := rfl
  have hqL := SKL_len q hq
  refine z_of (by decide) (Nat.le_of_ble_eq_true rfl) ?_
  intro p e s m below meth c C hr hlk hnm
  refine z_lv (lv' := [(0, .ref b9), (1, .ref (cs (100 + q.2.2.2.1)))]) [0, 1] rfl ?_
  refine z_aload_n C 0 dJ4_append_15ec4_0 rfl ?_
  refine z_aload_n C 1 dJ4_append_15ec4_1 rfl ?_
  have hBy3 : bldC cs ad g (N) (cn) ((cap_y1 : Int)) := ⟨v_y1, cap_y1, ml_y1, b_y1, by omega, by omega, by omega, by omega, by omega, by omega, hby_y1, h9_y1, hgv_y1⟩
  refine z_cSU (As := [.ref (cs (100 + q.2.2.2.1))]) (rest := []) (ci := 1) C (c_appS l D A cs tt N ad _ (by omega) _ _ hBy3 _ hb9 q hq (by omega)) (lt_K hN (rfl : Nat.blt (919) 952 = true)) hb9 h9_y1 rfl q_1034 q_2121 q_348 q_1035 q_11 q_1036 (by decide) hd_yJ5_append_cf1ce (by decide) (Nat.le_of_ble_eq_true rfl) (by decide) dJ4_append_15ec4_2 rfl (kR fun avy4 Nvy4 advy4 gvy4 hvy4 => ?_)
  obtain ⟨hxvy4, ⟨hNvy4, hAvy4, hGvy4⟩, cnvy4, hkvy4, hBvy4⟩ := hvy4
  rw [hxvy4]
  obtain ⟨v_y5, cap_y5, ml_y5, b_y5, hv_y5, hvN_y5, hcap_y5, hcp_y5, hcn_y5, hml_y5, hby_y5, h9_y5, hgv_y5⟩ := id hBvy4
  have hay6 : zAt advy4 (v_y5) (advy4 v_y5) := rfl
  refine z_pop C dJ4_append_15ec4_5 rfl ?_
  refine z_aload_n C 0 dJ4_append_15ec4_6 rfl ?_
  have hBy7 : bldC cs advy4 gvy4 (Nvy4) (cnvy4) (0) := ⟨v_y5, cap_y5, ml_y5, b_y5, by omega, by omega, by omega, by omega, by omega, by omega, hby_y5, h9_y5, hgv_y5⟩
  have hGRy8 : GR N ad g (Nvy4) advy4 gvy4 := ⟨by omega, fun j j1 => by rw [hAvy4 _ (by omega)], fun j j1 j2 j3 => by rw [hGvy4 _ (by omega) (by omega) (by omega)]⟩
  exact z_aret C hr (Or.inl ⟨_, rfl⟩) hlk dJ4_append_15ec4_7 (by decide) (by decide) ⟨_, rfl, rfl, hGRy8, _, by omega, hBy7⟩
end
section
-- 70e.words.lean.txt
-- words of told
theorem q_1137 : (Jvm.Cond.instanceMethod ({ cls := "java/lang/AbstractStringBuilder", name := "length", desc := "()I" } : Jvm.MethodName)) ∈ AW := AW_m5 177 (by decide +kernel) (by decide +kernel)
theorem q_1138 : (Jvm.Cond.sameMethod "java/lang/AbstractStringBuilder" "java/lang/AbstractStringBuilder" "length" "()I") ∈ AW := AW_m5 178 (by decide +kernel) (by decide +kernel)
theorem q_1142 : (Jvm.Cond.methodLink "java/lang/StringBuilder" (343 : Nat) ({ cls := "java/lang/AbstractStringBuilder", name := "length", desc := "()I" } : Jvm.MethodName)) ∈ AW := AW_m5 182 (by decide +kernel) (by decide +kernel)
theorem q_1143 : (Jvm.Cond.code ({ cls := "java/lang/AbstractStringBuilder", name := "length", desc := "()I" } : Jvm.MethodName) prog_14_method_6_code (1 : Nat) (Option.some Jvm.ClassFile.FieldType.int)) ∈ AW := AW_m5 183 (by decide +kernel) (by decide +kernel)
theorem q_1207 : (Jvm.Cond.methodLink "java/lang/StringBuilder" (329 : Nat) ({ cls := "java/lang/AbstractStringBuilder", name := "charAt", desc := "(I)C" } : Jvm.MethodName)) ∈ AW := AW_m6 7 (by decide +kernel) (by decide +kernel)
theorem q_1208 : (Jvm.Cond.instanceMethod ({ cls := "java/lang/AbstractStringBuilder", name := "charAt", desc := "(I)C" } : Jvm.MethodName)) ∈ AW := AW_m6 8 (by decide +kernel) (by decide +kernel)
theorem q_1209 : (Jvm.Cond.code ({ cls := "java/lang/AbstractStringBuilder", name := "charAt", desc := "(I)C" } : Jvm.MethodName) prog_14_method_14_code (5 : Nat) (Option.some Jvm.ClassFile.FieldType.char)) ∈ AW := AW_m6 9 (by decide +kernel) (by decide +kernel)
theorem q_1210 : (Jvm.Cond.methodLink "java/lang/AbstractStringBuilder" (138 : Nat) ({ cls := "java/lang/Math", name := "min", desc := "(II)I" } : Jvm.MethodName)) ∈ AW := AW_m6 10 (by decide +kernel) (by decide +kernel)
theorem q_1211 : (Jvm.Cond.methodLink "java/lang/AbstractStringBuilder" (144 : Nat) ({ cls := "java/lang/String", name := "checkIndex", desc := "(II)V" } : Jvm.MethodName)) ∈ AW := AW_m6 11 (by decide +kernel) (by decide +kernel)
theorem q_2118 : (Jvm.Cond.sameMethod "java/lang/AbstractStringBuilder" "java/lang/AbstractStringBuilder" "setLength" "(I)V") ∈ AW := AW_m9 198 (by decide +kernel) (by decide +kernel)
theorem q_2129 : (Jvm.Cond.sameMethod "java/lang/AbstractStringBuilder" "java/lang/AbstractStringBuilder" "charAt" "(I)C") ∈ AW := AW_m9 209 (by decide +kernel) (by decide +kernel)
theorem q_982 : (Jvm.Cond.methodLink "java/lang/StringBuilder" (333 : Nat) ({ cls := "java/lang/AbstractStringBuilder", name := "setLength", desc := "(I)V" } : Jvm.MethodName)) ∈ AW := AW_m5 22 (by decide +kernel) (by decide +kernel)
theorem q_983 : (Jvm.Cond.instanceMethod ({ cls := "java/lang/AbstractStringBuilder", name := "setLength", desc := "(I)V" } : Jvm.MethodName)) ∈ AW := AW_m5 23 (by decide +kernel) (by decide +kernel)
theorem q_984 : (Jvm.Cond.code ({ cls := "java/lang/AbstractStringBuilder", name := "setLength", desc := "(I)V" } : Jvm.MethodName) prog_14_method_13_code (2 : Nat) (Option.none : Option Jvm.ClassFile.FieldType)) ∈ AW := AW_m5 24 (by decide +kernel) (by decide +kernel)
theorem hd_yJ5_length_8abf5 : yJ5_length_8abf5.cls ≠ "java/lang/invoke/MethodHandle" ∧ yJ5_length_8abf5.cls ≠ "java/lang/invoke/VarHandle" ∧ (parseMethodDescriptor yJ5_length_8abf5.desc).map (fun d => d.parameters.length) = some 0 := by decide +kernel
theorem hd_yJ5_setLength_d00df : yJ5_setLength_d00df.cls ≠ "java/lang/invoke/MethodHandle" ∧ yJ5_setLength_d00df.cls ≠ "java/lang/invoke/VarHandle" ∧ (parseMethodDescriptor yJ5_setLength_d00df.desc).map (fun d => d.parameters.length) = some 1 := by decide +kernel
theorem hd_yJ5_charAt_5068e : yJ5_charAt_5068e.cls ≠ "java/lang/invoke/MethodHandle" ∧ yJ5_charAt_5068e.cls ≠ "java/lang/invoke/VarHandle" ∧ (parseMethodDescriptor yJ5_charAt_5068e.desc).map (fun d => d.parameters.length) = some 1 := by decide +kernel
end
section
-- 70f.dec.lean.txt
-- decode rows of told
theorem dJ5_length_8abf5_0 : decode cJ5_length_8abf5 0 = .ok (.aload_n 0, 1) := by decide +kernel
theorem dJ5_length_8abf5_1 : decode cJ5_length_8abf5 1 = .ok (.getfield 79, 3) := by decide +kernel
theorem dJ5_length_8abf5_4 : decode cJ5_length_8abf5 4 = .ok (.ireturn, 1) := by decide +kernel
theorem dJ4_length_8abf5_0 : decode cJ4_length_8abf5 0 = .ok (.aload_n 0, 1) := by decide +kernel
theorem dJ4_length_8abf5_1 : decode cJ4_length_8abf5 1 = .ok (.invokespecial 343, 3) := by decide +kernel
theorem dJ4_length_8abf5_4 : decode cJ4_length_8abf5 4 = .ok (.ireturn, 1) := by decide +kernel
theorem dJ4_setLength_d00df_0 : decode cJ4_setLength_d00df 0 = .ok (.aload_n 0, 1) := by decide +kernel
theorem dJ4_setLength_d00df_1 : decode cJ4_setLength_d00df 1 = .ok (.iload_n 1, 1) := by decide +kernel
theorem dJ4_setLength_d00df_2 : decode cJ4_setLength_d00df 2 = .ok (.invokespecial 333, 3) := by decide +kernel
theorem dJ4_setLength_d00df_5 : decode cJ4_setLength_d00df 5 = .ok (.return_, 1) := by decide +kernel
theorem dJ5_charAt_5068e_0 : decode cJ5_charAt_5068e 0 = .ok (.aload_n 0, 1) := by decide +kernel
theorem dJ5_charAt_5068e_1 : decode cJ5_charAt_5068e 1 = .ok (.getfield 22, 3) := by decide +kernel
theorem dJ5_charAt_5068e_4 : decode cJ5_charAt_5068e 4 = .ok (.istore_n 2, 1) := by decide +kernel
theorem dJ5_charAt_5068e_5 : decode cJ5_charAt_5068e 5 = .ok (.aload_n 0, 1) := by decide +kernel
theorem dJ5_charAt_5068e_6 : decode cJ5_charAt_5068e 6 = .ok (.getfield 15, 3) := by decide +kernel
theorem dJ5_charAt_5068e_9 : decode cJ5_charAt_5068e 9 = .ok (.astore_n 3, 1) := by decide +kernel
theorem dJ5_charAt_5068e_10 : decode cJ5_charAt_5068e 10 = .ok (.aload_n 0, 1) := by decide +kernel
theorem dJ5_charAt_5068e_11 : decode cJ5_charAt_5068e 11 = .ok (.getfield 79, 3) := by decide +kernel
theorem dJ5_charAt_5068e_14 : decode cJ5_charAt_5068e 14 = .ok (.aload_n 3, 1) := by decide +kernel
theorem dJ5_charAt_5068e_15 : decode cJ5_charAt_5068e 15 = .ok (.arraylength, 1) := by decide +kernel
theorem dJ5_charAt_5068e_16 : decode cJ5_charAt_5068e 16 = .ok (.iload_n 2, 1) := by decide +kernel
theorem dJ5_charAt_5068e_17 : decode cJ5_charAt_5068e 17 = .ok (.ishr, 1) := by decide +kernel
theorem dJ5_charAt_5068e_18 : decode cJ5_charAt_5068e 18 = .ok (.invokestatic 138, 3) := by decide +kernel
theorem dJ5_charAt_5068e_21 : decode cJ5_charAt_5068e 21 = .ok (.istore 4, 2) := by decide +kernel
theorem dJ5_charAt_5068e_23 : decode cJ5_charAt_5068e 23 = .ok (.iload_n 1, 1) := by decide +kernel
theorem dJ5_charAt_5068e_24 : decode cJ5_charAt_5068e 24 = .ok (.iload 4, 2) := by decide +kernel
theorem dJ5_charAt_5068e_26 : decode cJ5_charAt_5068e 26 = .ok (.invokestatic 144, 3) := by decide +kernel
theorem dJ5_charAt_5068e_29 : decode cJ5_charAt_5068e 29 = .ok (.iload_n 2, 1) := by decide +kernel
theorem dJ5_charAt_5068e_30 : decode cJ5_charAt_5068e 30 = .ok (.ifCond .ne 12, 3) := by decide +kernel
theorem dJ5_charAt_5068e_33 : decode cJ5_charAt_5068e 33 = .ok (.aload_n 3, 1) := by decide +kernel
theorem dJ5_charAt_5068e_34 : decode cJ5_charAt_5068e 34 = .ok (.iload_n 1, 1) := by decide +kernel
theorem dJ5_charAt_5068e_35 : decode cJ5_charAt_5068e 35 = .ok (.baload, 1) := by decide +kernel
theorem dJ5_charAt_5068e_36 : decode cJ5_charAt_5068e 36 = .ok (.sipush 255, 3) := by decide +kernel
theorem dJ5_charAt_5068e_39 : decode cJ5_charAt_5068e 39 = .ok (.iand, 1) := by decide +kernel
theorem dJ5_charAt_5068e_40 : decode cJ5_charAt_5068e 40 = .ok (.i2c, 1) := by decide +kernel
theorem dJ5_charAt_5068e_41 : decode cJ5_charAt_5068e 41 = .ok (.ireturn, 1) := by decide +kernel
theorem dJ4_charAt_5068e_0 : decode cJ4_charAt_5068e 0 = .ok (.aload_n 0, 1) := by decide +kernel
theorem dJ4_charAt_5068e_1 : decode cJ4_charAt_5068e 1 = .ok (.iload_n 1, 1) := by decide +kernel
theorem dJ4_charAt_5068e_2 : decode cJ4_charAt_5068e 2 = .ok (.invokespecial 329, 3) := by decide +kernel
theorem dJ4_charAt_5068e_5 : decode cJ4_charAt_5068e 5 = .ok (.ireturn, 1) := by decide +kernel
end
section
-- 70g.told.lean.txt
theorem okRec.grow {cs : Nat → ClassId} {ad ad' : Nat → Nat} {g g' : Nat → va_E} {N N' : Nat} {t fp im nz kz sl ho ua : Int} {st op ai fa mu tb tp : Nat → Int} {cn cp : Int} (hN : 952 ≤ N) (h : okRec cs ad g N t fp im nz kz sl ho ua st op ai fa mu tb tp) (hg : GR N ad g N' ad' g') (hB : bldC cs ad' g' N' cn cp) : okRec cs ad' g' N' t fp im nz kz sl ho ua st op ai fa mu tb tp := by
  obtain ⟨a1, a2, a3, a4, a5, a6, a7, a8, ⟨ac, a9⟩, ⟨kc, a10⟩, a11, a12, a13, a14, a15, a16⟩ := h
  obtain ⟨h1, h2, h3⟩ := hg
  obtain ⟨v, cap, ml, b, b1, b2, b3, b4, b5, b6, b7, b8, b9⟩ := hB
  have hA : ∀ j, j < 919 → ad' j = ad j := fun j hj => h2 j (by omega)
  have hG : ∀ j, j < 919 → g' j = g j := fun j hj => h3 j (by omega) (by omega) (by omega)
  refine ⟨?_, a2, a3, by rw [hG 1 (by omega)]; exact a4, a5.mv (fun j _ _ => hA j (by omega)) (fun j _ _ => hG j (by omega)), a6.mv (fun j _ _ => hA j (by omega)) (fun j _ _ => hG j (by omega)), a7, a8, ⟨ac, a9.mv (fun j _ _ => hA j (by omega)) (fun j _ _ => hG j (by omega))⟩, ⟨kc, a10.mv (fun j _ _ => hA j (by omega)) (fun j _ _ => hG j (by omega))⟩, a11.mv (fun j _ _ => hA j (by omega)) (fun j _ _ => hG j (by omega)), a12.mv2 (fun j _ _ => hA j (by omega)) (fun j _ _ => hG j (by omega)), a13.mv2 (fun j _ _ => hA j (by omega)) (fun j _ _ => hG j (by omega)), a14.mv (fun j _ _ => hA j (by omega)) (fun j _ _ => hG j (by omega)), a15.mv (fun j _ _ => hA j (by omega)) (fun j _ _ => hG j (by omega)), v, cap, ml, cn, b, b1, b2, b3, b5, ⟨b6, b7⟩, b8, b9⟩
  rw [hG 0 (by omega), a1]
  show rcC ad t fp im = rcC ad' t fp im
  unfold rcC
  rw [hA 1 (by omega), hA 2 (by omega), hA 4 (by omega), hA 11 (by omega), hA 447 (by omega), hA 883 (by omega), hA 890 (by omega), hA 900 (by omega), hA 910 (by omega), hA 917 (by omega), h2 919 (by omega)]
theorem okRec.bld {cs : Nat → ClassId} {ad : Nat → Nat} {g : Nat → va_E} {N : Nat} {t fp im nz kz sl ho ua : Int} {st op ai fa mu tb tp : Nat → Int} (h : okRec cs ad g N t fp im nz kz sl ho ua st op ai fa mu tb tp) : ∃ cn : Int, bldC cs ad g N cn 0 := by
  obtain ⟨_, _, _, _, _, _, _, _, _, _, _, _, _, _, _, v, cap, ml, cn, b, b1, b2, b3, b4, ⟨b5, b6⟩, b7, b8⟩ := h
  exact ⟨cn, v, cap, ml, b, b1, b2, b3, by omega, b4, b5, b6, b7, b8⟩

set_option maxRecDepth 100000 in
set_option maxHeartbeats 4000000 in
theorem c_bLen (l : Launch) (D : va_G) (A : Nat → Prop) (cs : Nat → ClassId) (tt : Nat) (N : Nat) (ad : Nat → Nat) (g : Nat → va_E) (hN : 952 ≤ N) (cn cp : Int) (hB : bldC cs ad g N cn cp) (b9 : Nat) (hb9 : zAt ad 919 b9) : zM l yJ5_length_8abf5 cJ5_length_8abf5 1 (some .int) ({ frames := 1, cells := 0, slots := 0, locals := 60 } : Room) D A cs tt N ad g [.ref b9] (rI0 N ad fun r g' => r = cn ∧ g = g') := by
  obtain ⟨v_y1, cap_y1, ml_y1, b_y1, hv_y1, hvN_y1, hcap_y1, hcp_y1, hcn_y1, hml_y1, hby_y1, h9_y1, hgv_y1⟩ := id hB
  have hay2 : zAt ad (v_y1) (ad v_y1) := rfl
  refine z_of (by decide) (Nat.le_of_ble_eq_true rfl) ?_
  intro p e s m below meth c C hr hlk hnm
  refine z_lv (lv' := [(0, .ref b9)]) [0] rfl ?_
  refine z_aload_n C 0 dJ5_length_8abf5_0 rfl ?_
  refine z_get (v := .int (zI (cn))) C (lt_K hN (rfl : Nat.blt (919) 952 = true)) hb9 h9_y1 rfl inA_J4 3 (by decide) q_339 rfl rfl dJ5_length_8abf5_1 ?_
  exact z_iret C hr hlk dJ5_length_8abf5_4 (by decide) (by decide) ⟨_, rfl, rfl, rfl, rfl, rfl⟩

set_option maxRecDepth 100000 in
set_option maxHeartbeats 4000000 in
theorem c_sbLen (l : Launch) (D : va_G) (A : Nat → Prop) (cs : Nat → ClassId) (tt : Nat) (N : Nat) (ad : Nat → Nat) (g : Nat → va_E) (hN : 952 ≤ N) (cn cp : Int) (hB : bldC cs ad g N cn cp) (b9 : Nat) (hb9 : zAt ad 919 b9) : zM l yJ4_length_8abf5 cJ4_length_8abf5 1 (some .int) ({ frames := 2, cells := 0, slots := 0, locals := 120 } : Room) D A cs tt N ad g [.ref b9] (rI0 N ad fun r g' => r = cn ∧ g = g') := by
  obtain ⟨v_y1, cap_y1, ml_y1, b_y1, hv_y1, hvN_y1, hcap_y1, hcp_y1, hcn_y1, hml_y1, hby_y1, h9_y1, hgv_y1⟩ := id hB
  have hay2 : zAt ad (v_y1) (ad v_y1) := rfl
  refine z_of (by decide) (Nat.le_of_ble_eq_true rfl) ?_
  intro p e s m below meth c C hr hlk hnm
  refine z_lv (lv' := [(0, .ref b9)]) [0] rfl ?_
  refine z_aload_n C 0 dJ4_length_8abf5_0 rfl ?_
  have hBy3 : bldC cs ad g (N) (cn) ((cap_y1 : Int)) := ⟨v_y1, cap_y1, ml_y1, b_y1, by omega, by omega, by omega, by omega, by omega, by omega, hby_y1, h9_y1, hgv_y1⟩
  refine z_cSU (As := []) (rest := []) (ci := 1) C (c_bLen l D A cs tt N ad _ (by omega) _ _ hBy3 _ hb9) (lt_K hN (rfl : Nat.blt (919) 952 = true)) hb9 h9_y1 rfl q_1142 q_1138 q_348 q_1137 q_11 q_1143 (by decide) hd_yJ5_length_8abf5 (by decide) (Nat.le_of_ble_eq_true rfl) (by decide) dJ4_length_8abf5_1 rfl (kI0 fun vy4 gvy4 hvy4 => ?_)
  obtain ⟨rfl, rfl⟩ := hvy4
  exact z_iret C hr hlk dJ4_length_8abf5_4 (by decide) (by decide) ⟨_, rfl, rfl, rfl, rfl, rfl⟩

set_option maxRecDepth 100000 in
set_option maxHeartbeats 4000000 in
theorem c_sbSetLen (l : Launch) (D : va_G) (A : Nat → Prop) (cs : Nat → ClassId) (tt : Nat) (N : Nat) (ad : Nat → Nat) (g : Nat → va_E) (hN : 952 ≤ N) (cn cp : Int) (hB : bldC cs ad g N cn cp) (b9 : Nat) (hb9 : zAt ad 919 b9) : zM l yJ4_setLength_d00df cJ4_setLength_d00df 2 none ({ frames := 6, cells := 1, slots := 164, locals := 360 } : Room) D A cs tt N ad g [.ref b9, .int (zI (0))] (rV fun N' ad' g' => GR N ad g N' ad' g' ∧ bldC cs ad' g' N' (0) (0)) := by
  obtain ⟨v_y1, cap_y1, ml_y1, b_y1, hv_y1, hvN_y1, hcap_y1, hcp_y1, hcn_y1, hml_y1, hby_y1, h9_y1, hgv_y1⟩ := id hB
  have hay2 : zAt ad (v_y1) (ad v_y1) := rfl
  refine z_of (by decide) (Nat.le_of_ble_eq_true rfl) ?_
  intro p e s m below meth c C hr hlk hnm
  refine z_lv (lv' := [(0, .ref b9), (1, .int (zI (0)))]) [0, 1] rfl ?_
  refine z_aload_n C 0 dJ4_setLength_d00df_0 rfl ?_
  refine z_iload_n C 1 dJ4_setLength_d00df_1 rfl ?_
  have hBy3 : bldC cs ad g (N) (cn) ((cap_y1 : Int)) := ⟨v_y1, cap_y1, ml_y1, b_y1, by omega, by omega, by omega, by omega, by omega, by omega, hby_y1, h9_y1, hgv_y1⟩
  refine z_cSU (As := [.int (zI (0))]) (rest := []) (ci := 1) C (c_setLen l D A cs tt N ad _ (by omega) _ _ hBy3 _ hb9) (lt_K hN (rfl : Nat.blt (919) 952 = true)) hb9 h9_y1 rfl q_982 q_2118 q_348 q_983 q_11 q_984 (by decide) hd_yJ5_setLength_d00df (by decide) (Nat.le_of_ble_eq_true rfl) (by decide) dJ4_setLength_d00df_2 rfl (kV fun Nvy4 advy4 gvy4 hvy4 => ?_)
  obtain ⟨⟨hNvy4, hAvy4, hGvy4⟩, hBvy4⟩ := hvy4
  obtain ⟨v_y5, cap_y5, ml_y5, b_y5, hv_y5, hvN_y5, hcap_y5, hcp_y5, hcn_y5, hml_y5, hby_y5, h9_y5, hgv_y5⟩ := id hBvy4
  have hay6 : zAt advy4 (v_y5) (advy4 v_y5) := rfl
  have hBy7 : bldC cs advy4 gvy4 (Nvy4) (0) (0) := ⟨v_y5, cap_y5, ml_y5, b_y5, by omega, by omega, by omega, by omega, by omega, by omega, hby_y5, h9_y5, hgv_y5⟩
  have hGRy8 : GR N ad g (Nvy4) advy4 gvy4 := ⟨by omega, fun j j1 => by rw [hAvy4 _ (by omega)], fun j j1 j2 j3 => by rw [hGvy4 _ (by omega) (by omega) (by omega)]⟩
  exact z_vret C hr hlk dJ4_setLength_d00df_5 (by decide) (by decide) ⟨rfl, hGRy8, hBy7⟩

set_option maxRecDepth 100000 in
set_option maxHeartbeats 4000000 in
theorem c_bChar (l : Launch) (D : va_G) (A : Nat → Prop) (cs : Nat → ClassId) (tt : Nat) (N : Nat) (ad : Nat → Nat) (g : Nat → va_E) (hN : 952 ≤ N) (cn cp : Int) (hB : bldC cs ad g N cn cp) (b9 : Nat) (hb9 : zAt ad 919 b9) (z : Int) (hz : 0 ≤ z ∧ z < cn) : zM l yJ5_charAt_5068e cJ5_charAt_5068e 5 (some .char) ({ frames := 3, cells := 0, slots := 0, locals := 180 } : Room) D A cs tt N ad g [.ref b9, .int (zI (z))] (rI0 N ad fun r g' => (0 ≤ r ∧ r ≤ 255) ∧ g = g') := by
  obtain ⟨v_y1, cap_y1, ml_y1, b_y1, hv_y1, hvN_y1, hcap_y1, hcp_y1, hcn_y1, hml_y1, hby_y1, h9_y1, hgv_y1⟩ := id hB
  have hay2 : zAt ad (v_y1) (ad v_y1) := rfl
  refine z_of (by decide) (Nat.le_of_ble_eq_true rfl) ?_
  intro p e s m below meth c C hr hlk hnm
  refine z_lv (lv' := [(0, .ref b9), (1, .int (zI (z)))]) [0, 1] rfl ?_
  refine z_aload_n C 0 dJ5_charAt_5068e_0 rfl ?_
  refine z_get (v := .int (zI (0))) C (lt_K hN (rfl : Nat.blt (919) 952 = true)) hb9 h9_y1 rfl inA_J4 1 (by decide) q_336 rfl rfl dJ5_charAt_5068e_1 ?_
  refine z_istore_n (lv' := [(2, .int (zI (0))), (0, .ref b9), (1, .int (zI (z)))]) C dJ5_charAt_5068e_4 rfl (by decide) rfl ?_
  refine z_aload_n C 1 dJ5_charAt_5068e_5 rfl ?_
  refine z_get (v := .ref (ad v_y1)) C (lt_K hN (rfl : Nat.blt (919) 952 = true)) hb9 h9_y1 rfl inA_J4 0 (by decide) q_335 rfl rfl dJ5_charAt_5068e_6 ?_
  refine z_astore_n (lv' := [(3, .ref (ad v_y1)), (2, .int (zI (0))), (0, .ref b9), (1, .int (zI (z)))]) C dJ5_charAt_5068e_9 rfl (by decide) rfl ?_
  refine z_aload_n C 2 dJ5_charAt_5068e_10 rfl ?_
  refine z_get (v := .int (zI (cn))) C (lt_K hN (rfl : Nat.blt (919) 952 = true)) hb9 h9_y1 rfl inA_J4 3 (by decide) q_339 rfl rfl dJ5_charAt_5068e_11 ?_
  refine z_aload_n C 0 dJ5_charAt_5068e_14 rfl ?_
  refine z_alen (z := (cap_y1 : Int)) C (by omega) hay2 hgv_y1 0 rfl rfl dJ5_charAt_5068e_15 ?_
  refine z_iload_n C 1 dJ5_charAt_5068e_16 rfl ?_
  refine z_ishr (z := (cap_y1 : Int)) C dJ5_charAt_5068e_17 (shr0 _) ?_
  refine z_mmin C q_1210 q_473 q_20 q_474 (by omega) (by omega) (by decide) (Nat.le_of_ble_eq_true rfl) (by decide) (by decide) dJ5_charAt_5068e_18 ?_
  obtain ⟨xy3, exy4, hxy5⟩ := mm_min (cn) ((cap_y1 : Int))
  rw [exy4]
  refine z_istore (lv' := [(4, .int (zI (xy3))), (3, .ref (ad v_y1)), (2, .int (zI (0))), (0, .ref b9), (1, .int (zI (z)))]) C dJ5_charAt_5068e_21 (by decide) rfl ?_
  refine z_iload_n C 4 dJ5_charAt_5068e_23 rfl ?_
  refine z_iload C 0 dJ5_charAt_5068e_24 rfl ?_
  refine z_cS (As := [.int (zI (z)), .int (zI (xy3))]) (rest := []) C (c_ckS l D A cs tt N ad _ (z) (xy3) (by omega)) ms_yJ0_checkIndex_df160 q_1211 hd_yJ0_checkIndex_df160 (by decide) (Nat.le_of_ble_eq_true rfl) (by decide) dJ5_charAt_5068e_26 rfl (kV0 fun gvy6 hvy6 => ?_)
  obtain rfl := hvy6
  refine z_iload_n C 2 dJ5_charAt_5068e_29 rfl ?_
  refine z_if_ne (tgt := 42) C dJ5_charAt_5068e_30 (by decide) (by omega) (fun h => absurd h (by omega)) (fun _ => ?_)
  refine z_aload_n C 1 dJ5_charAt_5068e_33 rfl ?_
  refine z_iload_n C 4 dJ5_charAt_5068e_34 rfl ?_
  refine z_bald C (by omega) hay2 hgv_y1 ((z).toNat) (by omega) (by omega) (by omega) dJ5_charAt_5068e_35 ?_
  refine z_sipush (z := 255) C dJ5_charAt_5068e_36 (by decide) ?_
  obtain ⟨xy7, exy8, hxy9⟩ := zI_and (zI (b_y1 ((z).toNat))) (m := zI 255) 8 (by decide)
  refine z_iand (z := xy7) C dJ5_charAt_5068e_39 exy8 ?_
  refine z_i2c (z := xy7) C dJ5_charAt_5068e_40 (m16 (by omega)) ?_
  exact z_zret C hr hlk dJ5_charAt_5068e_41 (nc16 (by omega)) (by decide) (by decide) ⟨xy7, rfl, rfl, rfl, by omega, rfl⟩

set_option maxRecDepth 100000 in
set_option maxHeartbeats 4000000 in
theorem c_sbChar (l : Launch) (D : va_G) (A : Nat → Prop) (cs : Nat → ClassId) (tt : Nat) (N : Nat) (ad : Nat → Nat) (g : Nat → va_E) (hN : 952 ≤ N) (cn cp : Int) (hB : bldC cs ad g N cn cp) (b9 : Nat) (hb9 : zAt ad 919 b9) (z : Int) (hz : 0 ≤ z ∧ z < cn) : zM l yJ4_charAt_5068e cJ4_charAt_5068e 2 (some .char) ({ frames := 4, cells := 0, slots := 0, locals := 240 } : Room) D A cs tt N ad g [.ref b9, .int (zI (z))] (rI0 N ad fun r g' => (0 ≤ r ∧ r ≤ 255) ∧ g = g') := by
  obtain ⟨v_y1, cap_y1, ml_y1, b_y1, hv_y1, hvN_y1, hcap_y1, hcp_y1, hcn_y1, hml_y1, hby_y1, h9_y1, hgv_y1⟩ := id hB
  have hay2 : zAt ad (v_y1) (ad v_y1) := rfl
  refine z_of (by decide) (Nat.le_of_ble_eq_true rfl) ?_
  intro p e s m below meth c C hr hlk hnm
  refine z_lv (lv' := [(0, .ref b9), (1, .int (zI (z)))]) [0, 1] rfl ?_
  refine z_aload_n C 0 dJ4_charAt_5068e_0 rfl ?_
  refine z_iload_n C 1 dJ4_charAt_5068e_1 rfl ?_
  have hBy3 : bldC cs ad g (N) (cn) ((cap_y1 : Int)) := ⟨v_y1, cap_y1, ml_y1, b_y1, by omega, by omega, by omega, by omega, by omega, by omega, hby_y1, h9_y1, hgv_y1⟩
  refine z_cSU (As := [.int (zI (z))]) (rest := []) (ci := 1) C (c_bChar l D A cs tt N ad _ (by omega) _ _ hBy3 _ hb9 (z) (by omega)) (lt_K hN (rfl : Nat.blt (919) 952 = true)) hb9 h9_y1 rfl q_1207 q_2129 q_348 q_1208 q_11 q_1209 (by decide) hd_yJ5_charAt_5068e (by decide) (Nat.le_of_ble_eq_true rfl) (by decide) dJ4_charAt_5068e_2 rfl (kI0 fun vy4 gvy4 hvy4 => ?_)
  obtain ⟨hvy4, rfl⟩ := hvy4
  exact z_zret C hr hlk dJ4_charAt_5068e_5 (nc16 (by omega)) (by decide) (by decide) ⟨vy4, rfl, rfl, rfl, by omega, rfl⟩
end
section
-- 70h.words.lean.txt
-- words of line
theorem q_1031 : (Jvm.Cond.instanceMethod ({ cls := "java/lang/StringBuilder", name := "append", desc := "(Ljava/lang/String;)Ljava/lang/StringBuilder;" } : Jvm.MethodName)) ∈ AW := AW_m5 71 (by decide +kernel) (by decide +kernel)
theorem q_1032 : (Jvm.Cond.selects "java/lang/StringBuilder" ({ cls := "java/lang/StringBuilder", name := "append", desc := "(Ljava/lang/String;)Ljava/lang/StringBuilder;" } : Jvm.MethodName) ({ cls := "java/lang/StringBuilder", name := "append", desc := "(Ljava/lang/String;)Ljava/lang/StringBuilder;" } : Jvm.MethodName)) ∈ AW := AW_m5 72 (by decide +kernel) (by decide +kernel)
theorem q_1033 : (Jvm.Cond.code ({ cls := "java/lang/StringBuilder", name := "append", desc := "(Ljava/lang/String;)Ljava/lang/StringBuilder;" } : Jvm.MethodName) prog_26_method_7_code (2 : Nat) (Option.some (Jvm.ClassFile.FieldType.object "java/lang/StringBuilder"))) ∈ AW := AW_m5 73 (by decide +kernel) (by decide +kernel)
theorem q_1092 : (Jvm.Cond.instanceMethod ({ cls := "java/lang/StringBuilder", name := "append", desc := "(I)Ljava/lang/StringBuilder;" } : Jvm.MethodName)) ∈ AW := AW_m5 132 (by decide +kernel) (by decide +kernel)
theorem q_1093 : (Jvm.Cond.selects "java/lang/StringBuilder" ({ cls := "java/lang/StringBuilder", name := "append", desc := "(I)Ljava/lang/StringBuilder;" } : Jvm.MethodName) ({ cls := "java/lang/StringBuilder", name := "append", desc := "(I)Ljava/lang/StringBuilder;" } : Jvm.MethodName)) ∈ AW := AW_m5 133 (by decide +kernel) (by decide +kernel)
theorem q_1094 : (Jvm.Cond.code ({ cls := "java/lang/StringBuilder", name := "append", desc := "(I)Ljava/lang/StringBuilder;" } : Jvm.MethodName) prog_26_method_15_code (2 : Nat) (Option.some (Jvm.ClassFile.FieldType.object "java/lang/StringBuilder"))) ∈ AW := AW_m5 134 (by decide +kernel) (by decide +kernel)
theorem q_1181 : (Jvm.Cond.methodLink "SnowRecorder" (473 : Nat) ({ cls := "java/lang/StringBuilder", name := "append", desc := "(I)Ljava/lang/StringBuilder;" } : Jvm.MethodName)) ∈ AW := AW_m5 221 (by decide +kernel) (by decide +kernel)
theorem q_1182 : (Jvm.Cond.methodLink "SnowRecorder" (477 : Nat) ({ cls := "java/lang/StringBuilder", name := "append", desc := "(C)Ljava/lang/StringBuilder;" } : Jvm.MethodName)) ∈ AW := AW_m5 222 (by decide +kernel) (by decide +kernel)
theorem q_1183 : (Jvm.Cond.instanceMethod ({ cls := "java/lang/StringBuilder", name := "append", desc := "(C)Ljava/lang/StringBuilder;" } : Jvm.MethodName)) ∈ AW := AW_m5 223 (by decide +kernel) (by decide +kernel)
theorem q_1184 : (Jvm.Cond.selects "java/lang/StringBuilder" ({ cls := "java/lang/StringBuilder", name := "append", desc := "(C)Ljava/lang/StringBuilder;" } : Jvm.MethodName) ({ cls := "java/lang/StringBuilder", name := "append", desc := "(C)Ljava/lang/StringBuilder;" } : Jvm.MethodName)) ∈ AW := AW_m5 224 (by decide +kernel) (by decide +kernel)
theorem q_1185 : (Jvm.Cond.code ({ cls := "java/lang/StringBuilder", name := "append", desc := "(C)Ljava/lang/StringBuilder;" } : Jvm.MethodName) prog_26_method_14_code (2 : Nat) (Option.some (Jvm.ClassFile.FieldType.object "java/lang/StringBuilder"))) ∈ AW := AW_m5 225 (by decide +kernel) (by decide +kernel)
theorem q_1195 : (Jvm.Cond.methodLink "SnowRecorder" (480 : Nat) ({ cls := "SnowRecorder", name := "kindWord", desc := "(I)Ljava/lang/String;" } : Jvm.MethodName)) ∈ AW := AW_m5 235 (by decide +kernel) (by decide +kernel)
theorem q_1196 : (Jvm.Cond.methodLink "SnowRecorder" (484 : Nat) ({ cls := "java/lang/StringBuilder", name := "append", desc := "(Ljava/lang/String;)Ljava/lang/StringBuilder;" } : Jvm.MethodName)) ∈ AW := AW_m5 236 (by decide +kernel) (by decide +kernel)
theorem q_978 : (Jvm.Cond.methodLink "SnowRecorder" (470 : Nat) ({ cls := "java/lang/StringBuilder", name := "setLength", desc := "(I)V" } : Jvm.MethodName)) ∈ AW := AW_m5 18 (by decide +kernel) (by decide +kernel)
theorem q_979 : (Jvm.Cond.instanceMethod ({ cls := "java/lang/StringBuilder", name := "setLength", desc := "(I)V" } : Jvm.MethodName)) ∈ AW := AW_m5 19 (by decide +kernel) (by decide +kernel)
theorem q_980 : (Jvm.Cond.selects "java/lang/StringBuilder" ({ cls := "java/lang/StringBuilder", name := "setLength", desc := "(I)V" } : Jvm.MethodName) ({ cls := "java/lang/StringBuilder", name := "setLength", desc := "(I)V" } : Jvm.MethodName)) ∈ AW := AW_m5 20 (by decide +kernel) (by decide +kernel)
theorem q_981 : (Jvm.Cond.code ({ cls := "java/lang/StringBuilder", name := "setLength", desc := "(I)V" } : Jvm.MethodName) prog_26_method_89_code (2 : Nat) (Option.none : Option Jvm.ClassFile.FieldType)) ∈ AW := AW_m5 21 (by decide +kernel) (by decide +kernel)
theorem hd_yJ4_setLength_d00df : yJ4_setLength_d00df.cls ≠ "java/lang/invoke/MethodHandle" ∧ yJ4_setLength_d00df.cls ≠ "java/lang/invoke/VarHandle" ∧ (parseMethodDescriptor yJ4_setLength_d00df.desc).map (fun d => d.parameters.length) = some 1 := by decide +kernel
theorem hd_yJ4_append_bf812 : yJ4_append_bf812.cls ≠ "java/lang/invoke/MethodHandle" ∧ yJ4_append_bf812.cls ≠ "java/lang/invoke/VarHandle" ∧ (parseMethodDescriptor yJ4_append_bf812.desc).map (fun d => d.parameters.length) = some 1 := by decide +kernel
theorem hd_yJ4_append_cf468 : yJ4_append_cf468.cls ≠ "java/lang/invoke/MethodHandle" ∧ yJ4_append_cf468.cls ≠ "java/lang/invoke/VarHandle" ∧ (parseMethodDescriptor yJ4_append_cf468.desc).map (fun d => d.parameters.length) = some 1 := by decide +kernel
theorem hd_yJ4_append_15ec4 : yJ4_append_15ec4.cls ≠ "java/lang/invoke/MethodHandle" ∧ yJ4_append_15ec4.cls ≠ "java/lang/invoke/VarHandle" ∧ (parseMethodDescriptor yJ4_append_15ec4.desc).map (fun d => d.parameters.length) = some 1 := by decide +kernel
theorem mv_yJ4_setLength_d00df : zWv yJ4_setLength_d00df cJ4_setLength_d00df 2 none := ⟨q_979, q_980, q_12, q_981⟩
theorem mv_yJ4_append_bf812 : zWv yJ4_append_bf812 cJ4_append_bf812 2 (some (.object "java/lang/StringBuilder")) := ⟨q_1092, q_1093, q_12, q_1094⟩
theorem mv_yJ4_append_cf468 : zWv yJ4_append_cf468 cJ4_append_cf468 2 (some (.object "java/lang/StringBuilder")) := ⟨q_1183, q_1184, q_12, q_1185⟩
theorem mv_yJ4_append_15ec4 : zWv yJ4_append_15ec4 cJ4_append_15ec4 2 (some (.object "java/lang/StringBuilder")) := ⟨q_1031, q_1032, q_12, q_1033⟩
end
section
-- 70i.dec.lean.txt
-- decode rows of line
theorem dX9_writeLine_0 : decode cX9_writeLine 0 = .ok (.aload_n 0, 1) := by decide +kernel
theorem dX9_writeLine_1 : decode cX9_writeLine 1 = .ok (.getfield 78, 3) := by decide +kernel
theorem dX9_writeLine_4 : decode cX9_writeLine 4 = .ok (.iconst 0, 1) := by decide +kernel
theorem dX9_writeLine_5 : decode cX9_writeLine 5 = .ok (.invokevirtual 470, 3) := by decide +kernel
theorem dX9_writeLine_8 : decode cX9_writeLine 8 = .ok (.aload_n 0, 1) := by decide +kernel
theorem dX9_writeLine_9 : decode cX9_writeLine 9 = .ok (.getfield 78, 3) := by decide +kernel
theorem dX9_writeLine_12 : decode cX9_writeLine 12 = .ok (.aload_n 1, 1) := by decide +kernel
theorem dX9_writeLine_13 : decode cX9_writeLine 13 = .ok (.getfield 216, 3) := by decide +kernel
theorem dX9_writeLine_16 : decode cX9_writeLine 16 = .ok (.bipush 72, 2) := by decide +kernel
theorem dX9_writeLine_18 : decode cX9_writeLine 18 = .ok (.iload_n 2, 1) := by decide +kernel
theorem dX9_writeLine_19 : decode cX9_writeLine 19 = .ok (.iadd, 1) := by decide +kernel
theorem dX9_writeLine_20 : decode cX9_writeLine 20 = .ok (.iaload, 1) := by decide +kernel
theorem dX9_writeLine_21 : decode cX9_writeLine 21 = .ok (.invokevirtual 473, 3) := by decide +kernel
theorem dX9_writeLine_24 : decode cX9_writeLine 24 = .ok (.bipush 32, 2) := by decide +kernel
theorem dX9_writeLine_26 : decode cX9_writeLine 26 = .ok (.invokevirtual 477, 3) := by decide +kernel
theorem dX9_writeLine_29 : decode cX9_writeLine 29 = .ok (.pop, 1) := by decide +kernel
theorem dX9_writeLine_30 : decode cX9_writeLine 30 = .ok (.aload_n 0, 1) := by decide +kernel
theorem dX9_writeLine_31 : decode cX9_writeLine 31 = .ok (.getfield 78, 3) := by decide +kernel
theorem dX9_writeLine_34 : decode cX9_writeLine 34 = .ok (.aload_n 1, 1) := by decide +kernel
theorem dX9_writeLine_35 : decode cX9_writeLine 35 = .ok (.getfield 216, 3) := by decide +kernel
theorem dX9_writeLine_38 : decode cX9_writeLine 38 = .ok (.iconst 0, 1) := by decide +kernel
theorem dX9_writeLine_39 : decode cX9_writeLine 39 = .ok (.iload_n 2, 1) := by decide +kernel
theorem dX9_writeLine_40 : decode cX9_writeLine 40 = .ok (.iadd, 1) := by decide +kernel
theorem dX9_writeLine_41 : decode cX9_writeLine 41 = .ok (.iaload, 1) := by decide +kernel
theorem dX9_writeLine_42 : decode cX9_writeLine 42 = .ok (.invokestatic 480, 3) := by decide +kernel
theorem dX9_writeLine_45 : decode cX9_writeLine 45 = .ok (.invokevirtual 484, 3) := by decide +kernel
theorem dX9_writeLine_48 : decode cX9_writeLine 48 = .ok (.pop, 1) := by decide +kernel
theorem dX9_writeLine_49 : decode cX9_writeLine 49 = .ok (.aload_n 0, 1) := by decide +kernel
theorem dX9_writeLine_50 : decode cX9_writeLine 50 = .ok (.getfield 78, 3) := by decide +kernel
theorem dX9_writeLine_53 : decode cX9_writeLine 53 = .ok (.ldc_w 487, 3) := by decide +kernel
theorem dX9_writeLine_56 : decode cX9_writeLine 56 = .ok (.invokevirtual 484, 3) := by decide +kernel
theorem dX9_writeLine_59 : decode cX9_writeLine 59 = .ok (.aload_n 1, 1) := by decide +kernel
theorem dX9_writeLine_60 : decode cX9_writeLine 60 = .ok (.getfield 216, 3) := by decide +kernel
theorem dX9_writeLine_63 : decode cX9_writeLine 63 = .ok (.bipush 12, 2) := by decide +kernel
theorem dX9_writeLine_65 : decode cX9_writeLine 65 = .ok (.iload_n 2, 1) := by decide +kernel
theorem dX9_writeLine_66 : decode cX9_writeLine 66 = .ok (.iadd, 1) := by decide +kernel
theorem dX9_writeLine_67 : decode cX9_writeLine 67 = .ok (.iaload, 1) := by decide +kernel
theorem dX9_writeLine_68 : decode cX9_writeLine 68 = .ok (.invokevirtual 473, 3) := by decide +kernel
theorem dX9_writeLine_71 : decode cX9_writeLine 71 = .ok (.pop, 1) := by decide +kernel
theorem dX9_writeLine_72 : decode cX9_writeLine 72 = .ok (.aload_n 1, 1) := by decide +kernel
theorem dX9_writeLine_73 : decode cX9_writeLine 73 = .ok (.getfield 216, 3) := by decide +kernel
theorem dX9_writeLine_76 : decode cX9_writeLine 76 = .ok (.bipush 24, 2) := by decide +kernel
theorem dX9_writeLine_78 : decode cX9_writeLine 78 = .ok (.iload_n 2, 1) := by decide +kernel
theorem dX9_writeLine_79 : decode cX9_writeLine 79 = .ok (.iadd, 1) := by decide +kernel
theorem dX9_writeLine_80 : decode cX9_writeLine 80 = .ok (.iaload, 1) := by decide +kernel
theorem dX9_writeLine_81 : decode cX9_writeLine 81 = .ok (.ifCond .le 26, 3) := by decide +kernel
theorem dX9_writeLine_107 : decode cX9_writeLine 107 = .ok (.aload_n 0, 1) := by decide +kernel
theorem dX9_writeLine_108 : decode cX9_writeLine 108 = .ok (.getfield 78, 3) := by decide +kernel
theorem dX9_writeLine_111 : decode cX9_writeLine 111 = .ok (.ldc_w 491, 3) := by decide +kernel
theorem dX9_writeLine_114 : decode cX9_writeLine 114 = .ok (.invokevirtual 484, 3) := by decide +kernel
theorem dX9_writeLine_117 : decode cX9_writeLine 117 = .ok (.aload_n 1, 1) := by decide +kernel
theorem dX9_writeLine_118 : decode cX9_writeLine 118 = .ok (.getfield 216, 3) := by decide +kernel
theorem dX9_writeLine_121 : decode cX9_writeLine 121 = .ok (.bipush 36, 2) := by decide +kernel
theorem dX9_writeLine_123 : decode cX9_writeLine 123 = .ok (.iload_n 2, 1) := by decide +kernel
theorem dX9_writeLine_124 : decode cX9_writeLine 124 = .ok (.iadd, 1) := by decide +kernel
theorem dX9_writeLine_125 : decode cX9_writeLine 125 = .ok (.iaload, 1) := by decide +kernel
theorem dX9_writeLine_126 : decode cX9_writeLine 126 = .ok (.invokevirtual 473, 3) := by decide +kernel
theorem dX9_writeLine_129 : decode cX9_writeLine 129 = .ok (.pop, 1) := by decide +kernel
theorem dX9_writeLine_130 : decode cX9_writeLine 130 = .ok (.aload_n 0, 1) := by decide +kernel
theorem dX9_writeLine_131 : decode cX9_writeLine 131 = .ok (.getfield 78, 3) := by decide +kernel
theorem dX9_writeLine_134 : decode cX9_writeLine 134 = .ok (.ldc_w 493, 3) := by decide +kernel
theorem dX9_writeLine_137 : decode cX9_writeLine 137 = .ok (.invokevirtual 484, 3) := by decide +kernel
theorem dX9_writeLine_140 : decode cX9_writeLine 140 = .ok (.aload_n 1, 1) := by decide +kernel
theorem dX9_writeLine_141 : decode cX9_writeLine 141 = .ok (.getfield 216, 3) := by decide +kernel
theorem dX9_writeLine_144 : decode cX9_writeLine 144 = .ok (.bipush 48, 2) := by decide +kernel
theorem dX9_writeLine_146 : decode cX9_writeLine 146 = .ok (.iload_n 2, 1) := by decide +kernel
theorem dX9_writeLine_147 : decode cX9_writeLine 147 = .ok (.iadd, 1) := by decide +kernel
theorem dX9_writeLine_148 : decode cX9_writeLine 148 = .ok (.iaload, 1) := by decide +kernel
theorem dX9_writeLine_149 : decode cX9_writeLine 149 = .ok (.invokevirtual 473, 3) := by decide +kernel
theorem dX9_writeLine_152 : decode cX9_writeLine 152 = .ok (.bipush 59, 2) := by decide +kernel
theorem dX9_writeLine_154 : decode cX9_writeLine 154 = .ok (.invokevirtual 477, 3) := by decide +kernel
theorem dX9_writeLine_157 : decode cX9_writeLine 157 = .ok (.pop, 1) := by decide +kernel
theorem dX9_writeLine_158 : decode cX9_writeLine 158 = .ok (.return_, 1) := by decide +kernel
theorem dX9_writeLine_84 : decode cX9_writeLine 84 = .ok (.aload_n 0, 1) := by decide +kernel
theorem dX9_writeLine_85 : decode cX9_writeLine 85 = .ok (.getfield 78, 3) := by decide +kernel
theorem dX9_writeLine_88 : decode cX9_writeLine 88 = .ok (.ldc_w 489, 3) := by decide +kernel
theorem dX9_writeLine_91 : decode cX9_writeLine 91 = .ok (.invokevirtual 484, 3) := by decide +kernel
theorem dX9_writeLine_94 : decode cX9_writeLine 94 = .ok (.aload_n 1, 1) := by decide +kernel
theorem dX9_writeLine_95 : decode cX9_writeLine 95 = .ok (.getfield 216, 3) := by decide +kernel
theorem dX9_writeLine_98 : decode cX9_writeLine 98 = .ok (.bipush 24, 2) := by decide +kernel
theorem dX9_writeLine_100 : decode cX9_writeLine 100 = .ok (.iload_n 2, 1) := by decide +kernel
theorem dX9_writeLine_101 : decode cX9_writeLine 101 = .ok (.iadd, 1) := by decide +kernel
theorem dX9_writeLine_102 : decode cX9_writeLine 102 = .ok (.iaload, 1) := by decide +kernel
theorem dX9_writeLine_103 : decode cX9_writeLine 103 = .ok (.invokevirtual 473, 3) := by decide +kernel
theorem dX9_writeLine_106 : decode cX9_writeLine 106 = .ok (.pop, 1) := by decide +kernel
end
section
-- 70j.line.lean.txt
set_option maxRecDepth 100000 in
set_option maxHeartbeats 4000000 in
theorem c_writeLine (l : Launch) (D : va_G) (A : Nat → Prop) (cs : Nat → ClassId) (tt : Nat) (N : Nat) (ad : Nat → Nat) (g : Nat → va_E) (hN : 952 ≤ N) (cn cp : Int) (hB : bldC cs ad g N cn cp) (a : Nat) (haN : a + 2 ≤ 919) (ha0 : 0 < a) (sz ro : Int) (r : Nat → Int) (hz : 0 ≤ sz ∧ sz ≤ 12) (ha : isPack cs ad g a sz ro r) (t fp im : Int) (h0 : g 0 = rcC ad t fp im) (z : Int) (hzz : 0 ≤ z ∧ z < sz) : zM l yX9_writeLine cX9_writeLine 3 none ({ frames := 8, cells := 13, slots := 2132, locals := 480 } : Room) D A cs tt N ad g [.ref (ad 0), .ref (ad a), .int (zI (z))] (rV fun N' ad' g' => GR N ad g N' ad' g' ∧ ∃ cn' : Int, bldC cs ad' g' N' cn' 0) := by
  have hay1 : zAt ad (919) (ad 919) := rfl
  obtain ⟨v_y2, cap_y2, ml_y2, b_y2, hv_y2, hvN_y2, hcap_y2, hcp_y2, hcn_y2, hml_y2, hby_y2, h9_y2, hgv_y2⟩ := id hB
  have hay3 : zAt ad (v_y2) (ad v_y2) := rfl
  have hay4 : zAt ad (a) (ad a) := rfl
  have hay5 : zAt ad (a + 1) (ad (a + 1)) := rfl
  have hay6 : zAt ad (0) (ad 0) := rfl
  refine z_of (by decide) (Nat.le_of_ble_eq_true rfl) ?_
  intro p e s m below meth c C hr hlk hnm
  refine z_lv (lv' := [(0, .ref (ad 0)), (1, .ref (ad a)), (2, .int (zI (z)))]) [0, 1, 2] rfl ?_
  refine z_aload_n C 0 dX9_writeLine_0 rfl ?_
  refine z_get (v := .ref (ad 919)) C (lt_K hN (rfl : Nat.blt (0) 952 = true)) hay6 h0 rfl inA_X9 13 (by decide) q_362 rfl rfl dX9_writeLine_1 ?_
  refine z_iconst (z := 0) C dX9_writeLine_4 rfl ?_
  have hBy7 : bldC cs ad g (N) (cn) ((cap_y2 : Int)) := ⟨v_y2, cap_y2, ml_y2, b_y2, by omega, by omega, by omega, by omega, by omega, by omega, hby_y2, h9_y2, hgv_y2⟩
  refine z_cV (As := [.int (zI (0))]) (rest := []) (ci := 1) C (c_sbSetLen l D A cs tt N ad _ (by omega) _ _ hBy7 _ hay1) (lt_K hN (rfl : Nat.blt (919) 952 = true)) hay1 h9_y2 rfl rfl mv_yJ4_setLength_d00df q_978 hd_yJ4_setLength_d00df (by decide) (Nat.le_of_ble_eq_true rfl) (by decide) dX9_writeLine_5 rfl (kV fun Nvy8 advy8 gvy8 hvy8 => ?_)
  obtain ⟨⟨hNvy8, hAvy8, hGvy8⟩, hBvy8⟩ := hvy8
  obtain ⟨v_y9, cap_y9, ml_y9, b_y9, hv_y9, hvN_y9, hcap_y9, hcp_y9, hcn_y9, hml_y9, hby_y9, h9_y9, hgv_y9⟩ := id hBvy8
  have hay10 : zAt advy8 (v_y9) (advy8 v_y9) := rfl
  refine z_aload_n C 0 dX9_writeLine_8 rfl ?_
  have hay11 : zAt advy8 (0) (ad 0) := (hAvy8 (0) (lt_K hN (rfl : Nat.blt (0) 952 = true))).trans hay6
  have hgy12 := (hGvy8 (0) (by omega) (by decide) (by decide)).trans h0
  refine z_get (v := .ref (ad 919)) C (by omega) hay11 hgy12 rfl inA_X9 13 (by decide) q_362 rfl rfl dX9_writeLine_9 ?_
  refine z_aload_n C 1 dX9_writeLine_12 rfl ?_
  have hay13 : zAt advy8 (a) (ad a) := (hAvy8 (a) (by omega)).trans hay4
  have hgy14 := (hGvy8 (a) (by omega) (by omega) (by omega)).trans ha.1
  refine z_get (v := .ref (ad (a + 1))) C (by omega) hay13 hgy14 rfl inA_X3 2 (by decide) q_164 rfl rfl dX9_writeLine_13 ?_
  refine z_bipush (z := 72) C dX9_writeLine_16 (by decide) ?_
  refine z_iload_n C 2 dX9_writeLine_18 rfl ?_
  refine z_iadd C dX9_writeLine_19 ?_
  have hay15 : zAt advy8 (a + 1) (ad (a + 1)) := (hAvy8 (a + 1) (by omega)).trans hay5
  have hgy16 := (hGvy8 (a + 1) (by omega) (by omega) (by omega)).trans ha.2
  refine z_iald C (by omega) hay15 hgy16 ((72 + z).toNat) (by omega) (by omega) (by decide) dX9_writeLine_20 ?_
  obtain ⟨xy17, exy18, hxy19⟩ := zI_of (zI (r ((72 + z).toNat)))
  rw [exy18]
  have hBy20 : bldC cs advy8 gvy8 (Nvy8) (0) ((cap_y9 : Int)) := ⟨v_y9, cap_y9, ml_y9, b_y9, by omega, by omega, by omega, by omega, by omega, by omega, hby_y9, h9_y9, hgv_y9⟩
  have hay21 : zAt advy8 (919) (ad 919) := (hAvy8 (919) (lt_K hN (rfl : Nat.blt (919) 952 = true))).trans hay1
  refine z_cV (As := [.int (zI (xy17))]) (rest := []) (ci := 1) C (c_sbI l D A cs tt Nvy8 advy8 _ (by omega) _ _ hBy20 _ hay21 (xy17) (by omega) (by omega)) (by omega) hay21 h9_y9 rfl rfl mv_yJ4_append_bf812 q_1181 hd_yJ4_append_bf812 (by decide) (Nat.le_of_ble_eq_true rfl) (by decide) dX9_writeLine_21 rfl (kR fun avy22 Nvy22 advy22 gvy22 hvy22 => ?_)
  obtain ⟨hxvy22, ⟨hNvy22, hAvy22, hGvy22⟩, cnvy22, hkvy22, hBvy22⟩ := hvy22
  rw [hxvy22]
  obtain ⟨v_y23, cap_y23, ml_y23, b_y23, hv_y23, hvN_y23, hcap_y23, hcp_y23, hcn_y23, hml_y23, hby_y23, h9_y23, hgv_y23⟩ := id hBvy22
  have hay24 : zAt advy22 (v_y23) (advy22 v_y23) := rfl
  refine z_bipush (z := 32) C dX9_writeLine_24 (by decide) ?_
  have hBy25 : bldC cs advy22 gvy22 (Nvy22) (cnvy22) ((cap_y23 : Int)) := ⟨v_y23, cap_y23, ml_y23, b_y23, by omega, by omega, by omega, by omega, by omega, by omega, hby_y23, h9_y23, hgv_y23⟩
  have hay26 : zAt advy22 (919) (ad 919) := (hAvy22 (919) (by omega)).trans hay21
  refine z_cV (As := [.int (zI (32))]) (rest := []) (ci := 1) C (c_sbC l D A cs tt Nvy22 advy22 _ (by omega) _ _ hBy25 _ hay26 (32) (by omega) (by omega)) (by omega) hay26 h9_y23 rfl rfl mv_yJ4_append_cf468 q_1182 hd_yJ4_append_cf468 (by decide) (Nat.le_of_ble_eq_true rfl) (by decide) dX9_writeLine_26 rfl (kR fun avy27 Nvy27 advy27 gvy27 hvy27 => ?_)
  obtain ⟨hxvy27, ⟨hNvy27, hAvy27, hGvy27⟩, cnvy27, hkvy27, hBvy27⟩ := hvy27
  rw [hxvy27]
  obtain ⟨v_y28, cap_y28, ml_y28, b_y28, hv_y28, hvN_y28, hcap_y28, hcp_y28, hcn_y28, hml_y28, hby_y28, h9_y28, hgv_y28⟩ := id hBvy27
  have hay29 : zAt advy27 (v_y28) (advy27 v_y28) := rfl
  refine z_pop C dX9_writeLine_29 rfl ?_
  refine z_aload_n C 0 dX9_writeLine_30 rfl ?_
  have hay30 : zAt advy22 (0) (ad 0) := (hAvy22 (0) (by omega)).trans hay11
  have hay31 : zAt advy27 (0) (ad 0) := (hAvy27 (0) (by omega)).trans hay30
  have hgy32 := (hGvy22 (0) (by omega) (by decide) (by decide)).trans hgy12
  have hgy33 := (hGvy27 (0) (by omega) (by decide) (by decide)).trans hgy32
  refine z_get (v := .ref (ad 919)) C (by omega) hay31 hgy33 rfl inA_X9 13 (by decide) q_362 rfl rfl dX9_writeLine_31 ?_
  refine z_aload_n C 1 dX9_writeLine_34 rfl ?_
  have hay34 : zAt advy22 (a) (ad a) := (hAvy22 (a) (by omega)).trans hay13
  have hay35 : zAt advy27 (a) (ad a) := (hAvy27 (a) (by omega)).trans hay34
  have hgy36 := (hGvy22 (a) (by omega) (by omega) (by omega)).trans hgy14
  have hgy37 := (hGvy27 (a) (by omega) (by omega) (by omega)).trans hgy36
  refine z_get (v := .ref (ad (a + 1))) C (by omega) hay35 hgy37 rfl inA_X3 2 (by decide) q_164 rfl rfl dX9_writeLine_35 ?_
  refine z_iconst (z := 0) C dX9_writeLine_38 rfl ?_
  refine z_iload_n C 2 dX9_writeLine_39 rfl ?_
  refine z_iadd C dX9_writeLine_40 ?_
  have hay38 : zAt advy22 (a + 1) (ad (a + 1)) := (hAvy22 (a + 1) (by omega)).trans hay15
  have hay39 : zAt advy27 (a + 1) (ad (a + 1)) := (hAvy27 (a + 1) (by omega)).trans hay38
  have hgy40 := (hGvy22 (a + 1) (by omega) (by omega) (by omega)).trans hgy16
  have hgy41 := (hGvy27 (a + 1) (by omega) (by omega) (by omega)).trans hgy40
  refine z_iald C (by omega) hay39 hgy41 ((0 + z).toNat) (by omega) (by omega) (by decide) dX9_writeLine_41 ?_
  obtain ⟨xy42, exy43, hxy44⟩ := zI_of (zI (r ((0 + z).toNat)))
  rw [exy43]
  refine z_cS (As := [.int (zI (xy42))]) (rest := [.ref (ad 919)]) C (c_kindWord l D A cs tt Nvy27 advy27 _ (xy42) (by omega)) ms_yX9_kindWord q_1195 hd_yX9_kindWord (by decide) (Nat.le_of_ble_eq_true rfl) (by decide) dX9_writeLine_42 rfl (kR0 fun avy45 gvy45 hvy45 => ?_)
  obtain ⟨⟨qvy45, hqvy45, rfl⟩, rfl⟩ := hvy45
  have hLqvy45 := SKL_len qvy45 hqvy45
  have hBy46 : bldC cs advy27 gvy27 (Nvy27) (cnvy27) ((cap_y28 : Int)) := ⟨v_y28, cap_y28, ml_y28, b_y28, by omega, by omega, by omega, by omega, by omega, by omega, hby_y28, h9_y28, hgv_y28⟩
  have hay47 : zAt advy27 (919) (ad 919) := (hAvy27 (919) (by omega)).trans hay26
  refine z_cV (As := [.ref (cs (100 + qvy45.2.2.2.1))]) (rest := []) (ci := 1) C (c_sbS l D A cs tt Nvy27 advy27 _ (by omega) _ _ hBy46 _ hay47 qvy45 hqvy45 (by omega)) (by omega) hay47 h9_y28 rfl rfl mv_yJ4_append_15ec4 q_1196 hd_yJ4_append_15ec4 (by decide) (Nat.le_of_ble_eq_true rfl) (by decide) dX9_writeLine_45 rfl (kR fun avy48 Nvy48 advy48 gvy48 hvy48 => ?_)
  obtain ⟨hxvy48, ⟨hNvy48, hAvy48, hGvy48⟩, cnvy48, hkvy48, hBvy48⟩ := hvy48
  rw [hxvy48]
  obtain ⟨v_y49, cap_y49, ml_y49, b_y49, hv_y49, hvN_y49, hcap_y49, hcp_y49, hcn_y49, hml_y49, hby_y49, h9_y49, hgv_y49⟩ := id hBvy48
  have hay50 : zAt advy48 (v_y49) (advy48 v_y49) := rfl
  refine z_pop C dX9_writeLine_48 rfl ?_
  refine z_aload_n C 0 dX9_writeLine_49 rfl ?_
  have hay51 : zAt advy48 (0) (ad 0) := (hAvy48 (0) (by omega)).trans hay31
  have hgy52 := (hGvy48 (0) (by omega) (by decide) (by decide)).trans hgy33
  refine z_get (v := .ref (ad 919)) C (by omega) hay51 hgy52 rfl inA_X9 13 (by decide) q_362 rfl rfl dX9_writeLine_50 ?_
  refine z_ldcwS C skm14 rfl rfl dX9_writeLine_53 ?_
  have hBy53 : bldC cs advy48 gvy48 (Nvy48) (cnvy48) ((cap_y49 : Int)) := ⟨v_y49, cap_y49, ml_y49, b_y49, by omega, by omega, by omega, by omega, by omega, by omega, hby_y49, h9_y49, hgv_y49⟩
  have hay54 : zAt advy48 (919) (ad 919) := (hAvy48 (919) (by omega)).trans hay47
  refine z_cV (As := [.ref (cs (100 + 14))]) (rest := []) (ci := 1) C (c_sbS l D A cs tt Nvy48 advy48 _ (by omega) _ _ hBy53 _ hay54 _ skm14 (show cnvy48 + 4 ≤ 81 by omega)) (by omega) hay54 h9_y49 rfl rfl mv_yJ4_append_15ec4 q_1196 hd_yJ4_append_15ec4 (by decide) (Nat.le_of_ble_eq_true rfl) (by decide) dX9_writeLine_56 rfl (kR fun avy55 Nvy55 advy55 gvy55 hvy55 => ?_)
  obtain ⟨hxvy55, ⟨hNvy55, hAvy55, hGvy55⟩, cnvy55, hkvy55, hBvy55⟩ := hvy55
  rw [hxvy55]
  obtain ⟨v_y56, cap_y56, ml_y56, b_y56, hv_y56, hvN_y56, hcap_y56, hcp_y56, hcn_y56, hml_y56, hby_y56, h9_y56, hgv_y56⟩ := id hBvy55
  have hay57 : zAt advy55 (v_y56) (advy55 v_y56) := rfl
  have hlvy55 : cnvy48 + 4 ≤ cnvy55 ∧ cnvy55 ≤ cnvy48 + 4 := hkvy55
  refine z_aload_n C 1 dX9_writeLine_59 rfl ?_
  have hay58 : zAt advy48 (a) (ad a) := (hAvy48 (a) (by omega)).trans hay35
  have hay59 : zAt advy55 (a) (ad a) := (hAvy55 (a) (by omega)).trans hay58
  have hgy60 := (hGvy48 (a) (by omega) (by omega) (by omega)).trans hgy37
  have hgy61 := (hGvy55 (a) (by omega) (by omega) (by omega)).trans hgy60
  refine z_get (v := .ref (ad (a + 1))) C (by omega) hay59 hgy61 rfl inA_X3 2 (by decide) q_164 rfl rfl dX9_writeLine_60 ?_
  refine z_bipush (z := 12) C dX9_writeLine_63 (by decide) ?_
  refine z_iload_n C 2 dX9_writeLine_65 rfl ?_
  refine z_iadd C dX9_writeLine_66 ?_
  have hay62 : zAt advy48 (a + 1) (ad (a + 1)) := (hAvy48 (a + 1) (by omega)).trans hay39
  have hay63 : zAt advy55 (a + 1) (ad (a + 1)) := (hAvy55 (a + 1) (by omega)).trans hay62
  have hgy64 := (hGvy48 (a + 1) (by omega) (by omega) (by omega)).trans hgy41
  have hgy65 := (hGvy55 (a + 1) (by omega) (by omega) (by omega)).trans hgy64
  refine z_iald C (by omega) hay63 hgy65 ((12 + z).toNat) (by omega) (by omega) (by decide) dX9_writeLine_67 ?_
  obtain ⟨xy66, exy67, hxy68⟩ := zI_of (zI (r ((12 + z).toNat)))
  rw [exy67]
  have hBy69 : bldC cs advy55 gvy55 (Nvy55) (cnvy55) ((cap_y56 : Int)) := ⟨v_y56, cap_y56, ml_y56, b_y56, by omega, by omega, by omega, by omega, by omega, by omega, hby_y56, h9_y56, hgv_y56⟩
  have hay70 : zAt advy55 (919) (ad 919) := (hAvy55 (919) (by omega)).trans hay54
  refine z_cV (As := [.int (zI (xy66))]) (rest := []) (ci := 1) C (c_sbI l D A cs tt Nvy55 advy55 _ (by omega) _ _ hBy69 _ hay70 (xy66) (by omega) (by omega)) (by omega) hay70 h9_y56 rfl rfl mv_yJ4_append_bf812 q_1181 hd_yJ4_append_bf812 (by decide) (Nat.le_of_ble_eq_true rfl) (by decide) dX9_writeLine_68 rfl (kR fun avy71 Nvy71 advy71 gvy71 hvy71 => ?_)
  obtain ⟨hxvy71, ⟨hNvy71, hAvy71, hGvy71⟩, cnvy71, hkvy71, hBvy71⟩ := hvy71
  rw [hxvy71]
  obtain ⟨v_y72, cap_y72, ml_y72, b_y72, hv_y72, hvN_y72, hcap_y72, hcp_y72, hcn_y72, hml_y72, hby_y72, h9_y72, hgv_y72⟩ := id hBvy71
  have hay73 : zAt advy71 (v_y72) (advy71 v_y72) := rfl
  refine z_pop C dX9_writeLine_71 rfl ?_
  refine z_aload_n C 1 dX9_writeLine_72 rfl ?_
  have hay74 : zAt advy71 (a) (ad a) := (hAvy71 (a) (by omega)).trans hay59
  have hgy75 := (hGvy71 (a) (by omega) (by omega) (by omega)).trans hgy61
  refine z_get (v := .ref (ad (a + 1))) C (by omega) hay74 hgy75 rfl inA_X3 2 (by decide) q_164 rfl rfl dX9_writeLine_73 ?_
  refine z_bipush (z := 24) C dX9_writeLine_76 (by decide) ?_
  refine z_iload_n C 2 dX9_writeLine_78 rfl ?_
  refine z_iadd C dX9_writeLine_79 ?_
  have hay76 : zAt advy71 (a + 1) (ad (a + 1)) := (hAvy71 (a + 1) (by omega)).trans hay63
  have hgy77 := (hGvy71 (a + 1) (by omega) (by omega) (by omega)).trans hgy65
  refine z_iald C (by omega) hay76 hgy77 ((24 + z).toNat) (by omega) (by omega) (by decide) dX9_writeLine_80 ?_
  obtain ⟨xy78, exy79, hxy80⟩ := zI_of (zI (r ((24 + z).toNat)))
  rw [exy79]
  refine z_if_le (tgt := 107) C dX9_writeLine_81 (by decide) (by omega) (fun hby81 => ?_) (fun hby81 => ?_)
  · refine z_aload_n C 0 dX9_writeLine_107 rfl ?_
    have hay82 : zAt advy55 (0) (ad 0) := (hAvy55 (0) (by omega)).trans hay51
    have hay83 : zAt advy71 (0) (ad 0) := (hAvy71 (0) (by omega)).trans hay82
    have hgy84 := (hGvy55 (0) (by omega) (by decide) (by decide)).trans hgy52
    have hgy85 := (hGvy71 (0) (by omega) (by decide) (by decide)).trans hgy84
    refine z_get (v := .ref (ad 919)) C (by omega) hay83 hgy85 rfl inA_X9 13 (by decide) q_362 rfl rfl dX9_writeLine_108 ?_
    refine z_ldcwS C skm16 rfl rfl dX9_writeLine_111 ?_
    have hBy86 : bldC cs advy71 gvy71 (Nvy71) (cnvy71) ((cap_y72 : Int)) := ⟨v_y72, cap_y72, ml_y72, b_y72, by omega, by omega, by omega, by omega, by omega, by omega, hby_y72, h9_y72, hgv_y72⟩
    have hay87 : zAt advy71 (919) (ad 919) := (hAvy71 (919) (by omega)).trans hay70
    refine z_cV (As := [.ref (cs (100 + 16))]) (rest := []) (ci := 1) C (c_sbS l D A cs tt Nvy71 advy71 _ (by omega) _ _ hBy86 _ hay87 _ skm16 (show cnvy71 + 4 ≤ 81 by omega)) (by omega) hay87 h9_y72 rfl rfl mv_yJ4_append_15ec4 q_1196 hd_yJ4_append_15ec4 (by decide) (Nat.le_of_ble_eq_true rfl) (by decide) dX9_writeLine_114 rfl (kR fun avy88 Nvy88 advy88 gvy88 hvy88 => ?_)
    obtain ⟨hxvy88, ⟨hNvy88, hAvy88, hGvy88⟩, cnvy88, hkvy88, hBvy88⟩ := hvy88
    rw [hxvy88]
    obtain ⟨v_y89, cap_y89, ml_y89, b_y89, hv_y89, hvN_y89, hcap_y89, hcp_y89, hcn_y89, hml_y89, hby_y89, h9_y89, hgv_y89⟩ := id hBvy88
    have hay90 : zAt advy88 (v_y89) (advy88 v_y89) := rfl
    have hlvy88 : cnvy71 + 4 ≤ cnvy88 ∧ cnvy88 ≤ cnvy71 + 4 := hkvy88
    refine z_aload_n C 1 dX9_writeLine_117 rfl ?_
    have hay91 : zAt advy88 (a) (ad a) := (hAvy88 (a) (by omega)).trans hay74
    have hgy92 := (hGvy88 (a) (by omega) (by omega) (by omega)).trans hgy75
    refine z_get (v := .ref (ad (a + 1))) C (by omega) hay91 hgy92 rfl inA_X3 2 (by decide) q_164 rfl rfl dX9_writeLine_118 ?_
    refine z_bipush (z := 36) C dX9_writeLine_121 (by decide) ?_
    refine z_iload_n C 2 dX9_writeLine_123 rfl ?_
    refine z_iadd C dX9_writeLine_124 ?_
    have hay93 : zAt advy88 (a + 1) (ad (a + 1)) := (hAvy88 (a + 1) (by omega)).trans hay76
    have hgy94 := (hGvy88 (a + 1) (by omega) (by omega) (by omega)).trans hgy77
    refine z_iald C (by omega) hay93 hgy94 ((36 + z).toNat) (by omega) (by omega) (by decide) dX9_writeLine_125 ?_
    obtain ⟨xy95, exy96, hxy97⟩ := zI_of (zI (r ((36 + z).toNat)))
    rw [exy96]
    have hBy98 : bldC cs advy88 gvy88 (Nvy88) (cnvy88) ((cap_y89 : Int)) := ⟨v_y89, cap_y89, ml_y89, b_y89, by omega, by omega, by omega, by omega, by omega, by omega, hby_y89, h9_y89, hgv_y89⟩
    have hay99 : zAt advy88 (919) (ad 919) := (hAvy88 (919) (by omega)).trans hay87
    refine z_cV (As := [.int (zI (xy95))]) (rest := []) (ci := 1) C (c_sbI l D A cs tt Nvy88 advy88 _ (by omega) _ _ hBy98 _ hay99 (xy95) (by omega) (by omega)) (by omega) hay99 h9_y89 rfl rfl mv_yJ4_append_bf812 q_1181 hd_yJ4_append_bf812 (by decide) (Nat.le_of_ble_eq_true rfl) (by decide) dX9_writeLine_126 rfl (kR fun avy100 Nvy100 advy100 gvy100 hvy100 => ?_)
    obtain ⟨hxvy100, ⟨hNvy100, hAvy100, hGvy100⟩, cnvy100, hkvy100, hBvy100⟩ := hvy100
    rw [hxvy100]
    obtain ⟨v_y101, cap_y101, ml_y101, b_y101, hv_y101, hvN_y101, hcap_y101, hcp_y101, hcn_y101, hml_y101, hby_y101, h9_y101, hgv_y101⟩ := id hBvy100
    have hay102 : zAt advy100 (v_y101) (advy100 v_y101) := rfl
    refine z_pop C dX9_writeLine_129 rfl ?_
    refine z_aload_n C 0 dX9_writeLine_130 rfl ?_
    have hay103 : zAt advy88 (0) (ad 0) := (hAvy88 (0) (by omega)).trans hay83
    have hay104 : zAt advy100 (0) (ad 0) := (hAvy100 (0) (by omega)).trans hay103
    have hgy105 := (hGvy88 (0) (by omega) (by decide) (by decide)).trans hgy85
    have hgy106 := (hGvy100 (0) (by omega) (by decide) (by decide)).trans hgy105
    refine z_get (v := .ref (ad 919)) C (by omega) hay104 hgy106 rfl inA_X9 13 (by decide) q_362 rfl rfl dX9_writeLine_131 ?_
    refine z_ldcwS C skm17 rfl rfl dX9_writeLine_134 ?_
    have hBy107 : bldC cs advy100 gvy100 (Nvy100) (cnvy100) ((cap_y101 : Int)) := ⟨v_y101, cap_y101, ml_y101, b_y101, by omega, by omega, by omega, by omega, by omega, by omega, hby_y101, h9_y101, hgv_y101⟩
    have hay108 : zAt advy100 (919) (ad 919) := (hAvy100 (919) (by omega)).trans hay99
    refine z_cV (As := [.ref (cs (100 + 17))]) (rest := []) (ci := 1) C (c_sbS l D A cs tt Nvy100 advy100 _ (by omega) _ _ hBy107 _ hay108 _ skm17 (show cnvy100 + 4 ≤ 81 by omega)) (by omega) hay108 h9_y101 rfl rfl mv_yJ4_append_15ec4 q_1196 hd_yJ4_append_15ec4 (by decide) (Nat.le_of_ble_eq_true rfl) (by decide) dX9_writeLine_137 rfl (kR fun avy109 Nvy109 advy109 gvy109 hvy109 => ?_)
    obtain ⟨hxvy109, ⟨hNvy109, hAvy109, hGvy109⟩, cnvy109, hkvy109, hBvy109⟩ := hvy109
    rw [hxvy109]
    obtain ⟨v_y110, cap_y110, ml_y110, b_y110, hv_y110, hvN_y110, hcap_y110, hcp_y110, hcn_y110, hml_y110, hby_y110, h9_y110, hgv_y110⟩ := id hBvy109
    have hay111 : zAt advy109 (v_y110) (advy109 v_y110) := rfl
    have hlvy109 : cnvy100 + 4 ≤ cnvy109 ∧ cnvy109 ≤ cnvy100 + 4 := hkvy109
    refine z_aload_n C 1 dX9_writeLine_140 rfl ?_
    have hay112 : zAt advy100 (a) (ad a) := (hAvy100 (a) (by omega)).trans hay91
    have hay113 : zAt advy109 (a) (ad a) := (hAvy109 (a) (by omega)).trans hay112
    have hgy114 := (hGvy100 (a) (by omega) (by omega) (by omega)).trans hgy92
    have hgy115 := (hGvy109 (a) (by omega) (by omega) (by omega)).trans hgy114
    refine z_get (v := .ref (ad (a + 1))) C (by omega) hay113 hgy115 rfl inA_X3 2 (by decide) q_164 rfl rfl dX9_writeLine_141 ?_
    refine z_bipush (z := 48) C dX9_writeLine_144 (by decide) ?_
    refine z_iload_n C 2 dX9_writeLine_146 rfl ?_
    refine z_iadd C dX9_writeLine_147 ?_
    have hay116 : zAt advy100 (a + 1) (ad (a + 1)) := (hAvy100 (a + 1) (by omega)).trans hay93
    have hay117 : zAt advy109 (a + 1) (ad (a + 1)) := (hAvy109 (a + 1) (by omega)).trans hay116
    have hgy118 := (hGvy100 (a + 1) (by omega) (by omega) (by omega)).trans hgy94
    have hgy119 := (hGvy109 (a + 1) (by omega) (by omega) (by omega)).trans hgy118
    refine z_iald C (by omega) hay117 hgy119 ((48 + z).toNat) (by omega) (by omega) (by decide) dX9_writeLine_148 ?_
    obtain ⟨xy120, exy121, hxy122⟩ := zI_of (zI (r ((48 + z).toNat)))
    rw [exy121]
    have hBy123 : bldC cs advy109 gvy109 (Nvy109) (cnvy109) ((cap_y110 : Int)) := ⟨v_y110, cap_y110, ml_y110, b_y110, by omega, by omega, by omega, by omega, by omega, by omega, hby_y110, h9_y110, hgv_y110⟩
    have hay124 : zAt advy109 (919) (ad 919) := (hAvy109 (919) (by omega)).trans hay108
    refine z_cV (As := [.int (zI (xy120))]) (rest := []) (ci := 1) C (c_sbI l D A cs tt Nvy109 advy109 _ (by omega) _ _ hBy123 _ hay124 (xy120) (by omega) (by omega)) (by omega) hay124 h9_y110 rfl rfl mv_yJ4_append_bf812 q_1181 hd_yJ4_append_bf812 (by decide) (Nat.le_of_ble_eq_true rfl) (by decide) dX9_writeLine_149 rfl (kR fun avy125 Nvy125 advy125 gvy125 hvy125 => ?_)
    obtain ⟨hxvy125, ⟨hNvy125, hAvy125, hGvy125⟩, cnvy125, hkvy125, hBvy125⟩ := hvy125
    rw [hxvy125]
    obtain ⟨v_y126, cap_y126, ml_y126, b_y126, hv_y126, hvN_y126, hcap_y126, hcp_y126, hcn_y126, hml_y126, hby_y126, h9_y126, hgv_y126⟩ := id hBvy125
    have hay127 : zAt advy125 (v_y126) (advy125 v_y126) := rfl
    refine z_bipush (z := 59) C dX9_writeLine_152 (by decide) ?_
    have hBy128 : bldC cs advy125 gvy125 (Nvy125) (cnvy125) ((cap_y126 : Int)) := ⟨v_y126, cap_y126, ml_y126, b_y126, by omega, by omega, by omega, by omega, by omega, by omega, hby_y126, h9_y126, hgv_y126⟩
    have hay129 : zAt advy125 (919) (ad 919) := (hAvy125 (919) (by omega)).trans hay124
    refine z_cV (As := [.int (zI (59))]) (rest := []) (ci := 1) C (c_sbC l D A cs tt Nvy125 advy125 _ (by omega) _ _ hBy128 _ hay129 (59) (by omega) (by omega)) (by omega) hay129 h9_y126 rfl rfl mv_yJ4_append_cf468 q_1182 hd_yJ4_append_cf468 (by decide) (Nat.le_of_ble_eq_true rfl) (by decide) dX9_writeLine_154 rfl (kR fun avy130 Nvy130 advy130 gvy130 hvy130 => ?_)
    obtain ⟨hxvy130, ⟨hNvy130, hAvy130, hGvy130⟩, cnvy130, hkvy130, hBvy130⟩ := hvy130
    rw [hxvy130]
    obtain ⟨v_y131, cap_y131, ml_y131, b_y131, hv_y131, hvN_y131, hcap_y131, hcp_y131, hcn_y131, hml_y131, hby_y131, h9_y131, hgv_y131⟩ := id hBvy130
    have hay132 : zAt advy130 (v_y131) (advy130 v_y131) := rfl
    refine z_pop C dX9_writeLine_157 rfl ?_
    refine z_widen (k2 := 13) (n2 := 2132) (by decide) (by decide) ?_
    have hBy133 : bldC cs advy130 gvy130 (Nvy130) (cnvy130) (0) := ⟨v_y131, cap_y131, ml_y131, b_y131, by omega, by omega, by omega, by omega, by omega, by omega, hby_y131, h9_y131, hgv_y131⟩
    have hGRy134 : GR N ad g (Nvy130) advy130 gvy130 := ⟨by omega, fun j j1 => by rw [hAvy130 _ (by omega)]; rw [hAvy125 _ (by omega)]; rw [hAvy109 _ (by omega)]; rw [hAvy100 _ (by omega)]; rw [hAvy88 _ (by omega)]; rw [hAvy71 _ (by omega)]; rw [hAvy55 _ (by omega)]; rw [hAvy48 _ (by omega)]; rw [hAvy27 _ (by omega)]; rw [hAvy22 _ (by omega)]; rw [hAvy8 _ (by omega)], fun j j1 j2 j3 => by rw [hGvy130 _ (by omega) (by omega) (by omega)]; rw [hGvy125 _ (by omega) (by omega) (by omega)]; rw [hGvy109 _ (by omega) (by omega) (by omega)]; rw [hGvy100 _ (by omega) (by omega) (by omega)]; rw [hGvy88 _ (by omega) (by omega) (by omega)]; rw [hGvy71 _ (by omega) (by omega) (by omega)]; rw [hGvy55 _ (by omega) (by omega) (by omega)]; rw [hGvy48 _ (by omega) (by omega) (by omega)]; rw [hGvy27 _ (by omega) (by omega) (by omega)]; rw [hGvy22 _ (by omega) (by omega) (by omega)]; rw [hGvy8 _ (by omega) (by omega) (by omega)]⟩
    exact z_vret C hr hlk dX9_writeLine_158 (by decide) (by decide) ⟨rfl, hGRy134, _, hBy133⟩
  · refine z_aload_n C 0 dX9_writeLine_84 rfl ?_
    have hay135 : zAt advy55 (0) (ad 0) := (hAvy55 (0) (by omega)).trans hay51
    have hay136 : zAt advy71 (0) (ad 0) := (hAvy71 (0) (by omega)).trans hay135
    have hgy137 := (hGvy55 (0) (by omega) (by decide) (by decide)).trans hgy52
    have hgy138 := (hGvy71 (0) (by omega) (by decide) (by decide)).trans hgy137
    refine z_get (v := .ref (ad 919)) C (by omega) hay136 hgy138 rfl inA_X9 13 (by decide) q_362 rfl rfl dX9_writeLine_85 ?_
    refine z_ldcwS C skm15 rfl rfl dX9_writeLine_88 ?_
    have hBy139 : bldC cs advy71 gvy71 (Nvy71) (cnvy71) ((cap_y72 : Int)) := ⟨v_y72, cap_y72, ml_y72, b_y72, by omega, by omega, by omega, by omega, by omega, by omega, hby_y72, h9_y72, hgv_y72⟩
    have hay140 : zAt advy71 (919) (ad 919) := (hAvy71 (919) (by omega)).trans hay70
    refine z_cV (As := [.ref (cs (100 + 15))]) (rest := []) (ci := 1) C (c_sbS l D A cs tt Nvy71 advy71 _ (by omega) _ _ hBy139 _ hay140 _ skm15 (show cnvy71 + 5 ≤ 81 by omega)) (by omega) hay140 h9_y72 rfl rfl mv_yJ4_append_15ec4 q_1196 hd_yJ4_append_15ec4 (by decide) (Nat.le_of_ble_eq_true rfl) (by decide) dX9_writeLine_91 rfl (kR fun avy141 Nvy141 advy141 gvy141 hvy141 => ?_)
    obtain ⟨hxvy141, ⟨hNvy141, hAvy141, hGvy141⟩, cnvy141, hkvy141, hBvy141⟩ := hvy141
    rw [hxvy141]
    obtain ⟨v_y142, cap_y142, ml_y142, b_y142, hv_y142, hvN_y142, hcap_y142, hcp_y142, hcn_y142, hml_y142, hby_y142, h9_y142, hgv_y142⟩ := id hBvy141
    have hay143 : zAt advy141 (v_y142) (advy141 v_y142) := rfl
    have hlvy141 : cnvy71 + 5 ≤ cnvy141 ∧ cnvy141 ≤ cnvy71 + 5 := hkvy141
    refine z_aload_n C 1 dX9_writeLine_94 rfl ?_
    have hay144 : zAt advy141 (a) (ad a) := (hAvy141 (a) (by omega)).trans hay74
    have hgy145 := (hGvy141 (a) (by omega) (by omega) (by omega)).trans hgy75
    refine z_get (v := .ref (ad (a + 1))) C (by omega) hay144 hgy145 rfl inA_X3 2 (by decide) q_164 rfl rfl dX9_writeLine_95 ?_
    refine z_bipush (z := 24) C dX9_writeLine_98 (by decide) ?_
    refine z_iload_n C 2 dX9_writeLine_100 rfl ?_
    refine z_iadd C dX9_writeLine_101 ?_
    have hay146 : zAt advy141 (a + 1) (ad (a + 1)) := (hAvy141 (a + 1) (by omega)).trans hay76
    have hgy147 := (hGvy141 (a + 1) (by omega) (by omega) (by omega)).trans hgy77
    refine z_iald C (by omega) hay146 hgy147 ((24 + z).toNat) (by omega) (by omega) (by decide) dX9_writeLine_102 ?_
    obtain ⟨xy148, exy149, hxy150⟩ := zI_of (zI (r ((24 + z).toNat)))
    rw [exy149]
    have hBy151 : bldC cs advy141 gvy141 (Nvy141) (cnvy141) ((cap_y142 : Int)) := ⟨v_y142, cap_y142, ml_y142, b_y142, by omega, by omega, by omega, by omega, by omega, by omega, hby_y142, h9_y142, hgv_y142⟩
    have hay152 : zAt advy141 (919) (ad 919) := (hAvy141 (919) (by omega)).trans hay140
    refine z_cV (As := [.int (zI (xy148))]) (rest := []) (ci := 1) C (c_sbI l D A cs tt Nvy141 advy141 _ (by omega) _ _ hBy151 _ hay152 (xy148) (by omega) (by omega)) (by omega) hay152 h9_y142 rfl rfl mv_yJ4_append_bf812 q_1181 hd_yJ4_append_bf812 (by decide) (Nat.le_of_ble_eq_true rfl) (by decide) dX9_writeLine_103 rfl (kR fun avy153 Nvy153 advy153 gvy153 hvy153 => ?_)
    obtain ⟨hxvy153, ⟨hNvy153, hAvy153, hGvy153⟩, cnvy153, hkvy153, hBvy153⟩ := hvy153
    rw [hxvy153]
    obtain ⟨v_y154, cap_y154, ml_y154, b_y154, hv_y154, hvN_y154, hcap_y154, hcp_y154, hcn_y154, hml_y154, hby_y154, h9_y154, hgv_y154⟩ := id hBvy153
    have hay155 : zAt advy153 (v_y154) (advy153 v_y154) := rfl
    refine z_pop C dX9_writeLine_106 rfl ?_
    refine z_aload_n C 0 dX9_writeLine_107 rfl ?_
    have hay156 : zAt advy141 (0) (ad 0) := (hAvy141 (0) (by omega)).trans hay136
    have hay157 : zAt advy153 (0) (ad 0) := (hAvy153 (0) (by omega)).trans hay156
    have hgy158 := (hGvy141 (0) (by omega) (by decide) (by decide)).trans hgy138
    have hgy159 := (hGvy153 (0) (by omega) (by decide) (by decide)).trans hgy158
    refine z_get (v := .ref (ad 919)) C (by omega) hay157 hgy159 rfl inA_X9 13 (by decide) q_362 rfl rfl dX9_writeLine_108 ?_
    refine z_ldcwS C skm16 rfl rfl dX9_writeLine_111 ?_
    have hBy160 : bldC cs advy153 gvy153 (Nvy153) (cnvy153) ((cap_y154 : Int)) := ⟨v_y154, cap_y154, ml_y154, b_y154, by omega, by omega, by omega, by omega, by omega, by omega, hby_y154, h9_y154, hgv_y154⟩
    have hay161 : zAt advy153 (919) (ad 919) := (hAvy153 (919) (by omega)).trans hay152
    refine z_cV (As := [.ref (cs (100 + 16))]) (rest := []) (ci := 1) C (c_sbS l D A cs tt Nvy153 advy153 _ (by omega) _ _ hBy160 _ hay161 _ skm16 (show cnvy153 + 4 ≤ 81 by omega)) (by omega) hay161 h9_y154 rfl rfl mv_yJ4_append_15ec4 q_1196 hd_yJ4_append_15ec4 (by decide) (Nat.le_of_ble_eq_true rfl) (by decide) dX9_writeLine_114 rfl (kR fun avy162 Nvy162 advy162 gvy162 hvy162 => ?_)
    obtain ⟨hxvy162, ⟨hNvy162, hAvy162, hGvy162⟩, cnvy162, hkvy162, hBvy162⟩ := hvy162
    rw [hxvy162]
    obtain ⟨v_y163, cap_y163, ml_y163, b_y163, hv_y163, hvN_y163, hcap_y163, hcp_y163, hcn_y163, hml_y163, hby_y163, h9_y163, hgv_y163⟩ := id hBvy162
    have hay164 : zAt advy162 (v_y163) (advy162 v_y163) := rfl
    have hlvy162 : cnvy153 + 4 ≤ cnvy162 ∧ cnvy162 ≤ cnvy153 + 4 := hkvy162
    refine z_aload_n C 1 dX9_writeLine_117 rfl ?_
    have hay165 : zAt advy153 (a) (ad a) := (hAvy153 (a) (by omega)).trans hay144
    have hay166 : zAt advy162 (a) (ad a) := (hAvy162 (a) (by omega)).trans hay165
    have hgy167 := (hGvy153 (a) (by omega) (by omega) (by omega)).trans hgy145
    have hgy168 := (hGvy162 (a) (by omega) (by omega) (by omega)).trans hgy167
    refine z_get (v := .ref (ad (a + 1))) C (by omega) hay166 hgy168 rfl inA_X3 2 (by decide) q_164 rfl rfl dX9_writeLine_118 ?_
    refine z_bipush (z := 36) C dX9_writeLine_121 (by decide) ?_
    refine z_iload_n C 2 dX9_writeLine_123 rfl ?_
    refine z_iadd C dX9_writeLine_124 ?_
    have hay169 : zAt advy153 (a + 1) (ad (a + 1)) := (hAvy153 (a + 1) (by omega)).trans hay146
    have hay170 : zAt advy162 (a + 1) (ad (a + 1)) := (hAvy162 (a + 1) (by omega)).trans hay169
    have hgy171 := (hGvy153 (a + 1) (by omega) (by omega) (by omega)).trans hgy147
    have hgy172 := (hGvy162 (a + 1) (by omega) (by omega) (by omega)).trans hgy171
    refine z_iald C (by omega) hay170 hgy172 ((36 + z).toNat) (by omega) (by omega) (by decide) dX9_writeLine_125 ?_
    obtain ⟨xy173, exy174, hxy175⟩ := zI_of (zI (r ((36 + z).toNat)))
    rw [exy174]
    have hBy176 : bldC cs advy162 gvy162 (Nvy162) (cnvy162) ((cap_y163 : Int)) := ⟨v_y163, cap_y163, ml_y163, b_y163, by omega, by omega, by omega, by omega, by omega, by omega, hby_y163, h9_y163, hgv_y163⟩
    have hay177 : zAt advy162 (919) (ad 919) := (hAvy162 (919) (by omega)).trans hay161
    refine z_cV (As := [.int (zI (xy173))]) (rest := []) (ci := 1) C (c_sbI l D A cs tt Nvy162 advy162 _ (by omega) _ _ hBy176 _ hay177 (xy173) (by omega) (by omega)) (by omega) hay177 h9_y163 rfl rfl mv_yJ4_append_bf812 q_1181 hd_yJ4_append_bf812 (by decide) (Nat.le_of_ble_eq_true rfl) (by decide) dX9_writeLine_126 rfl (kR fun avy178 Nvy178 advy178 gvy178 hvy178 => ?_)
    obtain ⟨hxvy178, ⟨hNvy178, hAvy178, hGvy178⟩, cnvy178, hkvy178, hBvy178⟩ := hvy178
    rw [hxvy178]
    obtain ⟨v_y179, cap_y179, ml_y179, b_y179, hv_y179, hvN_y179, hcap_y179, hcp_y179, hcn_y179, hml_y179, hby_y179, h9_y179, hgv_y179⟩ := id hBvy178
    have hay180 : zAt advy178 (v_y179) (advy178 v_y179) := rfl
    refine z_pop C dX9_writeLine_129 rfl ?_
    refine z_aload_n C 0 dX9_writeLine_130 rfl ?_
    have hay181 : zAt advy162 (0) (ad 0) := (hAvy162 (0) (by omega)).trans hay157
    have hay182 : zAt advy178 (0) (ad 0) := (hAvy178 (0) (by omega)).trans hay181
    have hgy183 := (hGvy162 (0) (by omega) (by decide) (by decide)).trans hgy159
    have hgy184 := (hGvy178 (0) (by omega) (by decide) (by decide)).trans hgy183
    refine z_get (v := .ref (ad 919)) C (by omega) hay182 hgy184 rfl inA_X9 13 (by decide) q_362 rfl rfl dX9_writeLine_131 ?_
    refine z_ldcwS C skm17 rfl rfl dX9_writeLine_134 ?_
    have hBy185 : bldC cs advy178 gvy178 (Nvy178) (cnvy178) ((cap_y179 : Int)) := ⟨v_y179, cap_y179, ml_y179, b_y179, by omega, by omega, by omega, by omega, by omega, by omega, hby_y179, h9_y179, hgv_y179⟩
    have hay186 : zAt advy178 (919) (ad 919) := (hAvy178 (919) (by omega)).trans hay177
    refine z_cV (As := [.ref (cs (100 + 17))]) (rest := []) (ci := 1) C (c_sbS l D A cs tt Nvy178 advy178 _ (by omega) _ _ hBy185 _ hay186 _ skm17 (show cnvy178 + 4 ≤ 81 by omega)) (by omega) hay186 h9_y179 rfl rfl mv_yJ4_append_15ec4 q_1196 hd_yJ4_append_15ec4 (by decide) (Nat.le_of_ble_eq_true rfl) (by decide) dX9_writeLine_137 rfl (kR fun avy187 Nvy187 advy187 gvy187 hvy187 => ?_)
    obtain ⟨hxvy187, ⟨hNvy187, hAvy187, hGvy187⟩, cnvy187, hkvy187, hBvy187⟩ := hvy187
    rw [hxvy187]
    obtain ⟨v_y188, cap_y188, ml_y188, b_y188, hv_y188, hvN_y188, hcap_y188, hcp_y188, hcn_y188, hml_y188, hby_y188, h9_y188, hgv_y188⟩ := id hBvy187
    have hay189 : zAt advy187 (v_y188) (advy187 v_y188) := rfl
    have hlvy187 : cnvy178 + 4 ≤ cnvy187 ∧ cnvy187 ≤ cnvy178 + 4 := hkvy187
    refine z_aload_n C 1 dX9_writeLine_140 rfl ?_
    have hay190 : zAt advy178 (a) (ad a) := (hAvy178 (a) (by omega)).trans hay166
    have hay191 : zAt advy187 (a) (ad a) := (hAvy187 (a) (by omega)).trans hay190
    have hgy192 := (hGvy178 (a) (by omega) (by omega) (by omega)).trans hgy168
    have hgy193 := (hGvy187 (a) (by omega) (by omega) (by omega)).trans hgy192
    refine z_get (v := .ref (ad (a + 1))) C (by omega) hay191 hgy193 rfl inA_X3 2 (by decide) q_164 rfl rfl dX9_writeLine_141 ?_
    refine z_bipush (z := 48) C dX9_writeLine_144 (by decide) ?_
    refine z_iload_n C 2 dX9_writeLine_146 rfl ?_
    refine z_iadd C dX9_writeLine_147 ?_
    have hay194 : zAt advy178 (a + 1) (ad (a + 1)) := (hAvy178 (a + 1) (by omega)).trans hay170
    have hay195 : zAt advy187 (a + 1) (ad (a + 1)) := (hAvy187 (a + 1) (by omega)).trans hay194
    have hgy196 := (hGvy178 (a + 1) (by omega) (by omega) (by omega)).trans hgy172
    have hgy197 := (hGvy187 (a + 1) (by omega) (by omega) (by omega)).trans hgy196
    refine z_iald C (by omega) hay195 hgy197 ((48 + z).toNat) (by omega) (by omega) (by decide) dX9_writeLine_148 ?_
    obtain ⟨xy198, exy199, hxy200⟩ := zI_of (zI (r ((48 + z).toNat)))
    rw [exy199]
    have hBy201 : bldC cs advy187 gvy187 (Nvy187) (cnvy187) ((cap_y188 : Int)) := ⟨v_y188, cap_y188, ml_y188, b_y188, by omega, by omega, by omega, by omega, by omega, by omega, hby_y188, h9_y188, hgv_y188⟩
    have hay202 : zAt advy187 (919) (ad 919) := (hAvy187 (919) (by omega)).trans hay186
    refine z_cV (As := [.int (zI (xy198))]) (rest := []) (ci := 1) C (c_sbI l D A cs tt Nvy187 advy187 _ (by omega) _ _ hBy201 _ hay202 (xy198) (by omega) (by omega)) (by omega) hay202 h9_y188 rfl rfl mv_yJ4_append_bf812 q_1181 hd_yJ4_append_bf812 (by decide) (Nat.le_of_ble_eq_true rfl) (by decide) dX9_writeLine_149 rfl (kR fun avy203 Nvy203 advy203 gvy203 hvy203 => ?_)
    obtain ⟨hxvy203, ⟨hNvy203, hAvy203, hGvy203⟩, cnvy203, hkvy203, hBvy203⟩ := hvy203
    rw [hxvy203]
    obtain ⟨v_y204, cap_y204, ml_y204, b_y204, hv_y204, hvN_y204, hcap_y204, hcp_y204, hcn_y204, hml_y204, hby_y204, h9_y204, hgv_y204⟩ := id hBvy203
    have hay205 : zAt advy203 (v_y204) (advy203 v_y204) := rfl
    refine z_bipush (z := 59) C dX9_writeLine_152 (by decide) ?_
    have hBy206 : bldC cs advy203 gvy203 (Nvy203) (cnvy203) ((cap_y204 : Int)) := ⟨v_y204, cap_y204, ml_y204, b_y204, by omega, by omega, by omega, by omega, by omega, by omega, hby_y204, h9_y204, hgv_y204⟩
    have hay207 : zAt advy203 (919) (ad 919) := (hAvy203 (919) (by omega)).trans hay202
    refine z_cV (As := [.int (zI (59))]) (rest := []) (ci := 1) C (c_sbC l D A cs tt Nvy203 advy203 _ (by omega) _ _ hBy206 _ hay207 (59) (by omega) (by omega)) (by omega) hay207 h9_y204 rfl rfl mv_yJ4_append_cf468 q_1182 hd_yJ4_append_cf468 (by decide) (Nat.le_of_ble_eq_true rfl) (by decide) dX9_writeLine_154 rfl (kR fun avy208 Nvy208 advy208 gvy208 hvy208 => ?_)
    obtain ⟨hxvy208, ⟨hNvy208, hAvy208, hGvy208⟩, cnvy208, hkvy208, hBvy208⟩ := hvy208
    rw [hxvy208]
    obtain ⟨v_y209, cap_y209, ml_y209, b_y209, hv_y209, hvN_y209, hcap_y209, hcp_y209, hcn_y209, hml_y209, hby_y209, h9_y209, hgv_y209⟩ := id hBvy208
    have hay210 : zAt advy208 (v_y209) (advy208 v_y209) := rfl
    refine z_pop C dX9_writeLine_157 rfl ?_
    have hBy211 : bldC cs advy208 gvy208 (Nvy208) (cnvy208) (0) := ⟨v_y209, cap_y209, ml_y209, b_y209, by omega, by omega, by omega, by omega, by omega, by omega, hby_y209, h9_y209, hgv_y209⟩
    have hGRy212 : GR N ad g (Nvy208) advy208 gvy208 := ⟨by omega, fun j j1 => by rw [hAvy208 _ (by omega)]; rw [hAvy203 _ (by omega)]; rw [hAvy187 _ (by omega)]; rw [hAvy178 _ (by omega)]; rw [hAvy162 _ (by omega)]; rw [hAvy153 _ (by omega)]; rw [hAvy141 _ (by omega)]; rw [hAvy71 _ (by omega)]; rw [hAvy55 _ (by omega)]; rw [hAvy48 _ (by omega)]; rw [hAvy27 _ (by omega)]; rw [hAvy22 _ (by omega)]; rw [hAvy8 _ (by omega)], fun j j1 j2 j3 => by rw [hGvy208 _ (by omega) (by omega) (by omega)]; rw [hGvy203 _ (by omega) (by omega) (by omega)]; rw [hGvy187 _ (by omega) (by omega) (by omega)]; rw [hGvy178 _ (by omega) (by omega) (by omega)]; rw [hGvy162 _ (by omega) (by omega) (by omega)]; rw [hGvy153 _ (by omega) (by omega) (by omega)]; rw [hGvy141 _ (by omega) (by omega) (by omega)]; rw [hGvy71 _ (by omega) (by omega) (by omega)]; rw [hGvy55 _ (by omega) (by omega) (by omega)]; rw [hGvy48 _ (by omega) (by omega) (by omega)]; rw [hGvy27 _ (by omega) (by omega) (by omega)]; rw [hGvy22 _ (by omega) (by omega) (by omega)]; rw [hGvy8 _ (by omega) (by omega) (by omega)]⟩
    exact z_vret C hr hlk dX9_writeLine_158 (by decide) (by decide) ⟨rfl, hGRy212, _, hBy211⟩
end
section
-- 70k.words.lean.txt
-- words of toldc
theorem q_1140 : (Jvm.Cond.instanceMethod ({ cls := "java/lang/StringBuilder", name := "length", desc := "()I" } : Jvm.MethodName)) ∈ AW := AW_m5 180 (by decide +kernel) (by decide +kernel)
theorem q_1141 : (Jvm.Cond.code ({ cls := "java/lang/StringBuilder", name := "length", desc := "()I" } : Jvm.MethodName) prog_26_method_93_code (1 : Nat) (Option.some Jvm.ClassFile.FieldType.int)) ∈ AW := AW_m5 181 (by decide +kernel) (by decide +kernel)
theorem q_1201 : (Jvm.Cond.methodLink "SnowRecorder" (246 : Nat) ({ cls := "java/lang/StringBuilder", name := "length", desc := "()I" } : Jvm.MethodName)) ∈ AW := AW_m6 1 (by decide +kernel) (by decide +kernel)
theorem q_1203 : (Jvm.Cond.methodLink "SnowRecorder" (251 : Nat) ({ cls := "java/lang/StringBuilder", name := "charAt", desc := "(I)C" } : Jvm.MethodName)) ∈ AW := AW_m6 3 (by decide +kernel) (by decide +kernel)
theorem q_1204 : (Jvm.Cond.instanceMethod ({ cls := "java/lang/StringBuilder", name := "charAt", desc := "(I)C" } : Jvm.MethodName)) ∈ AW := AW_m6 4 (by decide +kernel) (by decide +kernel)
theorem q_1205 : (Jvm.Cond.selects "java/lang/StringBuilder" ({ cls := "java/lang/StringBuilder", name := "charAt", desc := "(I)C" } : Jvm.MethodName) ({ cls := "java/lang/StringBuilder", name := "charAt", desc := "(I)C" } : Jvm.MethodName)) ∈ AW := AW_m6 5 (by decide +kernel) (by decide +kernel)
theorem q_1206 : (Jvm.Cond.code ({ cls := "java/lang/StringBuilder", name := "charAt", desc := "(I)C" } : Jvm.MethodName) prog_26_method_88_code (2 : Nat) (Option.some Jvm.ClassFile.FieldType.char)) ∈ AW := AW_m6 6 (by decide +kernel) (by decide +kernel)
theorem q_2128 : (Jvm.Cond.selects "java/lang/StringBuilder" ({ cls := "java/lang/StringBuilder", name := "length", desc := "()I" } : Jvm.MethodName) ({ cls := "java/lang/StringBuilder", name := "length", desc := "()I" } : Jvm.MethodName)) ∈ AW := AW_m9 208 (by decide +kernel) (by decide +kernel)
theorem q_974 : (Jvm.Cond.methodLink "SnowRecorder" (243 : Nat) ({ cls := "SnowRecorder", name := "writeLine", desc := "(LSnowRecorder$Pack;I)V" } : Jvm.MethodName)) ∈ AW := AW_m5 14 (by decide +kernel) (by decide +kernel)
theorem q_976 : (Jvm.Cond.instanceMethod ({ cls := "SnowRecorder", name := "writeLine", desc := "(LSnowRecorder$Pack;I)V" } : Jvm.MethodName)) ∈ AW := AW_m5 16 (by decide +kernel) (by decide +kernel)
theorem q_977 : (Jvm.Cond.code ({ cls := "SnowRecorder", name := "writeLine", desc := "(LSnowRecorder$Pack;I)V" } : Jvm.MethodName) prog_1_method_61_code (3 : Nat) (Option.none : Option Jvm.ClassFile.FieldType)) ∈ AW := AW_m5 17 (by decide +kernel) (by decide +kernel)
theorem s_26 : Cond.selects "SnowRecorder" ({ cls := "SnowRecorder", name := "writeLine", desc := "(LSnowRecorder$Pack;I)V" } : Jvm.MethodName) ({ cls := "SnowRecorder", name := "writeLine", desc := "(LSnowRecorder$Pack;I)V" } : Jvm.MethodName) ∈ AW := AW_m 26 (by decide +kernel) (by decide +kernel)
theorem hd_yX9_writeLine : yX9_writeLine.cls ≠ "java/lang/invoke/MethodHandle" ∧ yX9_writeLine.cls ≠ "java/lang/invoke/VarHandle" ∧ (parseMethodDescriptor yX9_writeLine.desc).map (fun d => d.parameters.length) = some 2 := by decide +kernel
theorem hd_yJ4_length_8abf5 : yJ4_length_8abf5.cls ≠ "java/lang/invoke/MethodHandle" ∧ yJ4_length_8abf5.cls ≠ "java/lang/invoke/VarHandle" ∧ (parseMethodDescriptor yJ4_length_8abf5.desc).map (fun d => d.parameters.length) = some 0 := by decide +kernel
theorem hd_yJ4_charAt_5068e : yJ4_charAt_5068e.cls ≠ "java/lang/invoke/MethodHandle" ∧ yJ4_charAt_5068e.cls ≠ "java/lang/invoke/VarHandle" ∧ (parseMethodDescriptor yJ4_charAt_5068e.desc).map (fun d => d.parameters.length) = some 1 := by decide +kernel
theorem mv_yX9_writeLine : zWv yX9_writeLine cX9_writeLine 3 none := ⟨q_976, s_26, q_1, q_977⟩
theorem mv_yJ4_length_8abf5 : zWv yJ4_length_8abf5 cJ4_length_8abf5 1 (some .int) := ⟨q_1140, q_2128, q_12, q_1141⟩
theorem mv_yJ4_charAt_5068e : zWv yJ4_charAt_5068e cJ4_charAt_5068e 2 (some .char) := ⟨q_1204, q_1205, q_12, q_1206⟩
end
section
-- 70l.dec.lean.txt
-- decode rows of toldc
theorem dX9_told_0 : decode cX9_told 0 = .ok (.aload_n 0, 1) := by decide +kernel
theorem dX9_told_1 : decode cX9_told 1 = .ok (.iload_n 1, 1) := by decide +kernel
theorem dX9_told_2 : decode cX9_told 2 = .ok (.invokevirtual 183, 3) := by decide +kernel
theorem dX9_told_5 : decode cX9_told 5 = .ok (.astore 4, 2) := by decide +kernel
theorem dX9_told_7 : decode cX9_told 7 = .ok (.aload_n 0, 1) := by decide +kernel
theorem dX9_told_8 : decode cX9_told 8 = .ok (.aload 4, 2) := by decide +kernel
theorem dX9_told_10 : decode cX9_told 10 = .ok (.iload_n 2, 1) := by decide +kernel
theorem dX9_told_11 : decode cX9_told 11 = .ok (.invokevirtual 212, 3) := by decide +kernel
theorem dX9_told_14 : decode cX9_told 14 = .ok (.aload_n 0, 1) := by decide +kernel
theorem dX9_told_15 : decode cX9_told 15 = .ok (.aload 4, 2) := by decide +kernel
theorem dX9_told_17 : decode cX9_told 17 = .ok (.iload_n 2, 1) := by decide +kernel
theorem dX9_told_18 : decode cX9_told 18 = .ok (.invokevirtual 243, 3) := by decide +kernel
theorem dX9_told_21 : decode cX9_told 21 = .ok (.iload_n 3, 1) := by decide +kernel
theorem dX9_told_22 : decode cX9_told 22 = .ok (.iconst (-1), 1) := by decide +kernel
theorem dX9_told_23 : decode cX9_told 23 = .ok (.if_icmp .ne 11, 3) := by decide +kernel
theorem dX9_told_34 : decode cX9_told 34 = .ok (.iload_n 3, 1) := by decide +kernel
theorem dX9_told_35 : decode cX9_told 35 = .ok (.ifCond .lt 14, 3) := by decide +kernel
theorem dX9_told_49 : decode cX9_told 49 = .ok (.new 165, 3) := by decide +kernel
theorem dX9_told_52 : decode cX9_told 52 = .ok (.dup, 1) := by decide +kernel
theorem dX9_told_53 : decode cX9_told 53 = .ok (.ldc 249, 2) := by decide +kernel
theorem dX9_told_55 : decode cX9_told 55 = .ok (.invokespecial 169, 3) := by decide +kernel
theorem dX9_told_58 : decode cX9_told 58 = .ok (.athrow, 1) := by decide +kernel
theorem dX9_told_38 : decode cX9_told 38 = .ok (.iload_n 3, 1) := by decide +kernel
theorem dX9_told_39 : decode cX9_told 39 = .ok (.aload_n 0, 1) := by decide +kernel
theorem dX9_told_40 : decode cX9_told 40 = .ok (.getfield 78, 3) := by decide +kernel
theorem dX9_told_43 : decode cX9_told 43 = .ok (.invokevirtual 246, 3) := by decide +kernel
theorem dX9_told_46 : decode cX9_told 46 = .ok (.if_icmp .lt 13, 3) := by decide +kernel
theorem dX9_told_59 : decode cX9_told 59 = .ok (.aload_n 0, 1) := by decide +kernel
theorem dX9_told_60 : decode cX9_told 60 = .ok (.getfield 78, 3) := by decide +kernel
theorem dX9_told_63 : decode cX9_told 63 = .ok (.iload_n 3, 1) := by decide +kernel
theorem dX9_told_64 : decode cX9_told 64 = .ok (.invokevirtual 251, 3) := by decide +kernel
theorem dX9_told_67 : decode cX9_told 67 = .ok (.ireturn, 1) := by decide +kernel
theorem dX9_told_26 : decode cX9_told 26 = .ok (.aload_n 0, 1) := by decide +kernel
theorem dX9_told_27 : decode cX9_told 27 = .ok (.getfield 78, 3) := by decide +kernel
theorem dX9_told_30 : decode cX9_told 30 = .ok (.invokevirtual 246, 3) := by decide +kernel
theorem dX9_told_33 : decode cX9_told 33 = .ok (.ireturn, 1) := by decide +kernel
end
section
-- 70m.toldc.lean.txt
set_option maxRecDepth 100000 in
set_option maxHeartbeats 4000000 in
theorem c_X9_told (l : Launch) (D : va_G) (A : Nat → Prop) (cs : Nat → ClassId) (tt : Nat) (N : Nat) (ad : Nat → Nat) (g : Nat → va_E) (hN : 952 ≤ N) (t fp im nz kz sl ho ua : Int) (st op ai fa mu tb tp : Nat → Int) (hR : okRec cs ad g N t fp im nz kz sl ho ua st op ai fa mu tb tp) (hl0 : l.stackTraces = false) (z : Int) (hz : -2147483648 ≤ z ∧ z ≤ 2147483647) (z1 : Int) (hz1 : -2147483648 ≤ z1 ∧ z1 ≤ 2147483647) (z2 : Int) (hz2 : -2147483648 ≤ z2 ∧ z2 ≤ 2147483647) : zMX l yX9_told cX9_told 5 (some .int) ({ frames := 9, cells := 16, slots := 2150, locals := 540 } : Room) D A cs tt N ad g [.ref (ad 0), .int (zI (z)), .int (zI (z1)), .int (zI (z2))] (rI fun r N' ad' g' => okRec cs ad' g' N' t fp im nz kz sl ho ua st op ai fa mu tb tp ∧ GR N ad g N' ad' g') (fun E N' ad' g' => E = eNS ∧ okRec cs ad' g' N' t fp im nz kz sl ho ua st op ai fa mu tb tp ∧ GR N ad g N' ad' g') := by
  obtain ⟨ary1, bry1, cry1, dry1, ery1, fry1, gry11, hry1, ⟨acry1, iry1⟩, ⟨kcry1, jry1⟩, kry1, lry1, mry1, nry1, ory1, pry1⟩ := id hR
  have hay2 : zAt ad (0) (ad 0) := rfl
  have hay3 : zAt ad (1) (ad 1) := rfl
  have hay4 : zAt ad (2) (ad 2) := rfl
  have hay5 : zAt ad (4) (ad 4) := rfl
  have hay6 : zAt ad (11) (ad 11) := rfl
  have hay7 : zAt ad (447) (ad 447) := rfl
  have hay8 : zAt ad (883) (ad 883) := rfl
  have hay9 : zAt ad (890) (ad 890) := rfl
  have hay10 : zAt ad (900) (ad 900) := rfl
  have hay11 : zAt ad (910) (ad 910) := rfl
  have hay12 : zAt ad (917) (ad 917) := rfl
  have hay13 : zAt ad (919) (ad 919) := rfl
  have hay14 : zAt ad (4 + 1) (ad (4 + 1)) := rfl
  have hay15 : zAt ad (4 + 2) (ad (4 + 2)) := rfl
  have hay16 : zAt ad (4 + 3) (ad (4 + 3)) := rfl
  have hay17 : zAt ad (4 + 4) (ad (4 + 4)) := rfl
  have hay18 : zAt ad (4 + 5) (ad (4 + 5)) := rfl
  have hay19 : zAt ad (4 + 6) (ad (4 + 6)) := rfl
  obtain ⟨thcy20, zhcy20, ohcy20, rhcy20, hzhcy20, hthcy20, hwhcy20⟩ := id lry1
  obtain ⟨thcy21, zhcy21, ohcy21, rhcy21, hzhcy21, hthcy21, hwhcy21⟩ := id mry1
  obtain ⟨asy22, bsy22, csy22, dsy22, esy22, ⟨ptsy22, fsy22, gsy221⟩, hsy22, ⟨nusy22, nvsy22, nwsy22, isy22, jsy22, ksy22, lsy22, msy22, nsy22⟩, rfsy22, osy22⟩ := id iry1
  have hay23 : zAt ad (11 + 1) (ad (11 + 1)) := rfl
  have hay24 : zAt ad (11 + 11) (ad (11 + 11)) := rfl
  have hay25 : zAt ad (11 + 12) (ad (11 + 12)) := rfl
  have hay26 : zAt ad (11 + 13) (ad (11 + 13)) := rfl
  have hay27 : zAt ad (11 + 13 + 1) (ad (11 + 13 + 1)) := rfl
  have hay28 : zAt ad (11 + 13 + 2) (ad (11 + 13 + 2)) := rfl
  have hay29 : zAt ad (11 + 13 + 3) (ad (11 + 13 + 3)) := rfl
  have hay30 : zAt ad (11 + 17) (ad (11 + 17)) := rfl
  obtain ⟨uy31t, uy31z, uy31o, uy31r, uy31z4, uy31t5, uy311, ⟨uy31u, uy312, uy313⟩, uy314⟩ := id csy22
  have hay32 : zAt ad (11 + 1) (ad (11 + 1)) := rfl
  have hay33 : zAt ad (11 + 1 + 1) (ad (11 + 1 + 1)) := rfl
  refine z_ofX (by decide) (Nat.le_of_ble_eq_true rfl) ?_
  intro p e s m below meth c C hr hlk hxt
  refine z_lv (lv' := [(0, .ref (ad 0)), (1, .int (zI (z))), (2, .int (zI (z1))), (3, .int (zI (z2)))]) [0, 1, 2, 3] rfl ?_
  refine z_aload_n C 0 dX9_told_0 rfl ?_
  refine z_iload_n C 1 dX9_told_1 rfl ?_
  have hrecy35 : okRec cs ad g N (t) (fp) (im) (nz) (kz) (sl) (ho) (ua) (st) (op) (ai) (fa) (mu) (tb) (tp) := ⟨ary1, bry1, cry1, dry1, ery1, fry1, gry11, hry1, ⟨_, iry1⟩, ⟨_, jry1⟩, kry1, lry1, mry1, nry1, ory1, pry1⟩
  refine z_cVX (As := [.int (zI (z))]) (rest := []) (ci := 11) C (c_X9_packOf l D A cs tt N ad _ hN _ _ _ _ _ _ _ _ _ _ _ _ _ _ _ hrecy35 hl0 (z) (by omega)) (lt_K hN (rfl : Nat.blt (0) 952 = true)) hay2 ary1 rfl rfl mv_yX9_packOf q_936 hd_yX9_packOf (by decide) (Nat.le_of_ble_eq_true rfl) (by decide) dX9_told_2 rfl (fun E N' ad' g' h => by obtain ⟨rfl, rfl, rfl, rfl⟩ := h; exact z_uout C hxt hlk (by decide) (by decide) ⟨rfl, hR, GR.refl⟩) (kR0 fun avy34 gvy34 hvy34 => ?_)
  obtain ⟨hvy34, rfl, rfl⟩ := hvy34
  have hay36 : zAt ad (11 + 1 + 2 + 2 * (z).toNat) (ad (11 + 1 + 2 + 2 * (z).toNat)) := rfl
  have hay37 : zAt ad (11 + 1 + 2 + 2 * (z).toNat + 1) (ad (11 + 1 + 2 + 2 * (z).toNat + 1)) := rfl
  have hpy38 := uy314 (z).toNat (by omega)
  have hqy39 := uy31z4 (z).toNat (by omega)
  refine z_astore (lv' := [(4, .ref (ad (11 + 1 + 2 + 2 * (z).toNat))), (0, .ref (ad 0)), (1, .int (zI (z))), (2, .int (zI (z1))), (3, .int (zI (z2)))]) C dX9_told_5 (by decide) rfl ?_
  refine z_aload_n C 1 dX9_told_7 rfl ?_
  refine z_aload C 0 dX9_told_8 rfl ?_
  refine z_iload_n C 3 dX9_told_10 rfl ?_
  refine z_cVX (As := [.ref (ad (11 + 1 + 2 + 2 * (z).toNat)), .int (zI (z1))]) (rest := []) (ci := 11) C (c_X9_needLayer l D A cs tt N ad _ (11 + 1 + 2 + 2 * (z).toNat) (by omega) _ _ _ (by omega) ⟨hpy38.1, hpy38.2⟩ hl0 _ (z1) (by omega)) (lt_K hN (rfl : Nat.blt (0) 952 = true)) hay2 ary1 rfl rfl mv_yX9_needLayer q_955 hd_yX9_needLayer (by decide) (Nat.le_of_ble_eq_true rfl) (by decide) dX9_told_11 rfl (fun E N' ad' g' h => by obtain ⟨rfl, rfl, rfl, rfl⟩ := h; exact z_uout C hxt hlk (by decide) (by decide) ⟨rfl, hR, GR.refl⟩) (kV0 fun gvy40 hvy40 => ?_)
  obtain ⟨hvy40, rfl⟩ := hvy40
  refine z_aload_n C 1 dX9_told_14 rfl ?_
  refine z_aload C 0 dX9_told_15 rfl ?_
  refine z_iload_n C 3 dX9_told_17 rfl ?_
  obtain ⟨cn0, hB0⟩ := okRec.bld hR
  refine z_cV (As := [.ref (ad (11 + 1 + 2 + 2 * (z).toNat)), .int (zI (z1))]) (rest := []) (ci := 11) C (c_writeLine l D A cs tt N ad _ (by omega) _ _ hB0 (11 + 1 + 2 + 2 * (z).toNat) (by omega) (by omega) _ _ _ (by omega) ⟨hpy38.1, hpy38.2⟩ _ _ _ ary1 (z1) (by omega)) (lt_K hN (rfl : Nat.blt (0) 952 = true)) hay2 ary1 rfl rfl mv_yX9_writeLine q_974 hd_yX9_writeLine (by decide) (Nat.le_of_ble_eq_true rfl) (by decide) dX9_told_18 rfl (kV fun Nvy41 advy41 gvy41 hvy41 => ?_)
  obtain ⟨hG0vy41, cnvy41, hBvy41⟩ := hvy41
  have hRvy41 := okRec.grow hN hR hG0vy41 hBvy41
  obtain ⟨hNvy41, hAvy41, hGvy41⟩ := id hG0vy41
  obtain ⟨v_y42, cap_y42, ml_y42, b_y42, hv_y42, hvN_y42, hcap_y42, hcp_y42, hcn_y42, hml_y42, hby_y42, h9_y42, hgv_y42⟩ := id hBvy41
  have hay43 : zAt advy41 (v_y42) (advy41 v_y42) := rfl
  refine z_iload_n C 4 dX9_told_21 rfl ?_
  refine z_iconst (z := -1) C dX9_told_22 rfl ?_
  refine z_icmp_ne (tgt := 34) C dX9_told_23 (by decide) (by omega) (by omega) (fun hby44 => ?_) (fun hby44 => ?_)
  · refine z_iload_n C 4 dX9_told_34 rfl ?_
    refine z_if_lt (tgt := 49) C dX9_told_35 (by decide) (by omega) (fun hby45 => ?_) (fun hby45 => ?_)
    · exact z_thrN (cls := eNS) (text := "no such sign") C hl0 (ix := 13) (rx := nsB) ns0 ns1 ns2 ns5 (by decide +kernel) q_904 q_24 (by decide +kernel) at_NS gd_NS dX9_told_49 dX9_told_52 dX9_told_53 dX9_told_55 dX9_told_58 hxt (by decide) (Nat.le_of_ble_eq_true rfl) (by decide) (by decide) hlk (by decide) (by decide) ⟨rfl, hRvy41, hG0vy41⟩
    · refine z_iload_n C 4 dX9_told_38 rfl ?_
      refine z_aload_n C 1 dX9_told_39 rfl ?_
      have hay46 : zAt advy41 (0) (ad 0) := (hAvy41 (0) (lt_K hN (rfl : Nat.blt (0) 952 = true))).trans hay2
      have hgy47 := (hGvy41 (0) (by omega) (by decide) (by decide)).trans ary1
      refine z_get (v := .ref (ad 919)) C (by omega) hay46 hgy47 rfl inA_X9 13 (by decide) q_362 rfl rfl dX9_told_40 ?_
      have hBy48 : bldC cs advy41 gvy41 (Nvy41) (cnvy41) ((cap_y42 : Int)) := ⟨v_y42, cap_y42, ml_y42, b_y42, by omega, by omega, by omega, by omega, by omega, by omega, hby_y42, h9_y42, hgv_y42⟩
      have hay49 : zAt advy41 (919) (ad 919) := (hAvy41 (919) (lt_K hN (rfl : Nat.blt (919) 952 = true))).trans hay13
      refine z_cV (As := []) (rest := [.int (zI (z2))]) (ci := 1) C (c_sbLen l D A cs tt Nvy41 advy41 _ (by omega) _ _ hBy48 _ hay49) (by omega) hay49 h9_y42 rfl rfl mv_yJ4_length_8abf5 q_1201 hd_yJ4_length_8abf5 (by decide) (Nat.le_of_ble_eq_true rfl) (by decide) dX9_told_43 rfl (kI0 fun vy50 gvy50 hvy50 => ?_)
      obtain ⟨evy50, rfl⟩ := hvy50
      obtain rfl := evy50.symm
      refine z_icmp_lt (tgt := 59) C dX9_told_46 (by decide) (by omega) (by omega) (fun hby51 => ?_) (fun hby51 => ?_)
      · refine z_aload_n C 1 dX9_told_59 rfl ?_
        refine z_get (v := .ref (ad 919)) C (by omega) hay46 hgy47 rfl inA_X9 13 (by decide) q_362 rfl rfl dX9_told_60 ?_
        refine z_iload_n C 4 dX9_told_63 rfl ?_
        have hBy52 : bldC cs advy41 gvy41 (Nvy41) (cnvy41) ((cap_y42 : Int)) := ⟨v_y42, cap_y42, ml_y42, b_y42, by omega, by omega, by omega, by omega, by omega, by omega, hby_y42, h9_y42, hgv_y42⟩
        refine z_cV (As := [.int (zI (z2))]) (rest := []) (ci := 1) C (c_sbChar l D A cs tt Nvy41 advy41 _ (by omega) _ _ hBy52 _ hay49 (z2) (by omega)) (by omega) hay49 h9_y42 rfl rfl mv_yJ4_charAt_5068e q_1203 hd_yJ4_charAt_5068e (by decide) (Nat.le_of_ble_eq_true rfl) (by decide) dX9_told_64 rfl (kI0 fun vy53 gvy53 hvy53 => ?_)
        obtain ⟨hvy53, rfl⟩ := hvy53
        refine z_widen (k2 := 16) (n2 := 2150) (by decide) (by decide) ?_
        exact z_rX (z_iret C hr hlk dX9_told_67 (by decide) (by decide) ⟨_, rfl, hRvy41, hG0vy41⟩)
      · exact z_thrN (cls := eNS) (text := "no such sign") C hl0 (ix := 13) (rx := nsB) ns0 ns1 ns2 ns5 (by decide +kernel) q_904 q_24 (by decide +kernel) at_NS gd_NS dX9_told_49 dX9_told_52 dX9_told_53 dX9_told_55 dX9_told_58 hxt (by decide) (Nat.le_of_ble_eq_true rfl) (by decide) (by decide) hlk (by decide) (by decide) ⟨rfl, hRvy41, hG0vy41⟩
  · refine z_aload_n C 1 dX9_told_26 rfl ?_
    have hay54 : zAt advy41 (0) (ad 0) := (hAvy41 (0) (lt_K hN (rfl : Nat.blt (0) 952 = true))).trans hay2
    have hgy55 := (hGvy41 (0) (by omega) (by decide) (by decide)).trans ary1
    refine z_get (v := .ref (ad 919)) C (by omega) hay54 hgy55 rfl inA_X9 13 (by decide) q_362 rfl rfl dX9_told_27 ?_
    have hBy56 : bldC cs advy41 gvy41 (Nvy41) (cnvy41) ((cap_y42 : Int)) := ⟨v_y42, cap_y42, ml_y42, b_y42, by omega, by omega, by omega, by omega, by omega, by omega, hby_y42, h9_y42, hgv_y42⟩
    have hay57 : zAt advy41 (919) (ad 919) := (hAvy41 (919) (lt_K hN (rfl : Nat.blt (919) 952 = true))).trans hay13
    refine z_cV (As := []) (rest := []) (ci := 1) C (c_sbLen l D A cs tt Nvy41 advy41 _ (by omega) _ _ hBy56 _ hay57) (by omega) hay57 h9_y42 rfl rfl mv_yJ4_length_8abf5 q_1201 hd_yJ4_length_8abf5 (by decide) (Nat.le_of_ble_eq_true rfl) (by decide) dX9_told_30 rfl (kI0 fun vy58 gvy58 hvy58 => ?_)
    obtain ⟨evy58, rfl⟩ := hvy58
    obtain rfl := evy58.symm
    refine z_widen (k2 := 16) (n2 := 2150) (by decide) (by decide) ?_
    exact z_rX (z_iret C hr hlk dX9_told_33 (by decide) (by decide) ⟨_, rfl, hRvy41, hG0vy41⟩)
end
