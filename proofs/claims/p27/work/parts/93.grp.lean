section
-- 93.words.lean.txt
-- words of refb
theorem q_1866 : (Jvm.Cond.methodLink "SnowRecorderModel" (394 : Nat) ({ cls := "SnowRecorderModel", name := "refuses", desc := "(I)I" } : Jvm.MethodName)) ∈ AW := AW_m8 186 (by decide +kernel) (by decide +kernel)
theorem q_1868 : (Jvm.Cond.instanceMethod ({ cls := "SnowRecorderModel", name := "refuses", desc := "(I)I" } : Jvm.MethodName)) ∈ AW := AW_m8 188 (by decide +kernel) (by decide +kernel)
theorem q_1869 : (Jvm.Cond.code ({ cls := "SnowRecorderModel", name := "refuses", desc := "(I)I" } : Jvm.MethodName) prog_12_method_79_code (2 : Nat) (Option.some Jvm.ClassFile.FieldType.int)) ∈ AW := AW_m8 189 (by decide +kernel) (by decide +kernel)
theorem q_1870 : (Jvm.Cond.methodLink "SnowRecorderModel" (397 : Nat) ({ cls := "SnowRecorderModel", name := "keeps", desc := "()V" } : Jvm.MethodName)) ∈ AW := AW_m8 190 (by decide +kernel) (by decide +kernel)
theorem q_1872 : (Jvm.Cond.instanceMethod ({ cls := "SnowRecorderModel", name := "keeps", desc := "()V" } : Jvm.MethodName)) ∈ AW := AW_m8 192 (by decide +kernel) (by decide +kernel)
theorem q_1873 : (Jvm.Cond.code ({ cls := "SnowRecorderModel", name := "keeps", desc := "()V" } : Jvm.MethodName) prog_12_method_80_code (1 : Nat) (Option.none : Option Jvm.ClassFile.FieldType)) ∈ AW := AW_m8 193 (by decide +kernel) (by decide +kernel)
theorem q_1881 : (Jvm.Cond.methodLink "SnowRecorderModel" (400 : Nat) ({ cls := "SnowRecorderModel", name := "goes", desc := "(II)V" } : Jvm.MethodName)) ∈ AW := AW_m8 201 (by decide +kernel) (by decide +kernel)
theorem q_1883 : (Jvm.Cond.instanceMethod ({ cls := "SnowRecorderModel", name := "goes", desc := "(II)V" } : Jvm.MethodName)) ∈ AW := AW_m8 203 (by decide +kernel) (by decide +kernel)
theorem q_1884 : (Jvm.Cond.code ({ cls := "SnowRecorderModel", name := "goes", desc := "(II)V" } : Jvm.MethodName) prog_12_method_36_code (4 : Nat) (Option.none : Option Jvm.ClassFile.FieldType)) ∈ AW := AW_m8 204 (by decide +kernel) (by decide +kernel)
theorem q_1956 : (Jvm.Cond.methodLink "SnowRecorderModel" (403 : Nat) ({ cls := "SnowRecorderModel", name := "digs", desc := "(II)V" } : Jvm.MethodName)) ∈ AW := AW_m9 36 (by decide +kernel) (by decide +kernel)
theorem q_1958 : (Jvm.Cond.instanceMethod ({ cls := "SnowRecorderModel", name := "digs", desc := "(II)V" } : Jvm.MethodName)) ∈ AW := AW_m9 38 (by decide +kernel) (by decide +kernel)
theorem q_1959 : (Jvm.Cond.code ({ cls := "SnowRecorderModel", name := "digs", desc := "(II)V" } : Jvm.MethodName) prog_12_method_83_code (4 : Nat) (Option.none : Option Jvm.ClassFile.FieldType)) ∈ AW := AW_m9 39 (by decide +kernel) (by decide +kernel)
theorem q_1964 : (Jvm.Cond.methodLink "SnowRecorderModel" (406 : Nat) ({ cls := "SnowRecorderModel", name := "slides", desc := "(II)I" } : Jvm.MethodName)) ∈ AW := AW_m9 44 (by decide +kernel) (by decide +kernel)
theorem q_1966 : (Jvm.Cond.instanceMethod ({ cls := "SnowRecorderModel", name := "slides", desc := "(II)I" } : Jvm.MethodName)) ∈ AW := AW_m9 46 (by decide +kernel) (by decide +kernel)
theorem q_1967 : (Jvm.Cond.code ({ cls := "SnowRecorderModel", name := "slides", desc := "(II)I" } : Jvm.MethodName) prog_12_method_85_code (5 : Nat) (Option.some Jvm.ClassFile.FieldType.int)) ∈ AW := AW_m9 47 (by decide +kernel) (by decide +kernel)
theorem q_1980 : (Jvm.Cond.methodLink "SnowRecorderModel" (409 : Nat) ({ cls := "SnowRecorderModel", name := "tries", desc := "()V" } : Jvm.MethodName)) ∈ AW := AW_m9 60 (by decide +kernel) (by decide +kernel)
theorem q_1982 : (Jvm.Cond.instanceMethod ({ cls := "SnowRecorderModel", name := "tries", desc := "()V" } : Jvm.MethodName)) ∈ AW := AW_m9 62 (by decide +kernel) (by decide +kernel)
theorem q_1983 : (Jvm.Cond.code ({ cls := "SnowRecorderModel", name := "tries", desc := "()V" } : Jvm.MethodName) prog_12_method_89_code (1 : Nat) (Option.none : Option Jvm.ClassFile.FieldType)) ∈ AW := AW_m9 63 (by decide +kernel) (by decide +kernel)
theorem q_2000 : (Jvm.Cond.methodLink "SnowRecorderModel" (415 : Nat) ({ cls := "SnowRecorderModel", name := "extra", desc := "(I)I" } : Jvm.MethodName)) ∈ AW := AW_m9 80 (by decide +kernel) (by decide +kernel)
theorem q_2001 : (Jvm.Cond.static ({ cls := "SnowRecorderModel", name := "extra", desc := "(I)I" } : Jvm.MethodName)) ∈ AW := AW_m9 81 (by decide +kernel) (by decide +kernel)
theorem q_2002 : (Jvm.Cond.code ({ cls := "SnowRecorderModel", name := "extra", desc := "(I)I" } : Jvm.MethodName) prog_12_method_94_code (1 : Nat) (Option.some Jvm.ClassFile.FieldType.int)) ∈ AW := AW_m9 82 (by decide +kernel) (by decide +kernel)
theorem s_102 : Cond.selects "SnowRecorderModel" ({ cls := "SnowRecorderModel", name := "digs", desc := "(II)V" } : Jvm.MethodName) ({ cls := "SnowRecorderModel", name := "digs", desc := "(II)V" } : Jvm.MethodName) ∈ AW := AW_m 102 (by decide +kernel) (by decide +kernel)
theorem s_103 : Cond.selects "SnowRecorderModel" ({ cls := "SnowRecorderModel", name := "slides", desc := "(II)I" } : Jvm.MethodName) ({ cls := "SnowRecorderModel", name := "slides", desc := "(II)I" } : Jvm.MethodName) ∈ AW := AW_m 103 (by decide +kernel) (by decide +kernel)
theorem s_104 : Cond.selects "SnowRecorderModel" ({ cls := "SnowRecorderModel", name := "tries", desc := "()V" } : Jvm.MethodName) ({ cls := "SnowRecorderModel", name := "tries", desc := "()V" } : Jvm.MethodName) ∈ AW := AW_m 104 (by decide +kernel) (by decide +kernel)
theorem s_83 : Cond.selects "SnowRecorderModel" ({ cls := "SnowRecorderModel", name := "refuses", desc := "(I)I" } : Jvm.MethodName) ({ cls := "SnowRecorderModel", name := "refuses", desc := "(I)I" } : Jvm.MethodName) ∈ AW := AW_m 83 (by decide +kernel) (by decide +kernel)
theorem s_84 : Cond.selects "SnowRecorderModel" ({ cls := "SnowRecorderModel", name := "keeps", desc := "()V" } : Jvm.MethodName) ({ cls := "SnowRecorderModel", name := "keeps", desc := "()V" } : Jvm.MethodName) ∈ AW := AW_m 84 (by decide +kernel) (by decide +kernel)
theorem s_86 : Cond.selects "SnowRecorderModel" ({ cls := "SnowRecorderModel", name := "goes", desc := "(II)V" } : Jvm.MethodName) ({ cls := "SnowRecorderModel", name := "goes", desc := "(II)V" } : Jvm.MethodName) ∈ AW := AW_m 86 (by decide +kernel) (by decide +kernel)
theorem hd_yX10_extra : yX10_extra.cls ≠ "java/lang/invoke/MethodHandle" ∧ yX10_extra.cls ≠ "java/lang/invoke/VarHandle" ∧ (parseMethodDescriptor yX10_extra.desc).map (fun d => d.parameters.length) = some 1 := by decide +kernel
theorem hd_yX10_keeps : yX10_keeps.cls ≠ "java/lang/invoke/MethodHandle" ∧ yX10_keeps.cls ≠ "java/lang/invoke/VarHandle" ∧ (parseMethodDescriptor yX10_keeps.desc).map (fun d => d.parameters.length) = some 0 := by decide +kernel
theorem hd_yX10_goes : yX10_goes.cls ≠ "java/lang/invoke/MethodHandle" ∧ yX10_goes.cls ≠ "java/lang/invoke/VarHandle" ∧ (parseMethodDescriptor yX10_goes.desc).map (fun d => d.parameters.length) = some 2 := by decide +kernel
theorem hd_yX10_refuses : yX10_refuses.cls ≠ "java/lang/invoke/MethodHandle" ∧ yX10_refuses.cls ≠ "java/lang/invoke/VarHandle" ∧ (parseMethodDescriptor yX10_refuses.desc).map (fun d => d.parameters.length) = some 1 := by decide +kernel
theorem hd_yX10_digs : yX10_digs.cls ≠ "java/lang/invoke/MethodHandle" ∧ yX10_digs.cls ≠ "java/lang/invoke/VarHandle" ∧ (parseMethodDescriptor yX10_digs.desc).map (fun d => d.parameters.length) = some 2 := by decide +kernel
theorem hd_yX10_slides : yX10_slides.cls ≠ "java/lang/invoke/MethodHandle" ∧ yX10_slides.cls ≠ "java/lang/invoke/VarHandle" ∧ (parseMethodDescriptor yX10_slides.desc).map (fun d => d.parameters.length) = some 2 := by decide +kernel
theorem hd_yX10_tries : yX10_tries.cls ≠ "java/lang/invoke/MethodHandle" ∧ yX10_tries.cls ≠ "java/lang/invoke/VarHandle" ∧ (parseMethodDescriptor yX10_tries.desc).map (fun d => d.parameters.length) = some 0 := by decide +kernel
theorem ms_yX10_extra : zWs yX10_extra cX10_extra 1 (some .int) := ⟨q_2001, q_15, q_2002⟩
theorem mv_yX10_keeps : zWv yX10_keeps cX10_keeps 1 none := ⟨q_1872, s_84, q_15, q_1873⟩
theorem mv_yX10_goes : zWv yX10_goes cX10_goes 4 none := ⟨q_1883, s_86, q_15, q_1884⟩
theorem mv_yX10_refuses : zWv yX10_refuses cX10_refuses 2 (some .int) := ⟨q_1868, s_83, q_15, q_1869⟩
theorem mv_yX10_digs : zWv yX10_digs cX10_digs 4 none := ⟨q_1958, s_102, q_15, q_1959⟩
theorem mv_yX10_slides : zWv yX10_slides cX10_slides 5 (some .int) := ⟨q_1966, s_103, q_15, q_1967⟩
theorem mv_yX10_tries : zWv yX10_tries cX10_tries 1 none := ⟨q_1982, s_104, q_15, q_1983⟩
end
section
-- 94.dec.lean.txt
-- decode rows of refb
theorem dX10_extra_0 : decode cX10_extra 0 = .ok (.iload_n 0, 1) := by decide +kernel
theorem dX10_extra_1 : decode cX10_extra 1 = .ok (.bipush 10, 2) := by decide +kernel
theorem dX10_extra_3 : decode cX10_extra 3 = .ok (.invokestatic 143, 3) := by decide +kernel
theorem dX10_extra_6 : decode cX10_extra 6 = .ok (.iconst 2, 1) := by decide +kernel
theorem dX10_extra_7 : decode cX10_extra 7 = .ok (.iload_n 0, 1) := by decide +kernel
theorem dX10_extra_8 : decode cX10_extra 8 = .ok (.bipush 10, 2) := by decide +kernel
theorem dX10_extra_10 : decode cX10_extra 10 = .ok (.isub, 1) := by decide +kernel
theorem dX10_extra_11 : decode cX10_extra 11 = .ok (.iconst 0, 1) := by decide +kernel
theorem dX10_extra_12 : decode cX10_extra 12 = .ok (.invokestatic 128, 3) := by decide +kernel
theorem dX10_extra_15 : decode cX10_extra 15 = .ok (.bipush 10, 2) := by decide +kernel
theorem dX10_extra_17 : decode cX10_extra 17 = .ok (.invokestatic 143, 3) := by decide +kernel
theorem dX10_extra_20 : decode cX10_extra 20 = .ok (.imul, 1) := by decide +kernel
theorem dX10_extra_21 : decode cX10_extra 21 = .ok (.iadd, 1) := by decide +kernel
theorem dX10_extra_22 : decode cX10_extra 22 = .ok (.iconst 4, 1) := by decide +kernel
theorem dX10_extra_23 : decode cX10_extra 23 = .ok (.iload_n 0, 1) := by decide +kernel
theorem dX10_extra_24 : decode cX10_extra 24 = .ok (.bipush 20, 2) := by decide +kernel
theorem dX10_extra_26 : decode cX10_extra 26 = .ok (.isub, 1) := by decide +kernel
theorem dX10_extra_27 : decode cX10_extra 27 = .ok (.iconst 0, 1) := by decide +kernel
theorem dX10_extra_28 : decode cX10_extra 28 = .ok (.invokestatic 128, 3) := by decide +kernel
theorem dX10_extra_31 : decode cX10_extra 31 = .ok (.imul, 1) := by decide +kernel
theorem dX10_extra_32 : decode cX10_extra 32 = .ok (.iadd, 1) := by decide +kernel
theorem dX10_extra_33 : decode cX10_extra 33 = .ok (.ireturn, 1) := by decide +kernel
theorem dX10_stands_0 : decode cX10_stands 0 = .ok (.aload_n 0, 1) := by decide +kernel
theorem dX10_stands_1 : decode cX10_stands 1 = .ok (.iconst 0, 1) := by decide +kernel
theorem dX10_stands_2 : decode cX10_stands 2 = .ok (.putfield 110, 3) := by decide +kernel
theorem dX10_stands_5 : decode cX10_stands 5 = .ok (.aload_n 0, 1) := by decide +kernel
theorem dX10_stands_6 : decode cX10_stands 6 = .ok (.iload_n 1, 1) := by decide +kernel
theorem dX10_stands_7 : decode cX10_stands 7 = .ok (.invokevirtual 360, 3) := by decide +kernel
theorem dX10_stands_10 : decode cX10_stands 10 = .ok (.ifCond .eq 17, 3) := by decide +kernel
theorem dX10_stands_13 : decode cX10_stands 13 = .ok (.aload_n 0, 1) := by decide +kernel
theorem dX10_stands_14 : decode cX10_stands 14 = .ok (.iload_n 2, 1) := by decide +kernel
theorem dX10_stands_15 : decode cX10_stands 15 = .ok (.iconst 0, 1) := by decide +kernel
theorem dX10_stands_16 : decode cX10_stands 16 = .ok (.iconst 1, 1) := by decide +kernel
theorem dX10_stands_17 : decode cX10_stands 17 = .ok (.invokestatic 281, 3) := by decide +kernel
theorem dX10_stands_20 : decode cX10_stands 20 = .ok (.iconst 1, 1) := by decide +kernel
theorem dX10_stands_21 : decode cX10_stands 21 = .ok (.invokevirtual 324, 3) := by decide +kernel
theorem dX10_stands_24 : decode cX10_stands 24 = .ok (.ifCond .ne 5, 3) := by decide +kernel
theorem dX10_stands_29 : decode cX10_stands 29 = .ok (.iconst 0, 1) := by decide +kernel
theorem dX10_stands_30 : decode cX10_stands 30 = .ok (.istore_n 3, 1) := by decide +kernel
theorem dX10_stands_31 : decode cX10_stands 31 = .ok (.iload_n 3, 1) := by decide +kernel
theorem dX10_stands_32 : decode cX10_stands 32 = .ok (.bipush 30, 2) := by decide +kernel
theorem dX10_stands_34 : decode cX10_stands 34 = .ok (.if_icmp .gt 63, 3) := by decide +kernel
theorem dX10_stands_97 : decode cX10_stands 97 = .ok (.iconst (-1), 1) := by decide +kernel
theorem dX10_stands_98 : decode cX10_stands 98 = .ok (.ireturn, 1) := by decide +kernel
theorem dX10_stands_37 : decode cX10_stands 37 = .ok (.iconst 0, 1) := by decide +kernel
theorem dX10_stands_38 : decode cX10_stands 38 = .ok (.istore 4, 2) := by decide +kernel
theorem dX10_stands_40 : decode cX10_stands 40 = .ok (.iload 4, 2) := by decide +kernel
theorem dX10_stands_42 : decode cX10_stands 42 = .ok (.aload_n 0, 1) := by decide +kernel
theorem dX10_stands_43 : decode cX10_stands 43 = .ok (.iconst 0, 1) := by decide +kernel
theorem dX10_stands_44 : decode cX10_stands 44 = .ok (.iload_n 1, 1) := by decide +kernel
theorem dX10_stands_45 : decode cX10_stands 45 = .ok (.invokevirtual 121, 3) := by decide +kernel
theorem dX10_stands_48 : decode cX10_stands 48 = .ok (.if_icmp .ge 43, 3) := by decide +kernel
theorem dX10_stands_91 : decode cX10_stands 91 = .ok (.iinc 3 1, 3) := by decide +kernel
theorem dX10_stands_94 : decode cX10_stands 94 = .ok (.goto (-63), 3) := by decide +kernel
theorem dX10_stands_51 : decode cX10_stands 51 = .ok (.aload_n 0, 1) := by decide +kernel
theorem dX10_stands_52 : decode cX10_stands 52 = .ok (.iconst 0, 1) := by decide +kernel
theorem dX10_stands_53 : decode cX10_stands 53 = .ok (.iload_n 1, 1) := by decide +kernel
theorem dX10_stands_54 : decode cX10_stands 54 = .ok (.iload 4, 2) := by decide +kernel
theorem dX10_stands_56 : decode cX10_stands 56 = .ok (.iload_n 3, 1) := by decide +kernel
theorem dX10_stands_57 : decode cX10_stands 57 = .ok (.invokestatic 415, 3) := by decide +kernel
theorem dX10_stands_60 : decode cX10_stands 60 = .ok (.aload_n 0, 1) := by decide +kernel
theorem dX10_stands_61 : decode cX10_stands 61 = .ok (.getfield 13, 3) := by decide +kernel
theorem dX10_stands_64 : decode cX10_stands 64 = .ok (.iload_n 1, 1) := by decide +kernel
theorem dX10_stands_65 : decode cX10_stands 65 = .ok (.iaload, 1) := by decide +kernel
theorem dX10_stands_66 : decode cX10_stands 66 = .ok (.invokevirtual 229, 3) := by decide +kernel
theorem dX10_stands_69 : decode cX10_stands 69 = .ok (.bipush 100, 2) := by decide +kernel
theorem dX10_stands_71 : decode cX10_stands 71 = .ok (.if_icmp .ge 14, 3) := by decide +kernel
theorem dX10_stands_85 : decode cX10_stands 85 = .ok (.iinc 4 1, 3) := by decide +kernel
theorem dX10_stands_88 : decode cX10_stands 88 = .ok (.goto (-48), 3) := by decide +kernel
theorem dX10_stands_74 : decode cX10_stands 74 = .ok (.iload_n 2, 1) := by decide +kernel
theorem dX10_stands_75 : decode cX10_stands 75 = .ok (.ifCond .ne 7, 3) := by decide +kernel
theorem dX10_stands_82 : decode cX10_stands 82 = .ok (.iload 4, 2) := by decide +kernel
theorem dX10_stands_84 : decode cX10_stands 84 = .ok (.ireturn, 1) := by decide +kernel
theorem dX10_stands_78 : decode cX10_stands 78 = .ok (.iload_n 3, 1) := by decide +kernel
theorem dX10_stands_79 : decode cX10_stands 79 = .ok (.goto 5, 3) := by decide +kernel
theorem dX10_stands_27 : decode cX10_stands 27 = .ok (.iconst 0, 1) := by decide +kernel
theorem dX10_stands_28 : decode cX10_stands 28 = .ok (.ireturn, 1) := by decide +kernel
theorem dX10_toLoad_0 : decode cX10_toLoad 0 = .ok (.aload_n 0, 1) := by decide +kernel
theorem dX10_toLoad_1 : decode cX10_toLoad 1 = .ok (.iconst 0, 1) := by decide +kernel
theorem dX10_toLoad_2 : decode cX10_toLoad 2 = .ok (.putfield 110, 3) := by decide +kernel
theorem dX10_toLoad_5 : decode cX10_toLoad 5 = .ok (.aload_n 0, 1) := by decide +kernel
theorem dX10_toLoad_6 : decode cX10_toLoad 6 = .ok (.iload_n 1, 1) := by decide +kernel
theorem dX10_toLoad_7 : decode cX10_toLoad 7 = .ok (.invokevirtual 360, 3) := by decide +kernel
theorem dX10_toLoad_10 : decode cX10_toLoad 10 = .ok (.ifCond .ne 5, 3) := by decide +kernel
theorem dX10_toLoad_15 : decode cX10_toLoad 15 = .ok (.iconst 1, 1) := by decide +kernel
theorem dX10_toLoad_16 : decode cX10_toLoad 16 = .ok (.istore_n 2, 1) := by decide +kernel
theorem dX10_toLoad_17 : decode cX10_toLoad 17 = .ok (.iload_n 2, 1) := by decide +kernel
theorem dX10_toLoad_18 : decode cX10_toLoad 18 = .ok (.bipush 99, 2) := by decide +kernel
theorem dX10_toLoad_20 : decode cX10_toLoad 20 = .ok (.if_icmp .gt 29, 3) := by decide +kernel
theorem dX10_toLoad_49 : decode cX10_toLoad 49 = .ok (.iconst (-1), 1) := by decide +kernel
theorem dX10_toLoad_50 : decode cX10_toLoad 50 = .ok (.ireturn, 1) := by decide +kernel
theorem dX10_toLoad_23 : decode cX10_toLoad 23 = .ok (.aload_n 0, 1) := by decide +kernel
theorem dX10_toLoad_24 : decode cX10_toLoad 24 = .ok (.iconst 0, 1) := by decide +kernel
theorem dX10_toLoad_25 : decode cX10_toLoad 25 = .ok (.iload_n 1, 1) := by decide +kernel
theorem dX10_toLoad_26 : decode cX10_toLoad 26 = .ok (.iload_n 2, 1) := by decide +kernel
theorem dX10_toLoad_27 : decode cX10_toLoad 27 = .ok (.aload_n 0, 1) := by decide +kernel
theorem dX10_toLoad_28 : decode cX10_toLoad 28 = .ok (.getfield 13, 3) := by decide +kernel
theorem dX10_toLoad_31 : decode cX10_toLoad 31 = .ok (.iload_n 1, 1) := by decide +kernel
theorem dX10_toLoad_32 : decode cX10_toLoad 32 = .ok (.iaload, 1) := by decide +kernel
theorem dX10_toLoad_33 : decode cX10_toLoad 33 = .ok (.invokevirtual 235, 3) := by decide +kernel
theorem dX10_toLoad_36 : decode cX10_toLoad 36 = .ok (.bipush 100, 2) := by decide +kernel
theorem dX10_toLoad_38 : decode cX10_toLoad 38 = .ok (.if_icmp .ge 5, 3) := by decide +kernel
theorem dX10_toLoad_43 : decode cX10_toLoad 43 = .ok (.iinc 2 1, 3) := by decide +kernel
theorem dX10_toLoad_46 : decode cX10_toLoad 46 = .ok (.goto (-29), 3) := by decide +kernel
theorem dX10_toLoad_41 : decode cX10_toLoad 41 = .ok (.iload_n 2, 1) := by decide +kernel
theorem dX10_toLoad_42 : decode cX10_toLoad 42 = .ok (.ireturn, 1) := by decide +kernel
theorem dX10_toLoad_13 : decode cX10_toLoad 13 = .ok (.iconst 0, 1) := by decide +kernel
theorem dX10_toLoad_14 : decode cX10_toLoad 14 = .ok (.ireturn, 1) := by decide +kernel
theorem dX10_steepest_0 : decode cX10_steepest 0 = .ok (.aload_n 0, 1) := by decide +kernel
theorem dX10_steepest_1 : decode cX10_steepest 1 = .ok (.iconst 0, 1) := by decide +kernel
theorem dX10_steepest_2 : decode cX10_steepest 2 = .ok (.putfield 110, 3) := by decide +kernel
theorem dX10_steepest_5 : decode cX10_steepest 5 = .ok (.aload_n 0, 1) := by decide +kernel
theorem dX10_steepest_6 : decode cX10_steepest 6 = .ok (.iload_n 1, 1) := by decide +kernel
theorem dX10_steepest_7 : decode cX10_steepest 7 = .ok (.invokevirtual 360, 3) := by decide +kernel
theorem dX10_steepest_10 : decode cX10_steepest 10 = .ok (.ifCond .ne 5, 3) := by decide +kernel
theorem dX10_steepest_15 : decode cX10_steepest 15 = .ok (.bipush 90, 2) := by decide +kernel
theorem dX10_steepest_17 : decode cX10_steepest 17 = .ok (.istore_n 2, 1) := by decide +kernel
theorem dX10_steepest_18 : decode cX10_steepest 18 = .ok (.aload_n 0, 1) := by decide +kernel
theorem dX10_steepest_19 : decode cX10_steepest 19 = .ok (.iconst 0, 1) := by decide +kernel
theorem dX10_steepest_20 : decode cX10_steepest 20 = .ok (.iload_n 1, 1) := by decide +kernel
theorem dX10_steepest_21 : decode cX10_steepest 21 = .ok (.iconst 0, 1) := by decide +kernel
theorem dX10_steepest_22 : decode cX10_steepest 22 = .ok (.iload_n 2, 1) := by decide +kernel
theorem dX10_steepest_23 : decode cX10_steepest 23 = .ok (.invokevirtual 235, 3) := by decide +kernel
theorem dX10_steepest_26 : decode cX10_steepest 26 = .ok (.bipush 100, 2) := by decide +kernel
theorem dX10_steepest_28 : decode cX10_steepest 28 = .ok (.if_icmp .ge 9, 3) := by decide +kernel
theorem dX10_steepest_37 : decode cX10_steepest 37 = .ok (.iload_n 2, 1) := by decide +kernel
theorem dX10_steepest_38 : decode cX10_steepest 38 = .ok (.ireturn, 1) := by decide +kernel
theorem dX10_steepest_31 : decode cX10_steepest 31 = .ok (.iinc 2 (-1), 3) := by decide +kernel
theorem dX10_steepest_34 : decode cX10_steepest 34 = .ok (.goto (-16), 3) := by decide +kernel
theorem dX10_steepest_13 : decode cX10_steepest 13 = .ok (.iconst 0, 1) := by decide +kernel
theorem dX10_steepest_14 : decode cX10_steepest 14 = .ok (.ireturn, 1) := by decide +kernel
theorem dX10_hours_0 : decode cX10_hours 0 = .ok (.aload_n 0, 1) := by decide +kernel
theorem dX10_hours_1 : decode cX10_hours 1 = .ok (.iconst 0, 1) := by decide +kernel
theorem dX10_hours_2 : decode cX10_hours 2 = .ok (.putfield 110, 3) := by decide +kernel
theorem dX10_hours_5 : decode cX10_hours 5 = .ok (.iload_n 1, 1) := by decide +kernel
theorem dX10_hours_6 : decode cX10_hours 6 = .ok (.iconst 1, 1) := by decide +kernel
theorem dX10_hours_7 : decode cX10_hours 7 = .ok (.bipush 24, 2) := by decide +kernel
theorem dX10_hours_9 : decode cX10_hours 9 = .ok (.invokestatic 281, 3) := by decide +kernel
theorem dX10_hours_12 : decode cX10_hours 12 = .ok (.ifCond .eq 17, 3) := by decide +kernel
theorem dX10_hours_15 : decode cX10_hours 15 = .ok (.aload_n 0, 1) := by decide +kernel
theorem dX10_hours_16 : decode cX10_hours 16 = .ok (.getfield 9, 3) := by decide +kernel
theorem dX10_hours_19 : decode cX10_hours 19 = .ok (.iconst 0, 1) := by decide +kernel
theorem dX10_hours_20 : decode cX10_hours 20 = .ok (.iaload, 1) := by decide +kernel
theorem dX10_hours_21 : decode cX10_hours 21 = .ok (.iload_n 1, 1) := by decide +kernel
theorem dX10_hours_22 : decode cX10_hours 22 = .ok (.iadd, 1) := by decide +kernel
theorem dX10_hours_23 : decode cX10_hours 23 = .ok (.sipush 2000, 3) := by decide +kernel
theorem dX10_hours_26 : decode cX10_hours 26 = .ok (.if_icmp .le 9, 3) := by decide +kernel
theorem dX10_hours_35 : decode cX10_hours 35 = .ok (.aload_n 0, 1) := by decide +kernel
theorem dX10_hours_36 : decode cX10_hours 36 = .ok (.invokevirtual 397, 3) := by decide +kernel
theorem dX10_hours_39 : decode cX10_hours 39 = .ok (.aload_n 0, 1) := by decide +kernel
theorem dX10_hours_40 : decode cX10_hours 40 = .ok (.iconst 0, 1) := by decide +kernel
theorem dX10_hours_41 : decode cX10_hours 41 = .ok (.iload_n 1, 1) := by decide +kernel
theorem dX10_hours_42 : decode cX10_hours 42 = .ok (.invokevirtual 400, 3) := by decide +kernel
theorem dX10_hours_45 : decode cX10_hours 45 = .ok (.aload_n 0, 1) := by decide +kernel
theorem dX10_hours_46 : decode cX10_hours 46 = .ok (.getfield 9, 3) := by decide +kernel
theorem dX10_hours_49 : decode cX10_hours 49 = .ok (.iconst 0, 1) := by decide +kernel
theorem dX10_hours_50 : decode cX10_hours 50 = .ok (.iaload, 1) := by decide +kernel
theorem dX10_hours_51 : decode cX10_hours 51 = .ok (.ireturn, 1) := by decide +kernel
theorem dX10_hours_29 : decode cX10_hours 29 = .ok (.aload_n 0, 1) := by decide +kernel
theorem dX10_hours_30 : decode cX10_hours 30 = .ok (.iconst 1, 1) := by decide +kernel
theorem dX10_hours_31 : decode cX10_hours 31 = .ok (.invokevirtual 394, 3) := by decide +kernel
theorem dX10_hours_34 : decode cX10_hours 34 = .ok (.ireturn, 1) := by decide +kernel
theorem dX10_fall_0 : decode cX10_fall 0 = .ok (.aload_n 0, 1) := by decide +kernel
theorem dX10_fall_1 : decode cX10_fall 1 = .ok (.iconst 0, 1) := by decide +kernel
theorem dX10_fall_2 : decode cX10_fall 2 = .ok (.putfield 110, 3) := by decide +kernel
theorem dX10_fall_5 : decode cX10_fall 5 = .ok (.iload_n 1, 1) := by decide +kernel
theorem dX10_fall_6 : decode cX10_fall 6 = .ok (.iconst 0, 1) := by decide +kernel
theorem dX10_fall_7 : decode cX10_fall 7 = .ok (.aload_n 0, 1) := by decide +kernel
theorem dX10_fall_8 : decode cX10_fall 8 = .ok (.getfield 198, 3) := by decide +kernel
theorem dX10_fall_11 : decode cX10_fall 11 = .ok (.iconst 1, 1) := by decide +kernel
theorem dX10_fall_12 : decode cX10_fall 12 = .ok (.isub, 1) := by decide +kernel
theorem dX10_fall_13 : decode cX10_fall 13 = .ok (.invokestatic 281, 3) := by decide +kernel
theorem dX10_fall_16 : decode cX10_fall 16 = .ok (.ifCond .eq 40, 3) := by decide +kernel
theorem dX10_fall_19 : decode cX10_fall 19 = .ok (.iload_n 2, 1) := by decide +kernel
theorem dX10_fall_20 : decode cX10_fall 20 = .ok (.iconst 1, 1) := by decide +kernel
theorem dX10_fall_21 : decode cX10_fall 21 = .ok (.iconst 3, 1) := by decide +kernel
theorem dX10_fall_22 : decode cX10_fall 22 = .ok (.invokestatic 281, 3) := by decide +kernel
theorem dX10_fall_25 : decode cX10_fall 25 = .ok (.ifCond .eq 31, 3) := by decide +kernel
theorem dX10_fall_28 : decode cX10_fall 28 = .ok (.iload_n 2, 1) := by decide +kernel
theorem dX10_fall_29 : decode cX10_fall 29 = .ok (.iconst 3, 1) := by decide +kernel
theorem dX10_fall_30 : decode cX10_fall 30 = .ok (.if_icmp .ge 13, 3) := by decide +kernel
theorem dX10_fall_43 : decode cX10_fall 43 = .ok (.iload_n 2, 1) := by decide +kernel
theorem dX10_fall_44 : decode cX10_fall 44 = .ok (.iconst 3, 1) := by decide +kernel
theorem dX10_fall_45 : decode cX10_fall 45 = .ok (.if_icmp .ne 17, 3) := by decide +kernel
theorem dX10_fall_62 : decode cX10_fall 62 = .ok (.aload_n 0, 1) := by decide +kernel
theorem dX10_fall_63 : decode cX10_fall 63 = .ok (.invokevirtual 397, 3) := by decide +kernel
theorem dX10_fall_66 : decode cX10_fall 66 = .ok (.aload_n 0, 1) := by decide +kernel
theorem dX10_fall_67 : decode cX10_fall 67 = .ok (.iconst 0, 1) := by decide +kernel
theorem dX10_fall_68 : decode cX10_fall 68 = .ok (.iload_n 1, 1) := by decide +kernel
theorem dX10_fall_69 : decode cX10_fall 69 = .ok (.iload_n 2, 1) := by decide +kernel
theorem dX10_fall_70 : decode cX10_fall 70 = .ok (.iload_n 3, 1) := by decide +kernel
theorem dX10_fall_71 : decode cX10_fall 71 = .ok (.aload_n 0, 1) := by decide +kernel
theorem dX10_fall_72 : decode cX10_fall 72 = .ok (.iconst 0, 1) := by decide +kernel
theorem dX10_fall_73 : decode cX10_fall 73 = .ok (.invokevirtual 195, 3) := by decide +kernel
theorem dX10_fall_76 : decode cX10_fall 76 = .ok (.invokevirtual 170, 3) := by decide +kernel
theorem dX10_fall_79 : decode cX10_fall 79 = .ok (.aload_n 0, 1) := by decide +kernel
theorem dX10_fall_80 : decode cX10_fall 80 = .ok (.iconst 0, 1) := by decide +kernel
theorem dX10_fall_81 : decode cX10_fall 81 = .ok (.iload_n 1, 1) := by decide +kernel
theorem dX10_fall_82 : decode cX10_fall 82 = .ok (.invokevirtual 121, 3) := by decide +kernel
theorem dX10_fall_85 : decode cX10_fall 85 = .ok (.ireturn, 1) := by decide +kernel
theorem dX10_fall_48 : decode cX10_fall 48 = .ok (.aload_n 0, 1) := by decide +kernel
theorem dX10_fall_49 : decode cX10_fall 49 = .ok (.iconst 0, 1) := by decide +kernel
theorem dX10_fall_50 : decode cX10_fall 50 = .ok (.invokevirtual 195, 3) := by decide +kernel
theorem dX10_fall_53 : decode cX10_fall 53 = .ok (.ifCond .lt 9, 3) := by decide +kernel
theorem dX10_fall_56 : decode cX10_fall 56 = .ok (.aload_n 0, 1) := by decide +kernel
theorem dX10_fall_57 : decode cX10_fall 57 = .ok (.iconst 1, 1) := by decide +kernel
theorem dX10_fall_58 : decode cX10_fall 58 = .ok (.invokevirtual 394, 3) := by decide +kernel
theorem dX10_fall_61 : decode cX10_fall 61 = .ok (.ireturn, 1) := by decide +kernel
theorem dX10_fall_33 : decode cX10_fall 33 = .ok (.iload_n 3, 1) := by decide +kernel
theorem dX10_fall_34 : decode cX10_fall 34 = .ok (.iconst 1, 1) := by decide +kernel
theorem dX10_fall_35 : decode cX10_fall 35 = .ok (.bipush 50, 2) := by decide +kernel
theorem dX10_fall_37 : decode cX10_fall 37 = .ok (.invokestatic 281, 3) := by decide +kernel
theorem dX10_fall_40 : decode cX10_fall 40 = .ok (.ifCond .eq 16, 3) := by decide +kernel
theorem dX10_dig_0 : decode cX10_dig 0 = .ok (.aload_n 0, 1) := by decide +kernel
theorem dX10_dig_1 : decode cX10_dig 1 = .ok (.iconst 0, 1) := by decide +kernel
theorem dX10_dig_2 : decode cX10_dig 2 = .ok (.putfield 110, 3) := by decide +kernel
theorem dX10_dig_5 : decode cX10_dig 5 = .ok (.iload_n 1, 1) := by decide +kernel
theorem dX10_dig_6 : decode cX10_dig 6 = .ok (.iconst 0, 1) := by decide +kernel
theorem dX10_dig_7 : decode cX10_dig 7 = .ok (.aload_n 0, 1) := by decide +kernel
theorem dX10_dig_8 : decode cX10_dig 8 = .ok (.getfield 198, 3) := by decide +kernel
theorem dX10_dig_11 : decode cX10_dig 11 = .ok (.iconst 1, 1) := by decide +kernel
theorem dX10_dig_12 : decode cX10_dig 12 = .ok (.isub, 1) := by decide +kernel
theorem dX10_dig_13 : decode cX10_dig 13 = .ok (.invokestatic 281, 3) := by decide +kernel
theorem dX10_dig_16 : decode cX10_dig 16 = .ok (.ifCond .eq 12, 3) := by decide +kernel
theorem dX10_dig_19 : decode cX10_dig 19 = .ok (.aload_n 0, 1) := by decide +kernel
theorem dX10_dig_20 : decode cX10_dig 20 = .ok (.iconst 0, 1) := by decide +kernel
theorem dX10_dig_21 : decode cX10_dig 21 = .ok (.iload_n 1, 1) := by decide +kernel
theorem dX10_dig_22 : decode cX10_dig 22 = .ok (.invokevirtual 121, 3) := by decide +kernel
theorem dX10_dig_25 : decode cX10_dig 25 = .ok (.ifCond .ne 9, 3) := by decide +kernel
theorem dX10_dig_34 : decode cX10_dig 34 = .ok (.aload_n 0, 1) := by decide +kernel
theorem dX10_dig_35 : decode cX10_dig 35 = .ok (.invokevirtual 397, 3) := by decide +kernel
theorem dX10_dig_38 : decode cX10_dig 38 = .ok (.aload_n 0, 1) := by decide +kernel
theorem dX10_dig_39 : decode cX10_dig 39 = .ok (.iconst 0, 1) := by decide +kernel
theorem dX10_dig_40 : decode cX10_dig 40 = .ok (.iload_n 1, 1) := by decide +kernel
theorem dX10_dig_41 : decode cX10_dig 41 = .ok (.aload_n 0, 1) := by decide +kernel
theorem dX10_dig_42 : decode cX10_dig 42 = .ok (.iconst 0, 1) := by decide +kernel
theorem dX10_dig_43 : decode cX10_dig 43 = .ok (.iload_n 1, 1) := by decide +kernel
theorem dX10_dig_44 : decode cX10_dig 44 = .ok (.invokevirtual 121, 3) := by decide +kernel
theorem dX10_dig_47 : decode cX10_dig 47 = .ok (.iconst 1, 1) := by decide +kernel
theorem dX10_dig_48 : decode cX10_dig 48 = .ok (.isub, 1) := by decide +kernel
theorem dX10_dig_49 : decode cX10_dig 49 = .ok (.bipush 6, 2) := by decide +kernel
theorem dX10_dig_51 : decode cX10_dig 51 = .ok (.invokevirtual 117, 3) := by decide +kernel
theorem dX10_dig_54 : decode cX10_dig 54 = .ok (.istore_n 2, 1) := by decide +kernel
theorem dX10_dig_55 : decode cX10_dig 55 = .ok (.aload_n 0, 1) := by decide +kernel
theorem dX10_dig_56 : decode cX10_dig 56 = .ok (.iconst 0, 1) := by decide +kernel
theorem dX10_dig_57 : decode cX10_dig 57 = .ok (.iload_n 1, 1) := by decide +kernel
theorem dX10_dig_58 : decode cX10_dig 58 = .ok (.invokevirtual 403, 3) := by decide +kernel
theorem dX10_dig_61 : decode cX10_dig 61 = .ok (.iload_n 2, 1) := by decide +kernel
theorem dX10_dig_62 : decode cX10_dig 62 = .ok (.ireturn, 1) := by decide +kernel
theorem dX10_dig_28 : decode cX10_dig 28 = .ok (.aload_n 0, 1) := by decide +kernel
theorem dX10_dig_29 : decode cX10_dig 29 = .ok (.iconst 1, 1) := by decide +kernel
theorem dX10_dig_30 : decode cX10_dig 30 = .ok (.invokevirtual 394, 3) := by decide +kernel
theorem dX10_dig_33 : decode cX10_dig 33 = .ok (.ireturn, 1) := by decide +kernel
theorem dX10_slide_0 : decode cX10_slide 0 = .ok (.aload_n 0, 1) := by decide +kernel
theorem dX10_slide_1 : decode cX10_slide 1 = .ok (.iconst 0, 1) := by decide +kernel
theorem dX10_slide_2 : decode cX10_slide 2 = .ok (.putfield 110, 3) := by decide +kernel
theorem dX10_slide_5 : decode cX10_slide 5 = .ok (.iload_n 1, 1) := by decide +kernel
theorem dX10_slide_6 : decode cX10_slide 6 = .ok (.iconst 0, 1) := by decide +kernel
theorem dX10_slide_7 : decode cX10_slide 7 = .ok (.aload_n 0, 1) := by decide +kernel
theorem dX10_slide_8 : decode cX10_slide 8 = .ok (.getfield 198, 3) := by decide +kernel
theorem dX10_slide_11 : decode cX10_slide 11 = .ok (.iconst 1, 1) := by decide +kernel
theorem dX10_slide_12 : decode cX10_slide 12 = .ok (.isub, 1) := by decide +kernel
theorem dX10_slide_13 : decode cX10_slide 13 = .ok (.invokestatic 281, 3) := by decide +kernel
theorem dX10_slide_16 : decode cX10_slide 16 = .ok (.ifCond .eq 12, 3) := by decide +kernel
theorem dX10_slide_19 : decode cX10_slide 19 = .ok (.aload_n 0, 1) := by decide +kernel
theorem dX10_slide_20 : decode cX10_slide 20 = .ok (.iconst 0, 1) := by decide +kernel
theorem dX10_slide_21 : decode cX10_slide 21 = .ok (.iload_n 1, 1) := by decide +kernel
theorem dX10_slide_22 : decode cX10_slide 22 = .ok (.invokevirtual 366, 3) := by decide +kernel
theorem dX10_slide_25 : decode cX10_slide 25 = .ok (.ifCond .ne 9, 3) := by decide +kernel
theorem dX10_slide_34 : decode cX10_slide 34 = .ok (.aload_n 0, 1) := by decide +kernel
theorem dX10_slide_35 : decode cX10_slide 35 = .ok (.invokevirtual 397, 3) := by decide +kernel
theorem dX10_slide_38 : decode cX10_slide 38 = .ok (.aload_n 0, 1) := by decide +kernel
theorem dX10_slide_39 : decode cX10_slide 39 = .ok (.iconst 0, 1) := by decide +kernel
theorem dX10_slide_40 : decode cX10_slide 40 = .ok (.iload_n 1, 1) := by decide +kernel
theorem dX10_slide_41 : decode cX10_slide 41 = .ok (.invokevirtual 406, 3) := by decide +kernel
theorem dX10_slide_44 : decode cX10_slide 44 = .ok (.ireturn, 1) := by decide +kernel
theorem dX10_slide_28 : decode cX10_slide 28 = .ok (.aload_n 0, 1) := by decide +kernel
theorem dX10_slide_29 : decode cX10_slide 29 = .ok (.iconst 1, 1) := by decide +kernel
theorem dX10_slide_30 : decode cX10_slide 30 = .ok (.invokevirtual 394, 3) := by decide +kernel
theorem dX10_slide_33 : decode cX10_slide 33 = .ok (.ireturn, 1) := by decide +kernel
theorem dX10_undo_0 : decode cX10_undo 0 = .ok (.aload_n 0, 1) := by decide +kernel
theorem dX10_undo_1 : decode cX10_undo 1 = .ok (.iconst 0, 1) := by decide +kernel
theorem dX10_undo_2 : decode cX10_undo 2 = .ok (.putfield 110, 3) := by decide +kernel
theorem dX10_undo_5 : decode cX10_undo 5 = .ok (.aload_n 0, 1) := by decide +kernel
theorem dX10_undo_6 : decode cX10_undo 6 = .ok (.getfield 342, 3) := by decide +kernel
theorem dX10_undo_9 : decode cX10_undo 9 = .ok (.ifCond .ne 5, 3) := by decide +kernel
theorem dX10_undo_14 : decode cX10_undo 14 = .ok (.aload_n 0, 1) := by decide +kernel
theorem dX10_undo_15 : decode cX10_undo 15 = .ok (.dup, 1) := by decide +kernel
theorem dX10_undo_16 : decode cX10_undo 16 = .ok (.getfield 342, 3) := by decide +kernel
theorem dX10_undo_19 : decode cX10_undo 19 = .ok (.iconst 1, 1) := by decide +kernel
theorem dX10_undo_20 : decode cX10_undo 20 = .ok (.isub, 1) := by decide +kernel
theorem dX10_undo_21 : decode cX10_undo 21 = .ok (.putfield 342, 3) := by decide +kernel
theorem dX10_undo_24 : decode cX10_undo 24 = .ok (.aload_n 0, 1) := by decide +kernel
theorem dX10_undo_25 : decode cX10_undo 25 = .ok (.aload_n 0, 1) := by decide +kernel
theorem dX10_undo_26 : decode cX10_undo 26 = .ok (.getfield 339, 3) := by decide +kernel
theorem dX10_undo_29 : decode cX10_undo 29 = .ok (.aload_n 0, 1) := by decide +kernel
theorem dX10_undo_30 : decode cX10_undo 30 = .ok (.getfield 342, 3) := by decide +kernel
theorem dX10_undo_33 : decode cX10_undo 33 = .ok (.invokestatic 388, 3) := by decide +kernel
theorem dX10_undo_36 : decode cX10_undo 36 = .ok (.iconst 0, 1) := by decide +kernel
theorem dX10_undo_37 : decode cX10_undo 37 = .ok (.sipush 350, 3) := by decide +kernel
theorem dX10_undo_40 : decode cX10_undo 40 = .ok (.invokevirtual 391, 3) := by decide +kernel
theorem dX10_undo_43 : decode cX10_undo 43 = .ok (.aload_n 0, 1) := by decide +kernel
theorem dX10_undo_44 : decode cX10_undo 44 = .ok (.getfield 342, 3) := by decide +kernel
theorem dX10_undo_47 : decode cX10_undo 47 = .ok (.ireturn, 1) := by decide +kernel
theorem dX10_undo_12 : decode cX10_undo 12 = .ok (.iconst (-1), 1) := by decide +kernel
theorem dX10_undo_13 : decode cX10_undo 13 = .ok (.ireturn, 1) := by decide +kernel
theorem dX10_then_0 : decode cX10_then 0 = .ok (.aload_n 0, 1) := by decide +kernel
theorem dX10_then_1 : decode cX10_then 1 = .ok (.iconst 0, 1) := by decide +kernel
theorem dX10_then_2 : decode cX10_then 2 = .ok (.putfield 110, 3) := by decide +kernel
theorem dX10_then_5 : decode cX10_then 5 = .ok (.aload_n 0, 1) := by decide +kernel
theorem dX10_then_6 : decode cX10_then 6 = .ok (.iload_n 1, 1) := by decide +kernel
theorem dX10_then_7 : decode cX10_then 7 = .ok (.invokevirtual 360, 3) := by decide +kernel
theorem dX10_then_10 : decode cX10_then 10 = .ok (.ifCond .eq 33, 3) := by decide +kernel
theorem dX10_then_13 : decode cX10_then 13 = .ok (.aload_n 0, 1) := by decide +kernel
theorem dX10_then_14 : decode cX10_then 14 = .ok (.iload_n 3, 1) := by decide +kernel
theorem dX10_then_15 : decode cX10_then 15 = .ok (.iconst 0, 1) := by decide +kernel
theorem dX10_then_16 : decode cX10_then 16 = .ok (.bipush 6, 2) := by decide +kernel
theorem dX10_then_18 : decode cX10_then 18 = .ok (.invokestatic 281, 3) := by decide +kernel
theorem dX10_then_21 : decode cX10_then 21 = .ok (.iconst 1, 1) := by decide +kernel
theorem dX10_then_22 : decode cX10_then 22 = .ok (.invokevirtual 324, 3) := by decide +kernel
theorem dX10_then_25 : decode cX10_then 25 = .ok (.ifCond .eq 18, 3) := by decide +kernel
theorem dX10_then_28 : decode cX10_then 28 = .ok (.aload_n 0, 1) := by decide +kernel
theorem dX10_then_29 : decode cX10_then 29 = .ok (.iload_n 2, 1) := by decide +kernel
theorem dX10_then_30 : decode cX10_then 30 = .ok (.iconst 0, 1) := by decide +kernel
theorem dX10_then_31 : decode cX10_then 31 = .ok (.bipush 72, 2) := by decide +kernel
theorem dX10_then_33 : decode cX10_then 33 = .ok (.invokestatic 281, 3) := by decide +kernel
theorem dX10_then_36 : decode cX10_then 36 = .ok (.iconst 2, 1) := by decide +kernel
theorem dX10_then_37 : decode cX10_then 37 = .ok (.invokevirtual 324, 3) := by decide +kernel
theorem dX10_then_40 : decode cX10_then 40 = .ok (.ifCond .ne 5, 3) := by decide +kernel
theorem dX10_then_45 : decode cX10_then 45 = .ok (.aload_n 0, 1) := by decide +kernel
theorem dX10_then_46 : decode cX10_then 46 = .ok (.invokevirtual 409, 3) := by decide +kernel
theorem dX10_then_49 : decode cX10_then 49 = .ok (.aload_n 0, 1) := by decide +kernel
theorem dX10_then_50 : decode cX10_then 50 = .ok (.sipush 350, 3) := by decide +kernel
theorem dX10_then_53 : decode cX10_then 53 = .ok (.iload_n 2, 1) := by decide +kernel
theorem dX10_then_54 : decode cX10_then 54 = .ok (.invokevirtual 400, 3) := by decide +kernel
theorem dX10_then_57 : decode cX10_then 57 = .ok (.aload_n 0, 1) := by decide +kernel
theorem dX10_then_58 : decode cX10_then 58 = .ok (.sipush 350, 3) := by decide +kernel
theorem dX10_then_61 : decode cX10_then 61 = .ok (.iload_n 1, 1) := by decide +kernel
theorem dX10_then_62 : decode cX10_then 62 = .ok (.invokevirtual 363, 3) := by decide +kernel
theorem dX10_then_65 : decode cX10_then 65 = .ok (.istore 4, 2) := by decide +kernel
theorem dX10_then_67 : decode cX10_then 67 = .ok (.iload_n 3, 1) := by decide +kernel
theorem dX10_then_68 : decode cX10_then 68 = .ok (.tableswitch 111 0 5 #[40, 50, 60, 70, 79, 88], 40) := by decide +kernel
theorem dX10_then_179 : decode cX10_then 179 = .ok (.aload_n 0, 1) := by decide +kernel
theorem dX10_then_180 : decode cX10_then 180 = .ok (.getfield 9, 3) := by decide +kernel
theorem dX10_then_183 : decode cX10_then 183 = .ok (.sipush 356, 3) := by decide +kernel
theorem dX10_then_186 : decode cX10_then 186 = .ok (.bipush 86, 2) := by decide +kernel
theorem dX10_then_188 : decode cX10_then 188 = .ok (.iload_n 1, 1) := by decide +kernel
theorem dX10_then_189 : decode cX10_then 189 = .ok (.imul, 1) := by decide +kernel
theorem dX10_then_190 : decode cX10_then 190 = .ok (.iadd, 1) := by decide +kernel
theorem dX10_then_191 : decode cX10_then 191 = .ok (.iconst 1, 1) := by decide +kernel
theorem dX10_then_192 : decode cX10_then 192 = .ok (.iadd, 1) := by decide +kernel
theorem dX10_then_193 : decode cX10_then 193 = .ok (.iaload, 1) := by decide +kernel
theorem dX10_then_194 : decode cX10_then 194 = .ok (.ireturn, 1) := by decide +kernel
theorem dX10_then_108 : decode cX10_then 108 = .ok (.aload_n 0, 1) := by decide +kernel
theorem dX10_then_109 : decode cX10_then 109 = .ok (.sipush 350, 3) := by decide +kernel
theorem dX10_then_112 : decode cX10_then 112 = .ok (.iload_n 1, 1) := by decide +kernel
theorem dX10_then_113 : decode cX10_then 113 = .ok (.iconst 3, 1) := by decide +kernel
theorem dX10_then_114 : decode cX10_then 114 = .ok (.invokevirtual 345, 3) := by decide +kernel
theorem dX10_then_117 : decode cX10_then 117 = .ok (.ireturn, 1) := by decide +kernel
theorem dX10_then_118 : decode cX10_then 118 = .ok (.aload_n 0, 1) := by decide +kernel
theorem dX10_then_119 : decode cX10_then 119 = .ok (.sipush 350, 3) := by decide +kernel
theorem dX10_then_122 : decode cX10_then 122 = .ok (.iload_n 1, 1) := by decide +kernel
theorem dX10_then_123 : decode cX10_then 123 = .ok (.iconst 1, 1) := by decide +kernel
theorem dX10_then_124 : decode cX10_then 124 = .ok (.invokevirtual 345, 3) := by decide +kernel
theorem dX10_then_127 : decode cX10_then 127 = .ok (.ireturn, 1) := by decide +kernel
theorem dX10_then_128 : decode cX10_then 128 = .ok (.aload_n 0, 1) := by decide +kernel
theorem dX10_then_129 : decode cX10_then 129 = .ok (.sipush 350, 3) := by decide +kernel
theorem dX10_then_132 : decode cX10_then 132 = .ok (.iload_n 1, 1) := by decide +kernel
theorem dX10_then_133 : decode cX10_then 133 = .ok (.iconst 2, 1) := by decide +kernel
theorem dX10_then_134 : decode cX10_then 134 = .ok (.invokevirtual 345, 3) := by decide +kernel
theorem dX10_then_137 : decode cX10_then 137 = .ok (.ireturn, 1) := by decide +kernel
theorem dX10_then_138 : decode cX10_then 138 = .ok (.aload_n 0, 1) := by decide +kernel
theorem dX10_then_139 : decode cX10_then 139 = .ok (.sipush 350, 3) := by decide +kernel
theorem dX10_then_142 : decode cX10_then 142 = .ok (.iload_n 1, 1) := by decide +kernel
theorem dX10_then_143 : decode cX10_then 143 = .ok (.invokevirtual 121, 3) := by decide +kernel
theorem dX10_then_146 : decode cX10_then 146 = .ok (.ireturn, 1) := by decide +kernel
theorem dX10_then_147 : decode cX10_then 147 = .ok (.aload_n 0, 1) := by decide +kernel
theorem dX10_then_148 : decode cX10_then 148 = .ok (.sipush 350, 3) := by decide +kernel
theorem dX10_then_151 : decode cX10_then 151 = .ok (.iload_n 1, 1) := by decide +kernel
theorem dX10_then_152 : decode cX10_then 152 = .ok (.invokevirtual 238, 3) := by decide +kernel
theorem dX10_then_155 : decode cX10_then 155 = .ok (.ireturn, 1) := by decide +kernel
theorem dX10_then_156 : decode cX10_then 156 = .ok (.iload 4, 2) := by decide +kernel
theorem dX10_then_158 : decode cX10_then 158 = .ok (.iconst (-1), 1) := by decide +kernel
theorem dX10_then_159 : decode cX10_then 159 = .ok (.if_icmp .ne 7, 3) := by decide +kernel
theorem dX10_then_166 : decode cX10_then 166 = .ok (.aload_n 0, 1) := by decide +kernel
theorem dX10_then_167 : decode cX10_then 167 = .ok (.sipush 350, 3) := by decide +kernel
theorem dX10_then_170 : decode cX10_then 170 = .ok (.iload_n 1, 1) := by decide +kernel
theorem dX10_then_171 : decode cX10_then 171 = .ok (.iload 4, 2) := by decide +kernel
theorem dX10_then_173 : decode cX10_then 173 = .ok (.bipush 6, 2) := by decide +kernel
theorem dX10_then_175 : decode cX10_then 175 = .ok (.invokevirtual 117, 3) := by decide +kernel
theorem dX10_then_178 : decode cX10_then 178 = .ok (.ireturn, 1) := by decide +kernel
theorem dX10_then_162 : decode cX10_then 162 = .ok (.iconst (-1), 1) := by decide +kernel
theorem dX10_then_163 : decode cX10_then 163 = .ok (.goto 15, 3) := by decide +kernel
theorem dX10_then_43 : decode cX10_then 43 = .ok (.iconst 0, 1) := by decide +kernel
theorem dX10_then_44 : decode cX10_then 44 = .ok (.ireturn, 1) := by decide +kernel
end
