section
-- 93.words.lean.txt
-- words of refb
theorem q_1881 : (Jvm.Cond.methodLink "SnowRecorderModel" (400 : Nat) ({ cls := "SnowRecorderModel", name := "goes", desc := "(II)V" } : Jvm.MethodName)) ∈ AW := AW_m8 201 (by decide +kernel) (by decide +kernel)
theorem q_1883 : (Jvm.Cond.instanceMethod ({ cls := "SnowRecorderModel", name := "goes", desc := "(II)V" } : Jvm.MethodName)) ∈ AW := AW_m8 203 (by decide +kernel) (by decide +kernel)
theorem q_1884 : (Jvm.Cond.code ({ cls := "SnowRecorderModel", name := "goes", desc := "(II)V" } : Jvm.MethodName) prog_12_method_36_code (4 : Nat) (Option.none : Option Jvm.ClassFile.FieldType)) ∈ AW := AW_m8 204 (by decide +kernel) (by decide +kernel)
theorem q_1980 : (Jvm.Cond.methodLink "SnowRecorderModel" (409 : Nat) ({ cls := "SnowRecorderModel", name := "tries", desc := "()V" } : Jvm.MethodName)) ∈ AW := AW_m9 60 (by decide +kernel) (by decide +kernel)
theorem q_1982 : (Jvm.Cond.instanceMethod ({ cls := "SnowRecorderModel", name := "tries", desc := "()V" } : Jvm.MethodName)) ∈ AW := AW_m9 62 (by decide +kernel) (by decide +kernel)
theorem q_1983 : (Jvm.Cond.code ({ cls := "SnowRecorderModel", name := "tries", desc := "()V" } : Jvm.MethodName) prog_12_method_89_code (1 : Nat) (Option.none : Option Jvm.ClassFile.FieldType)) ∈ AW := AW_m9 63 (by decide +kernel) (by decide +kernel)
theorem q_2000 : (Jvm.Cond.methodLink "SnowRecorderModel" (415 : Nat) ({ cls := "SnowRecorderModel", name := "extra", desc := "(I)I" } : Jvm.MethodName)) ∈ AW := AW_m9 80 (by decide +kernel) (by decide +kernel)
theorem q_2001 : (Jvm.Cond.static ({ cls := "SnowRecorderModel", name := "extra", desc := "(I)I" } : Jvm.MethodName)) ∈ AW := AW_m9 81 (by decide +kernel) (by decide +kernel)
theorem q_2002 : (Jvm.Cond.code ({ cls := "SnowRecorderModel", name := "extra", desc := "(I)I" } : Jvm.MethodName) prog_12_method_94_code (1 : Nat) (Option.some Jvm.ClassFile.FieldType.int)) ∈ AW := AW_m9 82 (by decide +kernel) (by decide +kernel)
theorem s_104 : Cond.selects "SnowRecorderModel" ({ cls := "SnowRecorderModel", name := "tries", desc := "()V" } : Jvm.MethodName) ({ cls := "SnowRecorderModel", name := "tries", desc := "()V" } : Jvm.MethodName) ∈ AW := AW_m 104 (by decide +kernel) (by decide +kernel)
theorem s_86 : Cond.selects "SnowRecorderModel" ({ cls := "SnowRecorderModel", name := "goes", desc := "(II)V" } : Jvm.MethodName) ({ cls := "SnowRecorderModel", name := "goes", desc := "(II)V" } : Jvm.MethodName) ∈ AW := AW_m 86 (by decide +kernel) (by decide +kernel)
theorem hd_yX10_extra : yX10_extra.cls ≠ "java/lang/invoke/MethodHandle" ∧ yX10_extra.cls ≠ "java/lang/invoke/VarHandle" ∧ (parseMethodDescriptor yX10_extra.desc).map (fun d => d.parameters.length) = some 1 := by decide +kernel
theorem hd_yX10_tries : yX10_tries.cls ≠ "java/lang/invoke/MethodHandle" ∧ yX10_tries.cls ≠ "java/lang/invoke/VarHandle" ∧ (parseMethodDescriptor yX10_tries.desc).map (fun d => d.parameters.length) = some 0 := by decide +kernel
theorem hd_yX10_goes : yX10_goes.cls ≠ "java/lang/invoke/MethodHandle" ∧ yX10_goes.cls ≠ "java/lang/invoke/VarHandle" ∧ (parseMethodDescriptor yX10_goes.desc).map (fun d => d.parameters.length) = some 2 := by decide +kernel
theorem ms_yX10_extra : zWs yX10_extra cX10_extra 1 (some .int) := ⟨q_2001, q_15, q_2002⟩
theorem mv_yX10_tries : zWv yX10_tries cX10_tries 1 none := ⟨q_1982, s_104, q_15, q_1983⟩
theorem mv_yX10_goes : zWv yX10_goes cX10_goes 4 none := ⟨q_1883, s_86, q_15, q_1884⟩
end
section
-- 94.dec.lean.txt
-- decode rows of refb
theorem dX10_extra_0 : decode cX10_extra 0 = .ok (.iload_n 0, 1) := by decide +kernel
theorem dX10_extra_1 : decode cX10_extra 1 = .ok (.bipush 10, 2) := by decide +kernel
theorem dX10_extra_3 : decode cX10_extra 3 = .ok (.invokestatic 143, 3) := by decide +kernel
theorem dX10_extra_6 : decode cX10_extra 6 = .ok (.iconst 2, 1) := by decide +kernel
theorem dX10_extra_7 : decode cX10_extra 7 = .ok (.iload_n 0, 1) := by decide +kernel
theorem dX10_extra_8 : decode cX10_extra 8 = .ok (.bipush 10, 2) := by decide +kernel
theorem dX10_extra_10 : decode cX10_extra 10 = .ok (.isub, 1) := by decide +kernel
theorem dX10_extra_11 : decode cX10_extra 11 = .ok (.iconst 0, 1) := by decide +kernel
theorem dX10_extra_12 : decode cX10_extra 12 = .ok (.invokestatic 128, 3) := by decide +kernel
theorem dX10_extra_15 : decode cX10_extra 15 = .ok (.bipush 10, 2) := by decide +kernel
theorem dX10_extra_17 : decode cX10_extra 17 = .ok (.invokestatic 143, 3) := by decide +kernel
theorem dX10_extra_20 : decode cX10_extra 20 = .ok (.imul, 1) := by decide +kernel
theorem dX10_extra_21 : decode cX10_extra 21 = .ok (.iadd, 1) := by decide +kernel
theorem dX10_extra_22 : decode cX10_extra 22 = .ok (.iconst 4, 1) := by decide +kernel
theorem dX10_extra_23 : decode cX10_extra 23 = .ok (.iload_n 0, 1) := by decide +kernel
theorem dX10_extra_24 : decode cX10_extra 24 = .ok (.bipush 20, 2) := by decide +kernel
theorem dX10_extra_26 : decode cX10_extra 26 = .ok (.isub, 1) := by decide +kernel
theorem dX10_extra_27 : decode cX10_extra 27 = .ok (.iconst 0, 1) := by decide +kernel
theorem dX10_extra_28 : decode cX10_extra 28 = .ok (.invokestatic 128, 3) := by decide +kernel
theorem dX10_extra_31 : decode cX10_extra 31 = .ok (.imul, 1) := by decide +kernel
theorem dX10_extra_32 : decode cX10_extra 32 = .ok (.iadd, 1) := by decide +kernel
theorem dX10_extra_33 : decode cX10_extra 33 = .ok (.ireturn, 1) := by decide +kernel
theorem dX10_stands_0 : decode cX10_stands 0 = .ok (.aload_n 0, 1) := by decide +kernel
theorem dX10_stands_1 : decode cX10_stands 1 = .ok (.iconst 0, 1) := by decide +kernel
theorem dX10_stands_2 : decode cX10_stands 2 = .ok (.putfield 110, 3) := by decide +kernel
theorem dX10_stands_5 : decode cX10_stands 5 = .ok (.aload_n 0, 1) := by decide +kernel
theorem dX10_stands_6 : decode cX10_stands 6 = .ok (.iload_n 1, 1) := by decide +kernel
theorem dX10_stands_7 : decode cX10_stands 7 = .ok (.invokevirtual 360, 3) := by decide +kernel
theorem dX10_stands_10 : decode cX10_stands 10 = .ok (.ifCond .eq 17, 3) := by decide +kernel
theorem dX10_stands_13 : decode cX10_stands 13 = .ok (.aload_n 0, 1) := by decide +kernel
theorem dX10_stands_14 : decode cX10_stands 14 = .ok (.iload_n 2, 1) := by decide +kernel
theorem dX10_stands_15 : decode cX10_stands 15 = .ok (.iconst 0, 1) := by decide +kernel
theorem dX10_stands_16 : decode cX10_stands 16 = .ok (.iconst 1, 1) := by decide +kernel
theorem dX10_stands_17 : decode cX10_stands 17 = .ok (.invokestatic 281, 3) := by decide +kernel
theorem dX10_stands_20 : decode cX10_stands 20 = .ok (.iconst 1, 1) := by decide +kernel
theorem dX10_stands_21 : decode cX10_stands 21 = .ok (.invokevirtual 324, 3) := by decide +kernel
theorem dX10_stands_24 : decode cX10_stands 24 = .ok (.ifCond .ne 5, 3) := by decide +kernel
theorem dX10_stands_29 : decode cX10_stands 29 = .ok (.iconst 0, 1) := by decide +kernel
theorem dX10_stands_30 : decode cX10_stands 30 = .ok (.istore_n 3, 1) := by decide +kernel
theorem dX10_stands_31 : decode cX10_stands 31 = .ok (.iload_n 3, 1) := by decide +kernel
theorem dX10_stands_32 : decode cX10_stands 32 = .ok (.bipush 30, 2) := by decide +kernel
theorem dX10_stands_34 : decode cX10_stands 34 = .ok (.if_icmp .gt 63, 3) := by decide +kernel
theorem dX10_stands_97 : decode cX10_stands 97 = .ok (.iconst (-1), 1) := by decide +kernel
theorem dX10_stands_98 : decode cX10_stands 98 = .ok (.ireturn, 1) := by decide +kernel
theorem dX10_stands_37 : decode cX10_stands 37 = .ok (.iconst 0, 1) := by decide +kernel
theorem dX10_stands_38 : decode cX10_stands 38 = .ok (.istore 4, 2) := by decide +kernel
theorem dX10_stands_40 : decode cX10_stands 40 = .ok (.iload 4, 2) := by decide +kernel
theorem dX10_stands_42 : decode cX10_stands 42 = .ok (.aload_n 0, 1) := by decide +kernel
theorem dX10_stands_43 : decode cX10_stands 43 = .ok (.iconst 0, 1) := by decide +kernel
theorem dX10_stands_44 : decode cX10_stands 44 = .ok (.iload_n 1, 1) := by decide +kernel
theorem dX10_stands_45 : decode cX10_stands 45 = .ok (.invokevirtual 121, 3) := by decide +kernel
theorem dX10_stands_48 : decode cX10_stands 48 = .ok (.if_icmp .ge 43, 3) := by decide +kernel
theorem dX10_stands_91 : decode cX10_stands 91 = .ok (.iinc 3 1, 3) := by decide +kernel
theorem dX10_stands_94 : decode cX10_stands 94 = .ok (.goto (-63), 3) := by decide +kernel
theorem dX10_stands_51 : decode cX10_stands 51 = .ok (.aload_n 0, 1) := by decide +kernel
theorem dX10_stands_52 : decode cX10_stands 52 = .ok (.iconst 0, 1) := by decide +kernel
theorem dX10_stands_53 : decode cX10_stands 53 = .ok (.iload_n 1, 1) := by decide +kernel
theorem dX10_stands_54 : decode cX10_stands 54 = .ok (.iload 4, 2) := by decide +kernel
theorem dX10_stands_56 : decode cX10_stands 56 = .ok (.iload_n 3, 1) := by decide +kernel
theorem dX10_stands_57 : decode cX10_stands 57 = .ok (.invokestatic 415, 3) := by decide +kernel
theorem dX10_stands_60 : decode cX10_stands 60 = .ok (.aload_n 0, 1) := by decide +kernel
theorem dX10_stands_61 : decode cX10_stands 61 = .ok (.getfield 13, 3) := by decide +kernel
theorem dX10_stands_64 : decode cX10_stands 64 = .ok (.iload_n 1, 1) := by decide +kernel
theorem dX10_stands_65 : decode cX10_stands 65 = .ok (.iaload, 1) := by decide +kernel
theorem dX10_stands_66 : decode cX10_stands 66 = .ok (.invokevirtual 229, 3) := by decide +kernel
theorem dX10_stands_69 : decode cX10_stands 69 = .ok (.bipush 100, 2) := by decide +kernel
theorem dX10_stands_71 : decode cX10_stands 71 = .ok (.if_icmp .ge 14, 3) := by decide +kernel
theorem dX10_stands_85 : decode cX10_stands 85 = .ok (.iinc 4 1, 3) := by decide +kernel
theorem dX10_stands_88 : decode cX10_stands 88 = .ok (.goto (-48), 3) := by decide +kernel
theorem dX10_stands_74 : decode cX10_stands 74 = .ok (.iload_n 2, 1) := by decide +kernel
theorem dX10_stands_75 : decode cX10_stands 75 = .ok (.ifCond .ne 7, 3) := by decide +kernel
theorem dX10_stands_82 : decode cX10_stands 82 = .ok (.iload 4, 2) := by decide +kernel
theorem dX10_stands_84 : decode cX10_stands 84 = .ok (.ireturn, 1) := by decide +kernel
theorem dX10_stands_78 : decode cX10_stands 78 = .ok (.iload_n 3, 1) := by decide +kernel
theorem dX10_stands_79 : decode cX10_stands 79 = .ok (.goto 5, 3) := by decide +kernel
theorem dX10_stands_27 : decode cX10_stands 27 = .ok (.iconst 0, 1) := by decide +kernel
theorem dX10_stands_28 : decode cX10_stands 28 = .ok (.ireturn, 1) := by decide +kernel
theorem dX10_toLoad_0 : decode cX10_toLoad 0 = .ok (.aload_n 0, 1) := by decide +kernel
theorem dX10_toLoad_1 : decode cX10_toLoad 1 = .ok (.iconst 0, 1) := by decide +kernel
theorem dX10_toLoad_2 : decode cX10_toLoad 2 = .ok (.putfield 110, 3) := by decide +kernel
theorem dX10_toLoad_5 : decode cX10_toLoad 5 = .ok (.aload_n 0, 1) := by decide +kernel
theorem dX10_toLoad_6 : decode cX10_toLoad 6 = .ok (.iload_n 1, 1) := by decide +kernel
theorem dX10_toLoad_7 : decode cX10_toLoad 7 = .ok (.invokevirtual 360, 3) := by decide +kernel
theorem dX10_toLoad_10 : decode cX10_toLoad 10 = .ok (.ifCond .ne 5, 3) := by decide +kernel
theorem dX10_toLoad_15 : decode cX10_toLoad 15 = .ok (.iconst 1, 1) := by decide +kernel
theorem dX10_toLoad_16 : decode cX10_toLoad 16 = .ok (.istore_n 2, 1) := by decide +kernel
theorem dX10_toLoad_17 : decode cX10_toLoad 17 = .ok (.iload_n 2, 1) := by decide +kernel
theorem dX10_toLoad_18 : decode cX10_toLoad 18 = .ok (.bipush 99, 2) := by decide +kernel
theorem dX10_toLoad_20 : decode cX10_toLoad 20 = .ok (.if_icmp .gt 29, 3) := by decide +kernel
theorem dX10_toLoad_49 : decode cX10_toLoad 49 = .ok (.iconst (-1), 1) := by decide +kernel
theorem dX10_toLoad_50 : decode cX10_toLoad 50 = .ok (.ireturn, 1) := by decide +kernel
theorem dX10_toLoad_23 : decode cX10_toLoad 23 = .ok (.aload_n 0, 1) := by decide +kernel
theorem dX10_toLoad_24 : decode cX10_toLoad 24 = .ok (.iconst 0, 1) := by decide +kernel
theorem dX10_toLoad_25 : decode cX10_toLoad 25 = .ok (.iload_n 1, 1) := by decide +kernel
theorem dX10_toLoad_26 : decode cX10_toLoad 26 = .ok (.iload_n 2, 1) := by decide +kernel
theorem dX10_toLoad_27 : decode cX10_toLoad 27 = .ok (.aload_n 0, 1) := by decide +kernel
theorem dX10_toLoad_28 : decode cX10_toLoad 28 = .ok (.getfield 13, 3) := by decide +kernel
theorem dX10_toLoad_31 : decode cX10_toLoad 31 = .ok (.iload_n 1, 1) := by decide +kernel
theorem dX10_toLoad_32 : decode cX10_toLoad 32 = .ok (.iaload, 1) := by decide +kernel
theorem dX10_toLoad_33 : decode cX10_toLoad 33 = .ok (.invokevirtual 235, 3) := by decide +kernel
theorem dX10_toLoad_36 : decode cX10_toLoad 36 = .ok (.bipush 100, 2) := by decide +kernel
theorem dX10_toLoad_38 : decode cX10_toLoad 38 = .ok (.if_icmp .ge 5, 3) := by decide +kernel
theorem dX10_toLoad_43 : decode cX10_toLoad 43 = .ok (.iinc 2 1, 3) := by decide +kernel
theorem dX10_toLoad_46 : decode cX10_toLoad 46 = .ok (.goto (-29), 3) := by decide +kernel
theorem dX10_toLoad_41 : decode cX10_toLoad 41 = .ok (.iload_n 2, 1) := by decide +kernel
theorem dX10_toLoad_42 : decode cX10_toLoad 42 = .ok (.ireturn, 1) := by decide +kernel
theorem dX10_toLoad_13 : decode cX10_toLoad 13 = .ok (.iconst 0, 1) := by decide +kernel
theorem dX10_toLoad_14 : decode cX10_toLoad 14 = .ok (.ireturn, 1) := by decide +kernel
theorem dX10_steepest_0 : decode cX10_steepest 0 = .ok (.aload_n 0, 1) := by decide +kernel
theorem dX10_steepest_1 : decode cX10_steepest 1 = .ok (.iconst 0, 1) := by decide +kernel
theorem dX10_steepest_2 : decode cX10_steepest 2 = .ok (.putfield 110, 3) := by decide +kernel
theorem dX10_steepest_5 : decode cX10_steepest 5 = .ok (.aload_n 0, 1) := by decide +kernel
theorem dX10_steepest_6 : decode cX10_steepest 6 = .ok (.iload_n 1, 1) := by decide +kernel
theorem dX10_steepest_7 : decode cX10_steepest 7 = .ok (.invokevirtual 360, 3) := by decide +kernel
theorem dX10_steepest_10 : decode cX10_steepest 10 = .ok (.ifCond .ne 5, 3) := by decide +kernel
theorem dX10_steepest_15 : decode cX10_steepest 15 = .ok (.bipush 90, 2) := by decide +kernel
theorem dX10_steepest_17 : decode cX10_steepest 17 = .ok (.istore_n 2, 1) := by decide +kernel
theorem dX10_steepest_18 : decode cX10_steepest 18 = .ok (.aload_n 0, 1) := by decide +kernel
theorem dX10_steepest_19 : decode cX10_steepest 19 = .ok (.iconst 0, 1) := by decide +kernel
theorem dX10_steepest_20 : decode cX10_steepest 20 = .ok (.iload_n 1, 1) := by decide +kernel
theorem dX10_steepest_21 : decode cX10_steepest 21 = .ok (.iconst 0, 1) := by decide +kernel
theorem dX10_steepest_22 : decode cX10_steepest 22 = .ok (.iload_n 2, 1) := by decide +kernel
theorem dX10_steepest_23 : decode cX10_steepest 23 = .ok (.invokevirtual 235, 3) := by decide +kernel
theorem dX10_steepest_26 : decode cX10_steepest 26 = .ok (.bipush 100, 2) := by decide +kernel
theorem dX10_steepest_28 : decode cX10_steepest 28 = .ok (.if_icmp .ge 9, 3) := by decide +kernel
theorem dX10_steepest_37 : decode cX10_steepest 37 = .ok (.iload_n 2, 1) := by decide +kernel
theorem dX10_steepest_38 : decode cX10_steepest 38 = .ok (.ireturn, 1) := by decide +kernel
theorem dX10_steepest_31 : decode cX10_steepest 31 = .ok (.iinc 2 (-1), 3) := by decide +kernel
theorem dX10_steepest_34 : decode cX10_steepest 34 = .ok (.goto (-16), 3) := by decide +kernel
theorem dX10_steepest_13 : decode cX10_steepest 13 = .ok (.iconst 0, 1) := by decide +kernel
theorem dX10_steepest_14 : decode cX10_steepest 14 = .ok (.ireturn, 1) := by decide +kernel
theorem dX10_then_0 : decode cX10_then 0 = .ok (.aload_n 0, 1) := by decide +kernel
theorem dX10_then_1 : decode cX10_then 1 = .ok (.iconst 0, 1) := by decide +kernel
theorem dX10_then_2 : decode cX10_then 2 = .ok (.putfield 110, 3) := by decide +kernel
theorem dX10_then_5 : decode cX10_then 5 = .ok (.aload_n 0, 1) := by decide +kernel
theorem dX10_then_6 : decode cX10_then 6 = .ok (.iload_n 1, 1) := by decide +kernel
theorem dX10_then_7 : decode cX10_then 7 = .ok (.invokevirtual 360, 3) := by decide +kernel
theorem dX10_then_10 : decode cX10_then 10 = .ok (.ifCond .eq 33, 3) := by decide +kernel
theorem dX10_then_13 : decode cX10_then 13 = .ok (.aload_n 0, 1) := by decide +kernel
theorem dX10_then_14 : decode cX10_then 14 = .ok (.iload_n 3, 1) := by decide +kernel
theorem dX10_then_15 : decode cX10_then 15 = .ok (.iconst 0, 1) := by decide +kernel
theorem dX10_then_16 : decode cX10_then 16 = .ok (.bipush 6, 2) := by decide +kernel
theorem dX10_then_18 : decode cX10_then 18 = .ok (.invokestatic 281, 3) := by decide +kernel
theorem dX10_then_21 : decode cX10_then 21 = .ok (.iconst 1, 1) := by decide +kernel
theorem dX10_then_22 : decode cX10_then 22 = .ok (.invokevirtual 324, 3) := by decide +kernel
theorem dX10_then_25 : decode cX10_then 25 = .ok (.ifCond .eq 18, 3) := by decide +kernel
theorem dX10_then_28 : decode cX10_then 28 = .ok (.aload_n 0, 1) := by decide +kernel
theorem dX10_then_29 : decode cX10_then 29 = .ok (.iload_n 2, 1) := by decide +kernel
theorem dX10_then_30 : decode cX10_then 30 = .ok (.iconst 0, 1) := by decide +kernel
theorem dX10_then_31 : decode cX10_then 31 = .ok (.bipush 72, 2) := by decide +kernel
theorem dX10_then_33 : decode cX10_then 33 = .ok (.invokestatic 281, 3) := by decide +kernel
theorem dX10_then_36 : decode cX10_then 36 = .ok (.iconst 2, 1) := by decide +kernel
theorem dX10_then_37 : decode cX10_then 37 = .ok (.invokevirtual 324, 3) := by decide +kernel
theorem dX10_then_40 : decode cX10_then 40 = .ok (.ifCond .ne 5, 3) := by decide +kernel
theorem dX10_then_45 : decode cX10_then 45 = .ok (.aload_n 0, 1) := by decide +kernel
theorem dX10_then_46 : decode cX10_then 46 = .ok (.invokevirtual 409, 3) := by decide +kernel
theorem dX10_then_49 : decode cX10_then 49 = .ok (.aload_n 0, 1) := by decide +kernel
theorem dX10_then_50 : decode cX10_then 50 = .ok (.sipush 350, 3) := by decide +kernel
theorem dX10_then_53 : decode cX10_then 53 = .ok (.iload_n 2, 1) := by decide +kernel
theorem dX10_then_54 : decode cX10_then 54 = .ok (.invokevirtual 400, 3) := by decide +kernel
theorem dX10_then_57 : decode cX10_then 57 = .ok (.aload_n 0, 1) := by decide +kernel
theorem dX10_then_58 : decode cX10_then 58 = .ok (.sipush 350, 3) := by decide +kernel
theorem dX10_then_61 : decode cX10_then 61 = .ok (.iload_n 1, 1) := by decide +kernel
theorem dX10_then_62 : decode cX10_then 62 = .ok (.invokevirtual 363, 3) := by decide +kernel
theorem dX10_then_65 : decode cX10_then 65 = .ok (.istore 4, 2) := by decide +kernel
theorem dX10_then_67 : decode cX10_then 67 = .ok (.iload_n 3, 1) := by decide +kernel
theorem dX10_then_68 : decode cX10_then 68 = .ok (.tableswitch 111 0 5 #[40, 50, 60, 70, 79, 88], 40) := by decide +kernel
theorem dX10_then_179 : decode cX10_then 179 = .ok (.aload_n 0, 1) := by decide +kernel
theorem dX10_then_180 : decode cX10_then 180 = .ok (.getfield 9, 3) := by decide +kernel
theorem dX10_then_183 : decode cX10_then 183 = .ok (.sipush 356, 3) := by decide +kernel
theorem dX10_then_186 : decode cX10_then 186 = .ok (.bipush 86, 2) := by decide +kernel
theorem dX10_then_188 : decode cX10_then 188 = .ok (.iload_n 1, 1) := by decide +kernel
theorem dX10_then_189 : decode cX10_then 189 = .ok (.imul, 1) := by decide +kernel
theorem dX10_then_190 : decode cX10_then 190 = .ok (.iadd, 1) := by decide +kernel
theorem dX10_then_191 : decode cX10_then 191 = .ok (.iconst 1, 1) := by decide +kernel
theorem dX10_then_192 : decode cX10_then 192 = .ok (.iadd, 1) := by decide +kernel
theorem dX10_then_193 : decode cX10_then 193 = .ok (.iaload, 1) := by decide +kernel
theorem dX10_then_194 : decode cX10_then 194 = .ok (.ireturn, 1) := by decide +kernel
theorem dX10_then_108 : decode cX10_then 108 = .ok (.aload_n 0, 1) := by decide +kernel
theorem dX10_then_109 : decode cX10_then 109 = .ok (.sipush 350, 3) := by decide +kernel
theorem dX10_then_112 : decode cX10_then 112 = .ok (.iload_n 1, 1) := by decide +kernel
theorem dX10_then_113 : decode cX10_then 113 = .ok (.iconst 3, 1) := by decide +kernel
theorem dX10_then_114 : decode cX10_then 114 = .ok (.invokevirtual 345, 3) := by decide +kernel
theorem dX10_then_117 : decode cX10_then 117 = .ok (.ireturn, 1) := by decide +kernel
theorem dX10_then_118 : decode cX10_then 118 = .ok (.aload_n 0, 1) := by decide +kernel
theorem dX10_then_119 : decode cX10_then 119 = .ok (.sipush 350, 3) := by decide +kernel
theorem dX10_then_122 : decode cX10_then 122 = .ok (.iload_n 1, 1) := by decide +kernel
theorem dX10_then_123 : decode cX10_then 123 = .ok (.iconst 1, 1) := by decide +kernel
theorem dX10_then_124 : decode cX10_then 124 = .ok (.invokevirtual 345, 3) := by decide +kernel
theorem dX10_then_127 : decode cX10_then 127 = .ok (.ireturn, 1) := by decide +kernel
theorem dX10_then_128 : decode cX10_then 128 = .ok (.aload_n 0, 1) := by decide +kernel
theorem dX10_then_129 : decode cX10_then 129 = .ok (.sipush 350, 3) := by decide +kernel
theorem dX10_then_132 : decode cX10_then 132 = .ok (.iload_n 1, 1) := by decide +kernel
theorem dX10_then_133 : decode cX10_then 133 = .ok (.iconst 2, 1) := by decide +kernel
theorem dX10_then_134 : decode cX10_then 134 = .ok (.invokevirtual 345, 3) := by decide +kernel
theorem dX10_then_137 : decode cX10_then 137 = .ok (.ireturn, 1) := by decide +kernel
theorem dX10_then_138 : decode cX10_then 138 = .ok (.aload_n 0, 1) := by decide +kernel
theorem dX10_then_139 : decode cX10_then 139 = .ok (.sipush 350, 3) := by decide +kernel
theorem dX10_then_142 : decode cX10_then 142 = .ok (.iload_n 1, 1) := by decide +kernel
theorem dX10_then_143 : decode cX10_then 143 = .ok (.invokevirtual 121, 3) := by decide +kernel
theorem dX10_then_146 : decode cX10_then 146 = .ok (.ireturn, 1) := by decide +kernel
theorem dX10_then_147 : decode cX10_then 147 = .ok (.aload_n 0, 1) := by decide +kernel
theorem dX10_then_148 : decode cX10_then 148 = .ok (.sipush 350, 3) := by decide +kernel
theorem dX10_then_151 : decode cX10_then 151 = .ok (.iload_n 1, 1) := by decide +kernel
theorem dX10_then_152 : decode cX10_then 152 = .ok (.invokevirtual 238, 3) := by decide +kernel
theorem dX10_then_155 : decode cX10_then 155 = .ok (.ireturn, 1) := by decide +kernel
theorem dX10_then_156 : decode cX10_then 156 = .ok (.iload 4, 2) := by decide +kernel
theorem dX10_then_158 : decode cX10_then 158 = .ok (.iconst (-1), 1) := by decide +kernel
theorem dX10_then_159 : decode cX10_then 159 = .ok (.if_icmp .ne 7, 3) := by decide +kernel
theorem dX10_then_166 : decode cX10_then 166 = .ok (.aload_n 0, 1) := by decide +kernel
theorem dX10_then_167 : decode cX10_then 167 = .ok (.sipush 350, 3) := by decide +kernel
theorem dX10_then_170 : decode cX10_then 170 = .ok (.iload_n 1, 1) := by decide +kernel
theorem dX10_then_171 : decode cX10_then 171 = .ok (.iload 4, 2) := by decide +kernel
theorem dX10_then_173 : decode cX10_then 173 = .ok (.bipush 6, 2) := by decide +kernel
theorem dX10_then_175 : decode cX10_then 175 = .ok (.invokevirtual 117, 3) := by decide +kernel
theorem dX10_then_178 : decode cX10_then 178 = .ok (.ireturn, 1) := by decide +kernel
theorem dX10_then_162 : decode cX10_then 162 = .ok (.iconst (-1), 1) := by decide +kernel
theorem dX10_then_163 : decode cX10_then 163 = .ok (.goto 15, 3) := by decide +kernel
theorem dX10_then_43 : decode cX10_then 43 = .ok (.iconst 0, 1) := by decide +kernel
theorem dX10_then_44 : decode cX10_then 44 = .ok (.ireturn, 1) := by decide +kernel
end
section
-- 95.refb.lean.txt
theorem okW.slope0 {r r' : Nat → Int} {b s p : Nat} {x : Int} (h : okW r b x) (hs : s < 4) (hp : b + 6 + 86 * s = p) (hS : okS r' p (mB (r b + x)) (eB (r b + x))) (he : ∀ j, b ≤ j → j < b + 350 → j < p ∨ p + 86 ≤ j → j ≠ b + 2 → j ≠ b + 3 → j ≠ b + 4 → r' j = r j) : okW r' b x := by
  obtain ⟨h1, h2, h3, h4⟩ := h
  have h0 : r' b = r b := he b (by omega) (by omega) (by omega) (by omega) (by omega) (by omega)
  have hn : r' (b + 1) = r (b + 1) := he (b + 1) (by omega) (by omega) (by omega) (by omega) (by omega) (by omega)
  have h5 : r' (b + 5) = r (b + 5) := he (b + 5) (by omega) (by omega) (by omega) (by omega) (by omega) (by omega)
  refine ⟨fun k hk => ?_, by rw [h0]; exact h2, by rw [h0, hn]; exact h3, by rw [h5]; exact h4⟩
  rw [h0]
  by_cases e : k = s
  · subst e; rw [hp]; exact hS
  · exact (h1 k hk).ext (fun j a1 a2 => he j (by omega) (by omega) (by omega) (by omega) (by omega) (by omega))

set_option maxRecDepth 100000 in
set_option maxHeartbeats 4000000 in
theorem c_X10_extra (l : Launch) (D : va_G) (A : Nat → Prop) (cs : Nat → ClassId) (tt : Nat) (N : Nat) (ad : Nat → Nat) (g : Nat → va_E) (z : Int) (hz : 0 ≤ z ∧ z ≤ 30) : zM l yX10_extra cX10_extra 1 (some .int) ({ frames := 2, cells := 0, slots := 0, locals := 120 } : Room) D A cs tt N ad g [.int (zI (z))] (rI0 N ad fun r g' => (-2147483648 ≤ r ∧ r ≤ 2147483647) ∧ g = g') := by
  refine z_of (by decide) (Nat.le_of_ble_eq_true rfl) ?_
  intro pZ eZ sZ mZ below meth cZ C hr hlk hnm
  refine z_lv (lv' := [(0, .int (zI (z)))]) [0] rfl ?_
  refine z_iload_n C 0 dX10_extra_0 rfl ?_
  refine z_bipush (z := 10) C dX10_extra_1 (by decide) ?_
  refine z_cS (As := [.int (zI (z)), .int (zI (10))]) (rest := []) C (c_X10_lesser l D A cs tt N ad _ (z) (by omega) (10) (by omega)) ms_yX10_lesser q_1792 hd_yX10_lesser (by decide) (Nat.le_of_ble_eq_true rfl) (by decide) dX10_extra_3 rfl (kI0 fun vy1 gvy1 hvy1 => ?_)
  obtain ⟨hvy1, rfl⟩ := hvy1
  refine z_iconst (z := 2) C dX10_extra_6 rfl ?_
  refine z_iload_n C 0 dX10_extra_7 rfl ?_
  refine z_bipush (z := 10) C dX10_extra_8 (by decide) ?_
  refine z_isub C dX10_extra_10 ?_
  refine z_iconst (z := 0) C dX10_extra_11 rfl ?_
  refine z_cS (As := [.int (zI (z - 10)), .int (zI (0))]) (rest := [.int (zI (2)), .int (zI (vy1))]) C (c_X10_greater l D A cs tt N ad _ (z - 10) (by omega) (0) (by omega)) ms_yX10_greater q_1905 hd_yX10_greater (by decide) (Nat.le_of_ble_eq_true rfl) (by decide) dX10_extra_12 rfl (kI0 fun vy2 gvy2 hvy2 => ?_)
  obtain ⟨hvy2, rfl⟩ := hvy2
  refine z_bipush (z := 10) C dX10_extra_15 (by decide) ?_
  refine z_cS (As := [.int (zI (vy2)), .int (zI (10))]) (rest := [.int (zI (2)), .int (zI (vy1))]) C (c_X10_lesser l D A cs tt N ad _ (vy2) (by omega) (10) (by omega)) ms_yX10_lesser q_1792 hd_yX10_lesser (by decide) (Nat.le_of_ble_eq_true rfl) (by decide) dX10_extra_17 rfl (kI0 fun vy3 gvy3 hvy3 => ?_)
  obtain ⟨hvy3, rfl⟩ := hvy3
  refine z_imul C dX10_extra_20 ?_
  refine z_iadd C dX10_extra_21 ?_
  refine z_iconst (z := 4) C dX10_extra_22 rfl ?_
  refine z_iload_n C 0 dX10_extra_23 rfl ?_
  refine z_bipush (z := 20) C dX10_extra_24 (by decide) ?_
  refine z_isub C dX10_extra_26 ?_
  refine z_iconst (z := 0) C dX10_extra_27 rfl ?_
  refine z_cS (As := [.int (zI (z - 20)), .int (zI (0))]) (rest := [.int (zI (4)), .int (zI (vy1 + (2 * vy3)))]) C (c_X10_greater l D A cs tt N ad _ (z - 20) (by omega) (0) (by omega)) ms_yX10_greater q_1905 hd_yX10_greater (by decide) (Nat.le_of_ble_eq_true rfl) (by decide) dX10_extra_28 rfl (kI0 fun vy4 gvy4 hvy4 => ?_)
  obtain ⟨hvy4, rfl⟩ := hvy4
  refine z_imul C dX10_extra_31 ?_
  refine z_iadd C dX10_extra_32 ?_
  exact z_iret C hr hlk dX10_extra_33 (by decide) (by decide) ⟨(vy1 + (2 * vy3)) + (4 * vy4), rfl, rfl, rfl, by omega, rfl⟩

set_option maxRecDepth 100000 in
set_option maxHeartbeats 4000000 in
theorem c_X10_stands_a (l : Launch) (D : va_G) (A : Nat → Prop) (cs : Nat → ClassId) (tt : Nat) (N : Nat) (ad : Nat → Nat) (g : Nat → va_E) (i : Nat) (hN : i + 30 ≤ N) (x : Int) (hx : 0 ≤ x ∧ x ≤ 512) (F r : Nat → Int) {st op ai fa mu tb tp : Nat → Int} (hM : okMr cs ad g i x F r st op ai fa mu tb tp) (hPl : F 25 = 0 ∧ F 26 = -1 ∧ F 27 = -1 ∧ F 29 = 0) (n : Nat) (hn4 : n < 4) (z1 : Int) (hz1 : -2147483648 ≤ z1 ∧ z1 ≤ 2147483647) : zM l yX10_stands cX10_stands 5 (some .int) ({ frames := 8, cells := 0, slots := 0, locals := 480 } : Room) D A cs tt N ad g [.ref (ad i), .int (zI ((n : Int))), .int (zI (z1))] (rI0 N ad fun q g' => (-2147483648 ≤ q ∧ q ≤ 2147483647) ∧ (∃ F' r' : Nat → Int, okMr cs ad g' i (x + 1) F' r' st op ai fa mu tb tp ∧ (F' 13 = F 13 ∧ F' 14 = F 14 ∧ F' 15 = F 15 ∧ F' 16 = F 16 ∧ F' 17 = F 17 ∧ F' 18 = F 18 ∧ F' 19 = F 19 ∧ F' 20 = F 20 ∧ F' 21 = F 21 ∧ F' 23 = F 23 ∧ F' 24 = F 24) ∧ (F' 25 = 0 ∧ F' 26 = -1 ∧ F' 27 = -1 ∧ F' 29 = 0) ∧ (∀ j, j < 350 ∨ 700 ≤ j → r' j = r j)) ∧ ∀ j, j < i ∨ i + 30 ≤ j ∨ (i + 8 ≤ j ∧ j ≤ i + 12) → g' j = g j) := by
  obtain ⟨hg, ⟨⟨e13, e14, e25, e27, e29⟩, k15, k16, k17, k18, k19, k20, k23, k21⟩, hRD, hTx, hA, ns, nh, nd, rf, pi, te, ki, li, ok1, ok2, fo, dd, dps, ⟨ha1, ha2, ha3, ha4, ha5, ha6, ha7, ha8, ha9, ha10, ha11, ha12, ha13, ha14, ha15, ha24, ha25, ha26, ha27, ha28, ha29⟩, hEv, hPt, hns, htp⟩ := id hM
  obtain ⟨-, hop, hai, hfa, hT, hT1⟩ := id hEv
  have hay1 : zAt ad (i) (ad i) := rfl
  have hay2 : zAt ad (i + 1) (ad (i + 1)) := rfl
  have hay3 : zAt ad (i + 2) (ad (i + 2)) := rfl
  have hay4 : zAt ad (i + 3) (ad (i + 3)) := rfl
  have hay5 : zAt ad (i + 4) (ad (i + 4)) := rfl
  have hay6 : zAt ad (i + 5) (ad (i + 5)) := rfl
  have hay7 : zAt ad (i + 6) (ad (i + 6)) := rfl
  have hay8 : zAt ad (i + 7) (ad (i + 7)) := rfl
  have hay9 : zAt ad (i + 8) (ad (i + 8)) := rfl
  have hay10 : zAt ad (i + 9) (ad (i + 9)) := rfl
  have hay11 : zAt ad (i + 10) (ad (i + 10)) := rfl
  have hay12 : zAt ad (i + 11) (ad (i + 11)) := rfl
  have hay13 : zAt ad (i + 12) (ad (i + 12)) := rfl
  have hay14 : zAt ad (i + 13) (ad (i + 13)) := rfl
  have hay15 : zAt ad (i + 14) (ad (i + 14)) := rfl
  have hay16 : zAt ad (i + 15) (ad (i + 15)) := rfl
  have hay17 : zAt ad (i + 24) (ad (i + 24)) := rfl
  have hay18 : zAt ad (i + 25) (ad (i + 25)) := rfl
  have hay19 : zAt ad (i + 26) (ad (i + 26)) := rfl
  have hay20 : zAt ad (i + 27) (ad (i + 27)) := rfl
  have hay21 : zAt ad (i + 28) (ad (i + 28)) := rfl
  have hay22 : zAt ad (i + 29) (ad (i + 29)) := rfl
  obtain ⟨⟨hsyy23, htyy23, hnyy23, hpyy23⟩, hlyy23⟩ := okA.at0 hA
  simp only [Nat.zero_add] at hsyy23 hnyy23 hpyy23
  have hmn : ∀ s, s < 4 → 0 ≤ r (6 + 86 * s) ∧ r (6 + 86 * s) ≤ 12 := fun s hs => (hsyy23 s hs).1
  have h5 : 0 ≤ r 5 ∧ r 5 ≤ 6 := hpyy23
  obtain ⟨hp25, hp26, hp27, hp29⟩ := id hPl
  refine z_of (by decide) (Nat.le_of_ble_eq_true rfl) ?_
  intro pZ eZ sZ mZ below meth cZ C hr hlk hnm
  refine z_lv (lv' := [(0, .ref (ad i)), (1, .int (zI ((n : Int)))), (2, .int (zI (z1)))]) [0, 1, 2] rfl ?_
  refine z_aload_n C 0 dX10_stands_0 rfl ?_
  refine z_iconst (z := 0) C dX10_stands_1 rfl ?_
  refine z_put (fs' := mF ad (i) (uZ F 12 (0))) C (lt_A0 hN rfl) hay1 hg tyX10 tyX10_ok nmX10 rfl inA_X10 12 (by decide) q_1471 rfl rfl rfl rfl (Nat.le_of_ble_eq_true rfl) rfl dX10_stands_2 (fun gy24 egy25 => ?_)
  have hgy26 := up_s egy25
  refine z_aload_n C 0 dX10_stands_5 rfl ?_
  refine z_iload_n C 1 dX10_stands_6 rfl ?_
  have h13vy27 : (uZ F 12 (0)) 13 = F 13 := (fn rfl (by decide))
  have hey28 : (uZ F 12 (0)) 12 = 0 := (uZ_s _ _ _)
  refine z_cV (As := [.int (zI ((n : Int)))]) (rest := []) (ci := 12) C (c_X10_isSlope l D A cs tt N ad _ i hN _ hgy26 (by omega) (by omega) ((n : Int)) (by omega)) (lt_A0 hN rfl) hay1 hgy26 rfl rfl mv_yX10_isSlope q_1803 hd_yX10_isSlope (by decide) (Nat.le_of_ble_eq_true rfl) (by decide) dX10_stands_7 rfl (kI0 fun vy27 gvy27 hvy27 => ?_)
  rw [h13vy27] at hvy27
  obtain ⟨hrvy27, ⟨Fvy27, hcvy27, htvy27, hFvy27⟩, hfvy27⟩ := hvy27
  rcases (show vy27 = 1 ∨ vy27 = 0 by omega) with rfl | rfl
  · have hxvy27 := hrvy27.2 rfl
    refine z_if_eq (tgt := 27) C dX10_stands_10 (by decide) (by omega) (fun h => absurd h (by omega)) (fun _ => ?_)
    refine z_aload_n C 0 dX10_stands_13 rfl ?_
    refine z_iload_n C 2 dX10_stands_14 rfl ?_
    refine z_iconst (z := 0) C dX10_stands_15 rfl ?_
    refine z_iconst (z := 1) C dX10_stands_16 rfl ?_
    refine z_cS (As := [.int (zI (z1)), .int (zI (0)), .int (zI (1))]) (rest := [.ref (ad i)]) C (c_X10_within l D A cs tt N ad _ (z1) (by omega) (0) (by omega) (1) (by omega)) ms_yX10_within q_1686 hd_yX10_within (by decide) (Nat.le_of_ble_eq_true rfl) (by decide) dX10_stands_17 rfl (kI0 fun vy29 gvy29 hvy29 => ?_)
    obtain ⟨hvy29, rfl⟩ := hvy29
    rcases hvy29 with ⟨rfl, hxvy29⟩ | ⟨rfl, hxvy29⟩
    · refine z_iconst (z := 1) C dX10_stands_20 rfl ?_
      have hey31 : Fvy27 12 = Fvy27 12 := rfl
      refine z_cV (As := [.int (zI (1)), .int (zI (1))]) (rest := []) (ci := 12) C (c_X10_right l D A cs tt N ad _ i hN _ hcvy27 (by omega) (1) (by omega) (1) (by omega)) (lt_A0 hN rfl) hay1 hcvy27 rfl rfl mv_yX10_right q_1648 hd_yX10_right (by decide) (Nat.le_of_ble_eq_true rfl) (by decide) dX10_stands_21 rfl (kI0 fun vy30 gvy30 hvy30 => ?_)
      obtain ⟨hrvy30, ⟨Fvy30, hcvy30, htvy30, hFvy30⟩, hfvy30⟩ := hvy30
      rcases (show vy30 = 1 ∨ vy30 = 0 by omega) with rfl | rfl
      · refine z_if_ne (tgt := 29) C dX10_stands_24 (by decide) (by omega) (fun _ => ?_) (fun h => absurd h (by omega))
        refine z_iconst (z := 0) C dX10_stands_29 rfl ?_
        refine z_istore_n (lv' := [(3, .int (zI (0))), (0, .ref (ad i)), (1, .int (zI ((n : Int)))), (2, .int (zI (z1)))]) C dX10_stands_30 rfl (by decide) rfl ?_
        have lp1 : ∀ (n9 : Nat) (tt9 : Int) (g1 : Nat → va_E), (31 - tt9).toNat = n9 → (gvy30 = g1) → (0 ≤ tt9 ∧ tt9 ≤ 31) → zV pZ l eZ ({ frames := 8, cells := 0, slots := 0, locals := 480 } : Room) sZ mZ ([.ref (ad i), .int (zI ((n : Int))), .int (zI (z1))] : List Value).toArray below meth cZ (MQ below (zPost D A (rI0 N ad fun q g' => (-2147483648 ≤ q ∧ q ≤ 2147483647) ∧ (∃ F' r' : Nat → Int, okMr cs ad g' i (x + 1) F' r' st op ai fa mu tb tp ∧ (F' 13 = F 13 ∧ F' 14 = F 14 ∧ F' 15 = F 15 ∧ F' 16 = F 16 ∧ F' 17 = F 17 ∧ F' 18 = F 18 ∧ F' 19 = F 19 ∧ F' 20 = F 20 ∧ F' 21 = F 21 ∧ F' 23 = F 23 ∧ F' 24 = F 24) ∧ (F' 25 = 0 ∧ F' 26 = -1 ∧ F' 27 = -1 ∧ F' 29 = 0) ∧ (∀ j, j < 350 ∨ 700 ≤ j → r' j = r j)) ∧ ∀ j, j < i ∨ i + 30 ≤ j ∨ (i + 8 ≤ j ∧ j ≤ i + 12) → g' j = g j)) ([.ref (ad i), .int (zI ((n : Int))), .int (zI (z1))] : List Value).toArray sZ ({ frames := 8, cells := 0, slots := 0, locals := 480 } : Room).cells ({ frames := 8, cells := 0, slots := 0, locals := 480 } : Room).slots A) D A 5 (N) ad g1 (0) (0) 31 [(0, .ref (ad i)), (1, .int (zI ((n : Int)))), (2, .int (zI (z1))), (3, .int (zI (tt9)))] [] := by
          intro n9
          induction n9 using Nat.strongRecOn with
          | ind n9 ih_lp1 =>
            intro tt9 g1 hm9 hgz hvlp10
            subst hgz
            refine z_iload_n C 3 dX10_stands_31 rfl ?_
            refine z_bipush (z := 30) C dX10_stands_32 (by decide) ?_
            refine z_icmp_gt (tgt := 97) C dX10_stands_34 (by decide) (by omega) (by omega) (fun hby32 => ?_) (fun hby32 => ?_)
            · refine z_iconst (z := -1) C dX10_stands_97 rfl ?_
              have hgy33 := up_n egy25 ha1 (ne_o (i := i) (c := 1) (d := 0) rfl)
              have hgy34 := (hfvy27 (i + 1) (ne_o (i := i) (c := 1) (d := 0) rfl)).trans hgy33
              have hgy35 := (hfvy30 (i + 1) (ne_o (i := i) (c := 1) (d := 0) rfl)).trans hgy34
              have hFy36 : ∀ f, f ≠ 12 → Fvy30 f = F f := fun f n12 => ((hFvy30 f n12).trans ((hFvy27 f n12).trans ((uZ_n _ _ n12).trans rfl)))
              have hey37 : Fvy30 13 = F 13 := ((hFvy30 13 (by decide)).trans ((hFvy27 13 (by decide)).trans (fn rfl (by decide))))
              have hey38 : Fvy30 14 = F 14 := ((hFvy30 14 (by decide)).trans ((hFvy27 14 (by decide)).trans (fn rfl (by decide))))
              have hey39 : Fvy30 15 = F 15 := ((hFvy30 15 (by decide)).trans ((hFvy27 15 (by decide)).trans (fn rfl (by decide))))
              have hey40 : Fvy30 16 = F 16 := ((hFvy30 16 (by decide)).trans ((hFvy27 16 (by decide)).trans (fn rfl (by decide))))
              have hey41 : Fvy30 17 = F 17 := ((hFvy30 17 (by decide)).trans ((hFvy27 17 (by decide)).trans (fn rfl (by decide))))
              have hey42 : Fvy30 18 = F 18 := ((hFvy30 18 (by decide)).trans ((hFvy27 18 (by decide)).trans (fn rfl (by decide))))
              have hey43 : Fvy30 19 = F 19 := ((hFvy30 19 (by decide)).trans ((hFvy27 19 (by decide)).trans (fn rfl (by decide))))
              have hey44 : Fvy30 20 = F 20 := ((hFvy30 20 (by decide)).trans ((hFvy27 20 (by decide)).trans (fn rfl (by decide))))
              have hey45 : Fvy30 21 = F 21 := ((hFvy30 21 (by decide)).trans ((hFvy27 21 (by decide)).trans (fn rfl (by decide))))
              have hey46 : Fvy30 23 = F 23 := ((hFvy30 23 (by decide)).trans ((hFvy27 23 (by decide)).trans (fn rfl (by decide))))
              have hey47 : Fvy30 25 = F 25 := ((hFvy30 25 (by decide)).trans ((hFvy27 25 (by decide)).trans (fn rfl (by decide))))
              have hey48 : Fvy30 27 = F 27 := ((hFvy30 27 (by decide)).trans ((hFvy27 27 (by decide)).trans (fn rfl (by decide))))
              have hey49 : Fvy30 28 = F 28 := ((hFvy30 28 (by decide)).trans ((hFvy27 28 (by decide)).trans (fn rfl (by decide))))
              have hey50 : Fvy30 29 = F 29 := ((hFvy30 29 (by decide)).trans ((hFvy27 29 (by decide)).trans (fn rfl (by decide))))
              have hKy51 : okF Fvy30 := okF.mv hM.2.1 hey37 hey38 hey39 hey40 hey41 hey42 hey43 hey44 hey45 hey46 hey47 hey48 hey49 hey50
              have hMy52 : okMr cs ad gvy30 i (x + 1) Fvy30 r st op ai fa mu tb tp := okMr.upd hM hcvy30 hKy51 (fun f a => hFy36 f (by omega)) hgy35 (hA.mono (by omega)) (fun j a b => by
                  exact Or.inl (by rw [hfvy30 _ (by omega)]; rw [hfvy27 _ (by omega)]; rw [egy25, va_up_ne _ _ (by omega)]))
              have hkpy53 : Fvy30 13 = F 13 := ((hFvy30 13 (by decide)).trans ((hFvy27 13 (by decide)).trans (fn rfl (by decide))))
              have hkpy54 : Fvy30 14 = F 14 := ((hFvy30 14 (by decide)).trans ((hFvy27 14 (by decide)).trans (fn rfl (by decide))))
              have hkpy55 : Fvy30 15 = F 15 := ((hFvy30 15 (by decide)).trans ((hFvy27 15 (by decide)).trans (fn rfl (by decide))))
              have hkpy56 : Fvy30 16 = F 16 := ((hFvy30 16 (by decide)).trans ((hFvy27 16 (by decide)).trans (fn rfl (by decide))))
              have hkpy57 : Fvy30 17 = F 17 := ((hFvy30 17 (by decide)).trans ((hFvy27 17 (by decide)).trans (fn rfl (by decide))))
              have hkpy58 : Fvy30 18 = F 18 := ((hFvy30 18 (by decide)).trans ((hFvy27 18 (by decide)).trans (fn rfl (by decide))))
              have hkpy59 : Fvy30 19 = F 19 := ((hFvy30 19 (by decide)).trans ((hFvy27 19 (by decide)).trans (fn rfl (by decide))))
              have hkpy60 : Fvy30 20 = F 20 := ((hFvy30 20 (by decide)).trans ((hFvy27 20 (by decide)).trans (fn rfl (by decide))))
              have hkpy61 : Fvy30 21 = F 21 := ((hFvy30 21 (by decide)).trans ((hFvy27 21 (by decide)).trans (fn rfl (by decide))))
              have hkpy62 : Fvy30 23 = F 23 := ((hFvy30 23 (by decide)).trans ((hFvy27 23 (by decide)).trans (fn rfl (by decide))))
              have hkpy63 : Fvy30 24 = F 24 := ((hFvy30 24 (by decide)).trans ((hFvy27 24 (by decide)).trans (fn rfl (by decide))))
              have hkpy64 : Fvy30 25 = F 25 := ((hFvy30 25 (by decide)).trans ((hFvy27 25 (by decide)).trans (fn rfl (by decide))))
              have hkpy65 : Fvy30 26 = F 26 := ((hFvy30 26 (by decide)).trans ((hFvy27 26 (by decide)).trans (fn rfl (by decide))))
              have hkpy66 : Fvy30 27 = F 27 := ((hFvy30 27 (by decide)).trans ((hFvy27 27 (by decide)).trans (fn rfl (by decide))))
              have hkpy67 : Fvy30 29 = F 29 := ((hFvy30 29 (by decide)).trans ((hFvy27 29 (by decide)).trans (fn rfl (by decide))))
              exact z_iret C hr hlk dX10_stands_98 (by decide) (by decide) ⟨-1, rfl, rfl, rfl, by omega, ⟨_, _, hMy52, ⟨hkpy53, hkpy54, hkpy55, hkpy56, hkpy57, hkpy58, hkpy59, hkpy60, hkpy61, hkpy62, hkpy63⟩, ⟨(hkpy64.trans hp25), (hkpy65.trans hp26), (hkpy66.trans hp27), (hkpy67.trans hp29)⟩, (fun j _ => rfl)⟩, fun j j1 => by rw [hfvy30 _ (by omega)]; rw [hfvy27 _ (by omega)]; rw [egy25, va_up_ne _ _ (by omega)]⟩
            · refine z_iconst (z := 0) C dX10_stands_37 rfl ?_
              refine z_istore (lv' := [(4, .int (zI (0))), (0, .ref (ad i)), (1, .int (zI ((n : Int)))), (2, .int (zI (z1))), (3, .int (zI (tt9)))]) C dX10_stands_38 (by decide) rfl ?_
              have lp2 : ∀ (n9 : Nat) (ll : Int) (g1 : Nat → va_E), (13 - ll).toNat = n9 → (gvy30 = g1) → (0 ≤ ll ∧ ll ≤ 12) → zV pZ l eZ ({ frames := 8, cells := 0, slots := 0, locals := 480 } : Room) sZ mZ ([.ref (ad i), .int (zI ((n : Int))), .int (zI (z1))] : List Value).toArray below meth cZ (MQ below (zPost D A (rI0 N ad fun q g' => (-2147483648 ≤ q ∧ q ≤ 2147483647) ∧ (∃ F' r' : Nat → Int, okMr cs ad g' i (x + 1) F' r' st op ai fa mu tb tp ∧ (F' 13 = F 13 ∧ F' 14 = F 14 ∧ F' 15 = F 15 ∧ F' 16 = F 16 ∧ F' 17 = F 17 ∧ F' 18 = F 18 ∧ F' 19 = F 19 ∧ F' 20 = F 20 ∧ F' 21 = F 21 ∧ F' 23 = F 23 ∧ F' 24 = F 24) ∧ (F' 25 = 0 ∧ F' 26 = -1 ∧ F' 27 = -1 ∧ F' 29 = 0) ∧ (∀ j, j < 350 ∨ 700 ≤ j → r' j = r j)) ∧ ∀ j, j < i ∨ i + 30 ≤ j ∨ (i + 8 ≤ j ∧ j ≤ i + 12) → g' j = g j)) ([.ref (ad i), .int (zI ((n : Int))), .int (zI (z1))] : List Value).toArray sZ ({ frames := 8, cells := 0, slots := 0, locals := 480 } : Room).cells ({ frames := 8, cells := 0, slots := 0, locals := 480 } : Room).slots A) D A 5 (N) ad g1 (0) (0) 40 [(0, .ref (ad i)), (1, .int (zI ((n : Int)))), (2, .int (zI (z1))), (3, .int (zI (tt9))), (4, .int (zI (ll)))] [] := by
                intro n9
                induction n9 using Nat.strongRecOn with
                | ind n9 ih_lp2 =>
                  intro ll g1 hm9 hgz hvlp20
                  subst hgz
                  refine z_iload C 4 dX10_stands_40 rfl ?_
                  refine z_aload_n C 0 dX10_stands_42 rfl ?_
                  refine z_iconst (z := 0) C dX10_stands_43 rfl ?_
                  refine z_iload_n C 1 dX10_stands_44 rfl ?_
                  obtain ⟨py68, hpy68⟩ : ∃ p9 : Nat, 0 + 6 + 86 * n = p9 := ⟨_, rfl⟩
                  have hmyy69 := ((okA.at0 hA).1.1 n (by omega)).1
                  rw [hpy68] at hmyy69
                  have hgy70 := up_n egy25 ha1 (ne_o (i := i) (c := 1) (d := 0) rfl)
                  have hgy71 := (hfvy27 (i + 1) (ne_o (i := i) (c := 1) (d := 0) rfl)).trans hgy70
                  have hgy72 := (hfvy30 (i + 1) (ne_o (i := i) (c := 1) (d := 0) rfl)).trans hgy71
                  refine z_cV (As := [.int (zI (0)), .int (zI ((n : Int)))]) (rest := [.int (zI (ll))]) (ci := 12) C (c_X10_many l D A cs tt N ad _ i hN _ hcvy30 _ hgy72 0 n py68 hpy68 (by omega) (by omega)) (lt_A0 hN rfl) hay1 hcvy30 rfl rfl mv_yX10_many q_1733 hd_yX10_many (by decide) (Nat.le_of_ble_eq_true rfl) (by decide) dX10_stands_45 rfl (kI0 fun vy73 gvy73 hvy73 => ?_)
                  obtain ⟨rfl, rfl⟩ := hvy73
                  refine z_icmp_ge (tgt := 91) C dX10_stands_48 (by decide) (by omega) (by omega) (fun hby74 => ?_) (fun hby74 => ?_)
                  · refine z_iinc (z := tt9 + 1) (lv' := [(3, .int (zI (tt9 + 1))), (0, .ref (ad i)), (1, .int (zI ((n : Int)))), (2, .int (zI (z1))), (4, .int (zI (ll)))]) (j := 3) C dX10_stands_91 rfl rfl (by decide) rfl ?_
                    refine z_goto (tgt := 31) C dX10_stands_94 (by decide) ?_
                    refine z_lv (lv' := [(0, .ref (ad i)), (1, .int (zI ((n : Int)))), (2, .int (zI (z1))), (3, .int (zI (tt9 + 1)))]) [1, 2, 3, 0] rfl ?_
                    exact ih_lp1 _ (by omega) (tt9 + 1) _ rfl rfl (by omega)
                  · refine z_aload_n C 0 dX10_stands_51 rfl ?_
                    refine z_iconst (z := 0) C dX10_stands_52 rfl ?_
                    refine z_iload_n C 1 dX10_stands_53 rfl ?_
                    refine z_iload C 4 dX10_stands_54 rfl ?_
                    refine z_iload_n C 3 dX10_stands_56 rfl ?_
                    refine z_cS (As := [.int (zI (tt9))]) (rest := [.int (zI (ll)), .int (zI ((n : Int))), .int (zI (0)), .ref (ad i)]) C (c_X10_extra l D A cs tt N ad _ (tt9) (by omega)) ms_yX10_extra q_2000 hd_yX10_extra (by decide) (Nat.le_of_ble_eq_true rfl) (by decide) dX10_stands_57 rfl (kI0 fun vy75 gvy75 hvy75 => ?_)
                    obtain ⟨hvy75, rfl⟩ := hvy75
                    refine z_aload_n C 0 dX10_stands_60 rfl ?_
                    refine z_get (v := .ref (ad (i + 2))) C (lt_A0 hN rfl) hay1 hcvy30 rfl inA_X10 1 (by decide) q_1460 rfl rfl dX10_stands_61 ?_
                    refine z_iload_n C 1 dX10_stands_64 rfl ?_
                    have hgy76 := up_n egy25 ha2 (ne_o (i := i) (c := 2) (d := 0) rfl)
                    have hgy77 := (hfvy27 (i + 2) (ne_o (i := i) (c := 2) (d := 0) rfl)).trans hgy76
                    have hgy78 := (hfvy30 (i + 2) (ne_o (i := i) (c := 2) (d := 0) rfl)).trans hgy77
                    refine z_iald C (lt_A (c := 2) hN rfl) hay3 hgy78 (n) (by omega) (by omega) (by decide) dX10_stands_65 ?_
                    obtain ⟨xy79, exy80, hxy81⟩ := zI_of (zI (st (n)))
                    rw [exy80]
                    have hgy83 := up_n egy25 ha7 (ne_o (i := i) (c := 7) (d := 0) rfl)
                    have hgy84 := (hfvy27 (i + 7) (ne_o (i := i) (c := 7) (d := 0) rfl)).trans hgy83
                    have hgy85 := (hfvy30 (i + 7) (ne_o (i := i) (c := 7) (d := 0) rfl)).trans hgy84
                    have hqy86 : qS r py68 := (((okA.at0 hA).1.1 n (by omega)).of (p2 := py68) (by omega)).q (by have hb9 := mBb (t := r 0 + x) (by omega); omega)
                    have hmky87 := hqy86.1
                    refine z_cV (As := [.int (zI (0)), .int (zI ((n : Int))), .int (zI (ll)), .int (zI (vy75)), .int (zI (xy79))]) (rest := []) (ci := 12) C (c_X10_ratio l D A cs tt N ad _ i hN _ hcvy30 _ hgy72 _ hgy85 0 n py68 hpy68 (by omega) (by omega) hqy86 (ll) (by omega) (vy75) (by omega) (xy79) (by omega)) (lt_A0 hN rfl) hay1 hcvy30 rfl rfl mv_yX10_ratio q_1772 hd_yX10_ratio (by decide) (Nat.le_of_ble_eq_true rfl) (by decide) dX10_stands_66 rfl (kI0 fun vy82 gvy82 hvy82 => ?_)
                    obtain ⟨hvy82, hzvy82, rfl⟩ := hvy82
                    refine z_bipush (z := 100) C dX10_stands_69 (by decide) ?_
                    refine z_icmp_ge (tgt := 85) C dX10_stands_71 (by decide) (by omega) (by omega) (fun hby88 => ?_) (fun hby88 => ?_)
                    · refine z_iinc (z := ll + 1) (lv' := [(4, .int (zI (ll + 1))), (0, .ref (ad i)), (1, .int (zI ((n : Int)))), (2, .int (zI (z1))), (3, .int (zI (tt9)))]) (j := 4) C dX10_stands_85 rfl rfl (by decide) rfl ?_
                      refine z_goto (tgt := 40) C dX10_stands_88 (by decide) ?_
                      refine z_lv (lv' := [(0, .ref (ad i)), (1, .int (zI ((n : Int)))), (2, .int (zI (z1))), (3, .int (zI (tt9))), (4, .int (zI (ll + 1)))]) [1, 2, 3, 4, 0] rfl ?_
                      exact ih_lp2 _ (by omega) (ll + 1) _ rfl rfl (by omega)
                    · refine z_iload_n C 2 dX10_stands_74 rfl ?_
                      refine z_if_ne (tgt := 82) C dX10_stands_75 (by decide) (by omega) (fun hby89 => ?_) (fun hby89 => ?_)
                      · refine z_iload C 4 dX10_stands_82 rfl ?_
                        have hFy90 : ∀ f, f ≠ 12 → Fvy30 f = F f := fun f n12 => ((hFvy30 f n12).trans ((hFvy27 f n12).trans ((uZ_n _ _ n12).trans rfl)))
                        have hey91 : Fvy30 13 = F 13 := ((hFvy30 13 (by decide)).trans ((hFvy27 13 (by decide)).trans (fn rfl (by decide))))
                        have hey92 : Fvy30 14 = F 14 := ((hFvy30 14 (by decide)).trans ((hFvy27 14 (by decide)).trans (fn rfl (by decide))))
                        have hey93 : Fvy30 15 = F 15 := ((hFvy30 15 (by decide)).trans ((hFvy27 15 (by decide)).trans (fn rfl (by decide))))
                        have hey94 : Fvy30 16 = F 16 := ((hFvy30 16 (by decide)).trans ((hFvy27 16 (by decide)).trans (fn rfl (by decide))))
                        have hey95 : Fvy30 17 = F 17 := ((hFvy30 17 (by decide)).trans ((hFvy27 17 (by decide)).trans (fn rfl (by decide))))
                        have hey96 : Fvy30 18 = F 18 := ((hFvy30 18 (by decide)).trans ((hFvy27 18 (by decide)).trans (fn rfl (by decide))))
                        have hey97 : Fvy30 19 = F 19 := ((hFvy30 19 (by decide)).trans ((hFvy27 19 (by decide)).trans (fn rfl (by decide))))
                        have hey98 : Fvy30 20 = F 20 := ((hFvy30 20 (by decide)).trans ((hFvy27 20 (by decide)).trans (fn rfl (by decide))))
                        have hey99 : Fvy30 21 = F 21 := ((hFvy30 21 (by decide)).trans ((hFvy27 21 (by decide)).trans (fn rfl (by decide))))
                        have hey100 : Fvy30 23 = F 23 := ((hFvy30 23 (by decide)).trans ((hFvy27 23 (by decide)).trans (fn rfl (by decide))))
                        have hey101 : Fvy30 25 = F 25 := ((hFvy30 25 (by decide)).trans ((hFvy27 25 (by decide)).trans (fn rfl (by decide))))
                        have hey102 : Fvy30 27 = F 27 := ((hFvy30 27 (by decide)).trans ((hFvy27 27 (by decide)).trans (fn rfl (by decide))))
                        have hey103 : Fvy30 28 = F 28 := ((hFvy30 28 (by decide)).trans ((hFvy27 28 (by decide)).trans (fn rfl (by decide))))
                        have hey104 : Fvy30 29 = F 29 := ((hFvy30 29 (by decide)).trans ((hFvy27 29 (by decide)).trans (fn rfl (by decide))))
                        have hKy105 : okF Fvy30 := okF.mv hM.2.1 hey91 hey92 hey93 hey94 hey95 hey96 hey97 hey98 hey99 hey100 hey101 hey102 hey103 hey104
                        have hMy106 : okMr cs ad gvy30 i (x + 1) Fvy30 r st op ai fa mu tb tp := okMr.upd hM hcvy30 hKy105 (fun f a => hFy90 f (by omega)) hgy72 (hA.mono (by omega)) (fun j a b => by
                            exact Or.inl (by rw [hfvy30 _ (by omega)]; rw [hfvy27 _ (by omega)]; rw [egy25, va_up_ne _ _ (by omega)]))
                        have hkpy107 : Fvy30 13 = F 13 := ((hFvy30 13 (by decide)).trans ((hFvy27 13 (by decide)).trans (fn rfl (by decide))))
                        have hkpy108 : Fvy30 14 = F 14 := ((hFvy30 14 (by decide)).trans ((hFvy27 14 (by decide)).trans (fn rfl (by decide))))
                        have hkpy109 : Fvy30 15 = F 15 := ((hFvy30 15 (by decide)).trans ((hFvy27 15 (by decide)).trans (fn rfl (by decide))))
                        have hkpy110 : Fvy30 16 = F 16 := ((hFvy30 16 (by decide)).trans ((hFvy27 16 (by decide)).trans (fn rfl (by decide))))
                        have hkpy111 : Fvy30 17 = F 17 := ((hFvy30 17 (by decide)).trans ((hFvy27 17 (by decide)).trans (fn rfl (by decide))))
                        have hkpy112 : Fvy30 18 = F 18 := ((hFvy30 18 (by decide)).trans ((hFvy27 18 (by decide)).trans (fn rfl (by decide))))
                        have hkpy113 : Fvy30 19 = F 19 := ((hFvy30 19 (by decide)).trans ((hFvy27 19 (by decide)).trans (fn rfl (by decide))))
                        have hkpy114 : Fvy30 20 = F 20 := ((hFvy30 20 (by decide)).trans ((hFvy27 20 (by decide)).trans (fn rfl (by decide))))
                        have hkpy115 : Fvy30 21 = F 21 := ((hFvy30 21 (by decide)).trans ((hFvy27 21 (by decide)).trans (fn rfl (by decide))))
                        have hkpy116 : Fvy30 23 = F 23 := ((hFvy30 23 (by decide)).trans ((hFvy27 23 (by decide)).trans (fn rfl (by decide))))
                        have hkpy117 : Fvy30 24 = F 24 := ((hFvy30 24 (by decide)).trans ((hFvy27 24 (by decide)).trans (fn rfl (by decide))))
                        have hkpy118 : Fvy30 25 = F 25 := ((hFvy30 25 (by decide)).trans ((hFvy27 25 (by decide)).trans (fn rfl (by decide))))
                        have hkpy119 : Fvy30 26 = F 26 := ((hFvy30 26 (by decide)).trans ((hFvy27 26 (by decide)).trans (fn rfl (by decide))))
                        have hkpy120 : Fvy30 27 = F 27 := ((hFvy30 27 (by decide)).trans ((hFvy27 27 (by decide)).trans (fn rfl (by decide))))
                        have hkpy121 : Fvy30 29 = F 29 := ((hFvy30 29 (by decide)).trans ((hFvy27 29 (by decide)).trans (fn rfl (by decide))))
                        exact z_iret C hr hlk dX10_stands_84 (by decide) (by decide) ⟨ll, rfl, rfl, rfl, by omega, ⟨_, _, hMy106, ⟨hkpy107, hkpy108, hkpy109, hkpy110, hkpy111, hkpy112, hkpy113, hkpy114, hkpy115, hkpy116, hkpy117⟩, ⟨(hkpy118.trans hp25), (hkpy119.trans hp26), (hkpy120.trans hp27), (hkpy121.trans hp29)⟩, (fun j _ => rfl)⟩, fun j j1 => by rw [hfvy30 _ (by omega)]; rw [hfvy27 _ (by omega)]; rw [egy25, va_up_ne _ _ (by omega)]⟩
                      · refine z_iload_n C 3 dX10_stands_78 rfl ?_
                        refine z_goto (tgt := 84) C dX10_stands_79 (by decide) ?_
                        have hFy122 : ∀ f, f ≠ 12 → Fvy30 f = F f := fun f n12 => ((hFvy30 f n12).trans ((hFvy27 f n12).trans ((uZ_n _ _ n12).trans rfl)))
                        have hey123 : Fvy30 13 = F 13 := ((hFvy30 13 (by decide)).trans ((hFvy27 13 (by decide)).trans (fn rfl (by decide))))
                        have hey124 : Fvy30 14 = F 14 := ((hFvy30 14 (by decide)).trans ((hFvy27 14 (by decide)).trans (fn rfl (by decide))))
                        have hey125 : Fvy30 15 = F 15 := ((hFvy30 15 (by decide)).trans ((hFvy27 15 (by decide)).trans (fn rfl (by decide))))
                        have hey126 : Fvy30 16 = F 16 := ((hFvy30 16 (by decide)).trans ((hFvy27 16 (by decide)).trans (fn rfl (by decide))))
                        have hey127 : Fvy30 17 = F 17 := ((hFvy30 17 (by decide)).trans ((hFvy27 17 (by decide)).trans (fn rfl (by decide))))
                        have hey128 : Fvy30 18 = F 18 := ((hFvy30 18 (by decide)).trans ((hFvy27 18 (by decide)).trans (fn rfl (by decide))))
                        have hey129 : Fvy30 19 = F 19 := ((hFvy30 19 (by decide)).trans ((hFvy27 19 (by decide)).trans (fn rfl (by decide))))
                        have hey130 : Fvy30 20 = F 20 := ((hFvy30 20 (by decide)).trans ((hFvy27 20 (by decide)).trans (fn rfl (by decide))))
                        have hey131 : Fvy30 21 = F 21 := ((hFvy30 21 (by decide)).trans ((hFvy27 21 (by decide)).trans (fn rfl (by decide))))
                        have hey132 : Fvy30 23 = F 23 := ((hFvy30 23 (by decide)).trans ((hFvy27 23 (by decide)).trans (fn rfl (by decide))))
                        have hey133 : Fvy30 25 = F 25 := ((hFvy30 25 (by decide)).trans ((hFvy27 25 (by decide)).trans (fn rfl (by decide))))
                        have hey134 : Fvy30 27 = F 27 := ((hFvy30 27 (by decide)).trans ((hFvy27 27 (by decide)).trans (fn rfl (by decide))))
                        have hey135 : Fvy30 28 = F 28 := ((hFvy30 28 (by decide)).trans ((hFvy27 28 (by decide)).trans (fn rfl (by decide))))
                        have hey136 : Fvy30 29 = F 29 := ((hFvy30 29 (by decide)).trans ((hFvy27 29 (by decide)).trans (fn rfl (by decide))))
                        have hKy137 : okF Fvy30 := okF.mv hM.2.1 hey123 hey124 hey125 hey126 hey127 hey128 hey129 hey130 hey131 hey132 hey133 hey134 hey135 hey136
                        have hMy138 : okMr cs ad gvy30 i (x + 1) Fvy30 r st op ai fa mu tb tp := okMr.upd hM hcvy30 hKy137 (fun f a => hFy122 f (by omega)) hgy72 (hA.mono (by omega)) (fun j a b => by
                            exact Or.inl (by rw [hfvy30 _ (by omega)]; rw [hfvy27 _ (by omega)]; rw [egy25, va_up_ne _ _ (by omega)]))
                        have hkpy139 : Fvy30 13 = F 13 := ((hFvy30 13 (by decide)).trans ((hFvy27 13 (by decide)).trans (fn rfl (by decide))))
                        have hkpy140 : Fvy30 14 = F 14 := ((hFvy30 14 (by decide)).trans ((hFvy27 14 (by decide)).trans (fn rfl (by decide))))
                        have hkpy141 : Fvy30 15 = F 15 := ((hFvy30 15 (by decide)).trans ((hFvy27 15 (by decide)).trans (fn rfl (by decide))))
                        have hkpy142 : Fvy30 16 = F 16 := ((hFvy30 16 (by decide)).trans ((hFvy27 16 (by decide)).trans (fn rfl (by decide))))
                        have hkpy143 : Fvy30 17 = F 17 := ((hFvy30 17 (by decide)).trans ((hFvy27 17 (by decide)).trans (fn rfl (by decide))))
                        have hkpy144 : Fvy30 18 = F 18 := ((hFvy30 18 (by decide)).trans ((hFvy27 18 (by decide)).trans (fn rfl (by decide))))
                        have hkpy145 : Fvy30 19 = F 19 := ((hFvy30 19 (by decide)).trans ((hFvy27 19 (by decide)).trans (fn rfl (by decide))))
                        have hkpy146 : Fvy30 20 = F 20 := ((hFvy30 20 (by decide)).trans ((hFvy27 20 (by decide)).trans (fn rfl (by decide))))
                        have hkpy147 : Fvy30 21 = F 21 := ((hFvy30 21 (by decide)).trans ((hFvy27 21 (by decide)).trans (fn rfl (by decide))))
                        have hkpy148 : Fvy30 23 = F 23 := ((hFvy30 23 (by decide)).trans ((hFvy27 23 (by decide)).trans (fn rfl (by decide))))
                        have hkpy149 : Fvy30 24 = F 24 := ((hFvy30 24 (by decide)).trans ((hFvy27 24 (by decide)).trans (fn rfl (by decide))))
                        have hkpy150 : Fvy30 25 = F 25 := ((hFvy30 25 (by decide)).trans ((hFvy27 25 (by decide)).trans (fn rfl (by decide))))
                        have hkpy151 : Fvy30 26 = F 26 := ((hFvy30 26 (by decide)).trans ((hFvy27 26 (by decide)).trans (fn rfl (by decide))))
                        have hkpy152 : Fvy30 27 = F 27 := ((hFvy30 27 (by decide)).trans ((hFvy27 27 (by decide)).trans (fn rfl (by decide))))
                        have hkpy153 : Fvy30 29 = F 29 := ((hFvy30 29 (by decide)).trans ((hFvy27 29 (by decide)).trans (fn rfl (by decide))))
                        exact z_iret C hr hlk dX10_stands_84 (by decide) (by decide) ⟨tt9, rfl, rfl, rfl, by omega, ⟨_, _, hMy138, ⟨hkpy139, hkpy140, hkpy141, hkpy142, hkpy143, hkpy144, hkpy145, hkpy146, hkpy147, hkpy148, hkpy149⟩, ⟨(hkpy150.trans hp25), (hkpy151.trans hp26), (hkpy152.trans hp27), (hkpy153.trans hp29)⟩, (fun j _ => rfl)⟩, fun j j1 => by rw [hfvy30 _ (by omega)]; rw [hfvy27 _ (by omega)]; rw [egy25, va_up_ne _ _ (by omega)]⟩
              refine z_lv (lv' := [(0, .ref (ad i)), (1, .int (zI ((n : Int)))), (2, .int (zI (z1))), (3, .int (zI (tt9))), (4, .int (zI (0)))]) [1, 2, 3, 4, 0] rfl ?_
              exact lp2 _ (0) _ rfl rfl (by omega)
        refine z_lv (lv' := [(0, .ref (ad i)), (1, .int (zI ((n : Int)))), (2, .int (zI (z1))), (3, .int (zI (0)))]) [1, 2, 3, 0] rfl ?_
        exact lp1 _ (0) _ rfl rfl (by omega)
      · refine z_if_ne (tgt := 29) C dX10_stands_24 (by decide) (by omega) (fun h => absurd h (by omega)) (fun _ => ?_)
        refine z_iconst (z := 0) C dX10_stands_27 rfl ?_
        have hgy154 := up_n egy25 ha1 (ne_o (i := i) (c := 1) (d := 0) rfl)
        have hgy155 := (hfvy27 (i + 1) (ne_o (i := i) (c := 1) (d := 0) rfl)).trans hgy154
        have hgy156 := (hfvy30 (i + 1) (ne_o (i := i) (c := 1) (d := 0) rfl)).trans hgy155
        have hFy157 : ∀ f, f ≠ 12 → Fvy30 f = F f := fun f n12 => ((hFvy30 f n12).trans ((hFvy27 f n12).trans ((uZ_n _ _ n12).trans rfl)))
        have hey158 : Fvy30 13 = F 13 := ((hFvy30 13 (by decide)).trans ((hFvy27 13 (by decide)).trans (fn rfl (by decide))))
        have hey159 : Fvy30 14 = F 14 := ((hFvy30 14 (by decide)).trans ((hFvy27 14 (by decide)).trans (fn rfl (by decide))))
        have hey160 : Fvy30 15 = F 15 := ((hFvy30 15 (by decide)).trans ((hFvy27 15 (by decide)).trans (fn rfl (by decide))))
        have hey161 : Fvy30 16 = F 16 := ((hFvy30 16 (by decide)).trans ((hFvy27 16 (by decide)).trans (fn rfl (by decide))))
        have hey162 : Fvy30 17 = F 17 := ((hFvy30 17 (by decide)).trans ((hFvy27 17 (by decide)).trans (fn rfl (by decide))))
        have hey163 : Fvy30 18 = F 18 := ((hFvy30 18 (by decide)).trans ((hFvy27 18 (by decide)).trans (fn rfl (by decide))))
        have hey164 : Fvy30 19 = F 19 := ((hFvy30 19 (by decide)).trans ((hFvy27 19 (by decide)).trans (fn rfl (by decide))))
        have hey165 : Fvy30 20 = F 20 := ((hFvy30 20 (by decide)).trans ((hFvy27 20 (by decide)).trans (fn rfl (by decide))))
        have hey166 : Fvy30 21 = F 21 := ((hFvy30 21 (by decide)).trans ((hFvy27 21 (by decide)).trans (fn rfl (by decide))))
        have hey167 : Fvy30 23 = F 23 := ((hFvy30 23 (by decide)).trans ((hFvy27 23 (by decide)).trans (fn rfl (by decide))))
        have hey168 : Fvy30 25 = F 25 := ((hFvy30 25 (by decide)).trans ((hFvy27 25 (by decide)).trans (fn rfl (by decide))))
        have hey169 : Fvy30 27 = F 27 := ((hFvy30 27 (by decide)).trans ((hFvy27 27 (by decide)).trans (fn rfl (by decide))))
        have hey170 : Fvy30 28 = F 28 := ((hFvy30 28 (by decide)).trans ((hFvy27 28 (by decide)).trans (fn rfl (by decide))))
        have hey171 : Fvy30 29 = F 29 := ((hFvy30 29 (by decide)).trans ((hFvy27 29 (by decide)).trans (fn rfl (by decide))))
        have hKy172 : okF Fvy30 := okF.mv hM.2.1 hey158 hey159 hey160 hey161 hey162 hey163 hey164 hey165 hey166 hey167 hey168 hey169 hey170 hey171
        have hMy173 : okMr cs ad gvy30 i (x + 1) Fvy30 r st op ai fa mu tb tp := okMr.upd hM hcvy30 hKy172 (fun f a => hFy157 f (by omega)) hgy156 (hA.mono (by omega)) (fun j a b => by
            exact Or.inl (by rw [hfvy30 _ (by omega)]; rw [hfvy27 _ (by omega)]; rw [egy25, va_up_ne _ _ (by omega)]))
        have hkpy174 : Fvy30 13 = F 13 := ((hFvy30 13 (by decide)).trans ((hFvy27 13 (by decide)).trans (fn rfl (by decide))))
        have hkpy175 : Fvy30 14 = F 14 := ((hFvy30 14 (by decide)).trans ((hFvy27 14 (by decide)).trans (fn rfl (by decide))))
        have hkpy176 : Fvy30 15 = F 15 := ((hFvy30 15 (by decide)).trans ((hFvy27 15 (by decide)).trans (fn rfl (by decide))))
        have hkpy177 : Fvy30 16 = F 16 := ((hFvy30 16 (by decide)).trans ((hFvy27 16 (by decide)).trans (fn rfl (by decide))))
        have hkpy178 : Fvy30 17 = F 17 := ((hFvy30 17 (by decide)).trans ((hFvy27 17 (by decide)).trans (fn rfl (by decide))))
        have hkpy179 : Fvy30 18 = F 18 := ((hFvy30 18 (by decide)).trans ((hFvy27 18 (by decide)).trans (fn rfl (by decide))))
        have hkpy180 : Fvy30 19 = F 19 := ((hFvy30 19 (by decide)).trans ((hFvy27 19 (by decide)).trans (fn rfl (by decide))))
        have hkpy181 : Fvy30 20 = F 20 := ((hFvy30 20 (by decide)).trans ((hFvy27 20 (by decide)).trans (fn rfl (by decide))))
        have hkpy182 : Fvy30 21 = F 21 := ((hFvy30 21 (by decide)).trans ((hFvy27 21 (by decide)).trans (fn rfl (by decide))))
        have hkpy183 : Fvy30 23 = F 23 := ((hFvy30 23 (by decide)).trans ((hFvy27 23 (by decide)).trans (fn rfl (by decide))))
        have hkpy184 : Fvy30 24 = F 24 := ((hFvy30 24 (by decide)).trans ((hFvy27 24 (by decide)).trans (fn rfl (by decide))))
        have hkpy185 : Fvy30 25 = F 25 := ((hFvy30 25 (by decide)).trans ((hFvy27 25 (by decide)).trans (fn rfl (by decide))))
        have hkpy186 : Fvy30 26 = F 26 := ((hFvy30 26 (by decide)).trans ((hFvy27 26 (by decide)).trans (fn rfl (by decide))))
        have hkpy187 : Fvy30 27 = F 27 := ((hFvy30 27 (by decide)).trans ((hFvy27 27 (by decide)).trans (fn rfl (by decide))))
        have hkpy188 : Fvy30 29 = F 29 := ((hFvy30 29 (by decide)).trans ((hFvy27 29 (by decide)).trans (fn rfl (by decide))))
        exact z_iret C hr hlk dX10_stands_28 (by decide) (by decide) ⟨0, rfl, rfl, rfl, by omega, ⟨_, _, hMy173, ⟨hkpy174, hkpy175, hkpy176, hkpy177, hkpy178, hkpy179, hkpy180, hkpy181, hkpy182, hkpy183, hkpy184⟩, ⟨(hkpy185.trans hp25), (hkpy186.trans hp26), (hkpy187.trans hp27), (hkpy188.trans hp29)⟩, (fun j _ => rfl)⟩, fun j j1 => by rw [hfvy30 _ (by omega)]; rw [hfvy27 _ (by omega)]; rw [egy25, va_up_ne _ _ (by omega)]⟩
    · refine z_iconst (z := 1) C dX10_stands_20 rfl ?_
      have hey190 : Fvy27 12 = Fvy27 12 := rfl
      refine z_cV (As := [.int (zI (0)), .int (zI (1))]) (rest := []) (ci := 12) C (c_X10_right l D A cs tt N ad _ i hN _ hcvy27 (by omega) (0) (by omega) (1) (by omega)) (lt_A0 hN rfl) hay1 hcvy27 rfl rfl mv_yX10_right q_1648 hd_yX10_right (by decide) (Nat.le_of_ble_eq_true rfl) (by decide) dX10_stands_21 rfl (kI0 fun vy189 gvy189 hvy189 => ?_)
      obtain ⟨hrvy189, ⟨Fvy189, hcvy189, htvy189, hFvy189⟩, hfvy189⟩ := hvy189
      obtain rfl : vy189 = 0 := by omega
      refine z_if_ne (tgt := 29) C dX10_stands_24 (by decide) (by omega) (fun h => absurd h (by omega)) (fun _ => ?_)
      refine z_iconst (z := 0) C dX10_stands_27 rfl ?_
      have hgy191 := up_n egy25 ha1 (ne_o (i := i) (c := 1) (d := 0) rfl)
      have hgy192 := (hfvy27 (i + 1) (ne_o (i := i) (c := 1) (d := 0) rfl)).trans hgy191
      have hgy193 := (hfvy189 (i + 1) (ne_o (i := i) (c := 1) (d := 0) rfl)).trans hgy192
      have hFy194 : ∀ f, f ≠ 12 → Fvy189 f = F f := fun f n12 => ((hFvy189 f n12).trans ((hFvy27 f n12).trans ((uZ_n _ _ n12).trans rfl)))
      have hey195 : Fvy189 13 = F 13 := ((hFvy189 13 (by decide)).trans ((hFvy27 13 (by decide)).trans (fn rfl (by decide))))
      have hey196 : Fvy189 14 = F 14 := ((hFvy189 14 (by decide)).trans ((hFvy27 14 (by decide)).trans (fn rfl (by decide))))
      have hey197 : Fvy189 15 = F 15 := ((hFvy189 15 (by decide)).trans ((hFvy27 15 (by decide)).trans (fn rfl (by decide))))
      have hey198 : Fvy189 16 = F 16 := ((hFvy189 16 (by decide)).trans ((hFvy27 16 (by decide)).trans (fn rfl (by decide))))
      have hey199 : Fvy189 17 = F 17 := ((hFvy189 17 (by decide)).trans ((hFvy27 17 (by decide)).trans (fn rfl (by decide))))
      have hey200 : Fvy189 18 = F 18 := ((hFvy189 18 (by decide)).trans ((hFvy27 18 (by decide)).trans (fn rfl (by decide))))
      have hey201 : Fvy189 19 = F 19 := ((hFvy189 19 (by decide)).trans ((hFvy27 19 (by decide)).trans (fn rfl (by decide))))
      have hey202 : Fvy189 20 = F 20 := ((hFvy189 20 (by decide)).trans ((hFvy27 20 (by decide)).trans (fn rfl (by decide))))
      have hey203 : Fvy189 21 = F 21 := ((hFvy189 21 (by decide)).trans ((hFvy27 21 (by decide)).trans (fn rfl (by decide))))
      have hey204 : Fvy189 23 = F 23 := ((hFvy189 23 (by decide)).trans ((hFvy27 23 (by decide)).trans (fn rfl (by decide))))
      have hey205 : Fvy189 25 = F 25 := ((hFvy189 25 (by decide)).trans ((hFvy27 25 (by decide)).trans (fn rfl (by decide))))
      have hey206 : Fvy189 27 = F 27 := ((hFvy189 27 (by decide)).trans ((hFvy27 27 (by decide)).trans (fn rfl (by decide))))
      have hey207 : Fvy189 28 = F 28 := ((hFvy189 28 (by decide)).trans ((hFvy27 28 (by decide)).trans (fn rfl (by decide))))
      have hey208 : Fvy189 29 = F 29 := ((hFvy189 29 (by decide)).trans ((hFvy27 29 (by decide)).trans (fn rfl (by decide))))
      have hKy209 : okF Fvy189 := okF.mv hM.2.1 hey195 hey196 hey197 hey198 hey199 hey200 hey201 hey202 hey203 hey204 hey205 hey206 hey207 hey208
      have hMy210 : okMr cs ad gvy189 i (x + 1) Fvy189 r st op ai fa mu tb tp := okMr.upd hM hcvy189 hKy209 (fun f a => hFy194 f (by omega)) hgy193 (hA.mono (by omega)) (fun j a b => by
          exact Or.inl (by rw [hfvy189 _ (by omega)]; rw [hfvy27 _ (by omega)]; rw [egy25, va_up_ne _ _ (by omega)]))
      have hkpy211 : Fvy189 13 = F 13 := ((hFvy189 13 (by decide)).trans ((hFvy27 13 (by decide)).trans (fn rfl (by decide))))
      have hkpy212 : Fvy189 14 = F 14 := ((hFvy189 14 (by decide)).trans ((hFvy27 14 (by decide)).trans (fn rfl (by decide))))
      have hkpy213 : Fvy189 15 = F 15 := ((hFvy189 15 (by decide)).trans ((hFvy27 15 (by decide)).trans (fn rfl (by decide))))
      have hkpy214 : Fvy189 16 = F 16 := ((hFvy189 16 (by decide)).trans ((hFvy27 16 (by decide)).trans (fn rfl (by decide))))
      have hkpy215 : Fvy189 17 = F 17 := ((hFvy189 17 (by decide)).trans ((hFvy27 17 (by decide)).trans (fn rfl (by decide))))
      have hkpy216 : Fvy189 18 = F 18 := ((hFvy189 18 (by decide)).trans ((hFvy27 18 (by decide)).trans (fn rfl (by decide))))
      have hkpy217 : Fvy189 19 = F 19 := ((hFvy189 19 (by decide)).trans ((hFvy27 19 (by decide)).trans (fn rfl (by decide))))
      have hkpy218 : Fvy189 20 = F 20 := ((hFvy189 20 (by decide)).trans ((hFvy27 20 (by decide)).trans (fn rfl (by decide))))
      have hkpy219 : Fvy189 21 = F 21 := ((hFvy189 21 (by decide)).trans ((hFvy27 21 (by decide)).trans (fn rfl (by decide))))
      have hkpy220 : Fvy189 23 = F 23 := ((hFvy189 23 (by decide)).trans ((hFvy27 23 (by decide)).trans (fn rfl (by decide))))
      have hkpy221 : Fvy189 24 = F 24 := ((hFvy189 24 (by decide)).trans ((hFvy27 24 (by decide)).trans (fn rfl (by decide))))
      have hkpy222 : Fvy189 25 = F 25 := ((hFvy189 25 (by decide)).trans ((hFvy27 25 (by decide)).trans (fn rfl (by decide))))
      have hkpy223 : Fvy189 26 = F 26 := ((hFvy189 26 (by decide)).trans ((hFvy27 26 (by decide)).trans (fn rfl (by decide))))
      have hkpy224 : Fvy189 27 = F 27 := ((hFvy189 27 (by decide)).trans ((hFvy27 27 (by decide)).trans (fn rfl (by decide))))
      have hkpy225 : Fvy189 29 = F 29 := ((hFvy189 29 (by decide)).trans ((hFvy27 29 (by decide)).trans (fn rfl (by decide))))
      exact z_iret C hr hlk dX10_stands_28 (by decide) (by decide) ⟨0, rfl, rfl, rfl, by omega, ⟨_, _, hMy210, ⟨hkpy211, hkpy212, hkpy213, hkpy214, hkpy215, hkpy216, hkpy217, hkpy218, hkpy219, hkpy220, hkpy221⟩, ⟨(hkpy222.trans hp25), (hkpy223.trans hp26), (hkpy224.trans hp27), (hkpy225.trans hp29)⟩, (fun j _ => rfl)⟩, fun j j1 => by rw [hfvy189 _ (by omega)]; rw [hfvy27 _ (by omega)]; rw [egy25, va_up_ne _ _ (by omega)]⟩
  · refine z_if_eq (tgt := 27) C dX10_stands_10 (by decide) (by omega) (fun _ => ?_) (fun h => absurd h (by omega))
    refine z_iconst (z := 0) C dX10_stands_27 rfl ?_
    have hgy226 := up_n egy25 ha1 (ne_o (i := i) (c := 1) (d := 0) rfl)
    have hgy227 := (hfvy27 (i + 1) (ne_o (i := i) (c := 1) (d := 0) rfl)).trans hgy226
    have hFy228 : ∀ f, f ≠ 12 → Fvy27 f = F f := fun f n12 => ((hFvy27 f n12).trans ((uZ_n _ _ n12).trans rfl))
    have hey229 : Fvy27 13 = F 13 := ((hFvy27 13 (by decide)).trans (fn rfl (by decide)))
    have hey230 : Fvy27 14 = F 14 := ((hFvy27 14 (by decide)).trans (fn rfl (by decide)))
    have hey231 : Fvy27 15 = F 15 := ((hFvy27 15 (by decide)).trans (fn rfl (by decide)))
    have hey232 : Fvy27 16 = F 16 := ((hFvy27 16 (by decide)).trans (fn rfl (by decide)))
    have hey233 : Fvy27 17 = F 17 := ((hFvy27 17 (by decide)).trans (fn rfl (by decide)))
    have hey234 : Fvy27 18 = F 18 := ((hFvy27 18 (by decide)).trans (fn rfl (by decide)))
    have hey235 : Fvy27 19 = F 19 := ((hFvy27 19 (by decide)).trans (fn rfl (by decide)))
    have hey236 : Fvy27 20 = F 20 := ((hFvy27 20 (by decide)).trans (fn rfl (by decide)))
    have hey237 : Fvy27 21 = F 21 := ((hFvy27 21 (by decide)).trans (fn rfl (by decide)))
    have hey238 : Fvy27 23 = F 23 := ((hFvy27 23 (by decide)).trans (fn rfl (by decide)))
    have hey239 : Fvy27 25 = F 25 := ((hFvy27 25 (by decide)).trans (fn rfl (by decide)))
    have hey240 : Fvy27 27 = F 27 := ((hFvy27 27 (by decide)).trans (fn rfl (by decide)))
    have hey241 : Fvy27 28 = F 28 := ((hFvy27 28 (by decide)).trans (fn rfl (by decide)))
    have hey242 : Fvy27 29 = F 29 := ((hFvy27 29 (by decide)).trans (fn rfl (by decide)))
    have hKy243 : okF Fvy27 := okF.mv hM.2.1 hey229 hey230 hey231 hey232 hey233 hey234 hey235 hey236 hey237 hey238 hey239 hey240 hey241 hey242
    have hMy244 : okMr cs ad gvy27 i (x + 1) Fvy27 r st op ai fa mu tb tp := okMr.upd hM hcvy27 hKy243 (fun f a => hFy228 f (by omega)) hgy227 (hA.mono (by omega)) (fun j a b => by
        exact Or.inl (by rw [hfvy27 _ (by omega)]; rw [egy25, va_up_ne _ _ (by omega)]))
    have hkpy245 : Fvy27 13 = F 13 := ((hFvy27 13 (by decide)).trans (fn rfl (by decide)))
    have hkpy246 : Fvy27 14 = F 14 := ((hFvy27 14 (by decide)).trans (fn rfl (by decide)))
    have hkpy247 : Fvy27 15 = F 15 := ((hFvy27 15 (by decide)).trans (fn rfl (by decide)))
    have hkpy248 : Fvy27 16 = F 16 := ((hFvy27 16 (by decide)).trans (fn rfl (by decide)))
    have hkpy249 : Fvy27 17 = F 17 := ((hFvy27 17 (by decide)).trans (fn rfl (by decide)))
    have hkpy250 : Fvy27 18 = F 18 := ((hFvy27 18 (by decide)).trans (fn rfl (by decide)))
    have hkpy251 : Fvy27 19 = F 19 := ((hFvy27 19 (by decide)).trans (fn rfl (by decide)))
    have hkpy252 : Fvy27 20 = F 20 := ((hFvy27 20 (by decide)).trans (fn rfl (by decide)))
    have hkpy253 : Fvy27 21 = F 21 := ((hFvy27 21 (by decide)).trans (fn rfl (by decide)))
    have hkpy254 : Fvy27 23 = F 23 := ((hFvy27 23 (by decide)).trans (fn rfl (by decide)))
    have hkpy255 : Fvy27 24 = F 24 := ((hFvy27 24 (by decide)).trans (fn rfl (by decide)))
    have hkpy256 : Fvy27 25 = F 25 := ((hFvy27 25 (by decide)).trans (fn rfl (by decide)))
    have hkpy257 : Fvy27 26 = F 26 := ((hFvy27 26 (by decide)).trans (fn rfl (by decide)))
    have hkpy258 : Fvy27 27 = F 27 := ((hFvy27 27 (by decide)).trans (fn rfl (by decide)))
    have hkpy259 : Fvy27 29 = F 29 := ((hFvy27 29 (by decide)).trans (fn rfl (by decide)))
    exact z_iret C hr hlk dX10_stands_28 (by decide) (by decide) ⟨0, rfl, rfl, rfl, by omega, ⟨_, _, hMy244, ⟨hkpy245, hkpy246, hkpy247, hkpy248, hkpy249, hkpy250, hkpy251, hkpy252, hkpy253, hkpy254, hkpy255⟩, ⟨(hkpy256.trans hp25), (hkpy257.trans hp26), (hkpy258.trans hp27), (hkpy259.trans hp29)⟩, (fun j _ => rfl)⟩, fun j j1 => by rw [hfvy27 _ (by omega)]; rw [egy25, va_up_ne _ _ (by omega)]⟩

set_option maxRecDepth 100000 in
set_option maxHeartbeats 4000000 in
theorem c_X10_stands_b (l : Launch) (D : va_G) (A : Nat → Prop) (cs : Nat → ClassId) (tt : Nat) (N : Nat) (ad : Nat → Nat) (g : Nat → va_E) (i : Nat) (hN : i + 30 ≤ N) (x : Int) (hx : 0 ≤ x ∧ x ≤ 512) (F r : Nat → Int) {st op ai fa mu tb tp : Nat → Int} (hM : okMr cs ad g i x F r st op ai fa mu tb tp) (hPl : F 25 = 0 ∧ F 26 = -1 ∧ F 27 = -1 ∧ F 29 = 0) (z : Int) (hz : -2147483648 ≤ z ∧ z ≤ 2147483647) (hzo : z < 0 ∨ 3 < z) (z1 : Int) (hz1 : -2147483648 ≤ z1 ∧ z1 ≤ 2147483647) : zM l yX10_stands cX10_stands 5 (some .int) ({ frames := 8, cells := 0, slots := 0, locals := 480 } : Room) D A cs tt N ad g [.ref (ad i), .int (zI (z)), .int (zI (z1))] (rI0 N ad fun q g' => (-2147483648 ≤ q ∧ q ≤ 2147483647) ∧ (∃ F' r' : Nat → Int, okMr cs ad g' i (x + 1) F' r' st op ai fa mu tb tp ∧ (F' 13 = F 13 ∧ F' 14 = F 14 ∧ F' 15 = F 15 ∧ F' 16 = F 16 ∧ F' 17 = F 17 ∧ F' 18 = F 18 ∧ F' 19 = F 19 ∧ F' 20 = F 20 ∧ F' 21 = F 21 ∧ F' 23 = F 23 ∧ F' 24 = F 24) ∧ (F' 25 = 0 ∧ F' 26 = -1 ∧ F' 27 = -1 ∧ F' 29 = 0) ∧ (∀ j, j < 350 ∨ 700 ≤ j → r' j = r j)) ∧ ∀ j, j < i ∨ i + 30 ≤ j ∨ (i + 8 ≤ j ∧ j ≤ i + 12) → g' j = g j) := by
  obtain ⟨hg, ⟨⟨e13, e14, e25, e27, e29⟩, k15, k16, k17, k18, k19, k20, k23, k21⟩, hRD, hTx, hA, ns, nh, nd, rf, pi, te, ki, li, ok1, ok2, fo, dd, dps, ⟨ha1, ha2, ha3, ha4, ha5, ha6, ha7, ha8, ha9, ha10, ha11, ha12, ha13, ha14, ha15, ha24, ha25, ha26, ha27, ha28, ha29⟩, hEv, hPt, hns, htp⟩ := id hM
  obtain ⟨-, hop, hai, hfa, hT, hT1⟩ := id hEv
  have hay1 : zAt ad (i) (ad i) := rfl
  have hay2 : zAt ad (i + 1) (ad (i + 1)) := rfl
  have hay3 : zAt ad (i + 2) (ad (i + 2)) := rfl
  have hay4 : zAt ad (i + 3) (ad (i + 3)) := rfl
  have hay5 : zAt ad (i + 4) (ad (i + 4)) := rfl
  have hay6 : zAt ad (i + 5) (ad (i + 5)) := rfl
  have hay7 : zAt ad (i + 6) (ad (i + 6)) := rfl
  have hay8 : zAt ad (i + 7) (ad (i + 7)) := rfl
  have hay9 : zAt ad (i + 8) (ad (i + 8)) := rfl
  have hay10 : zAt ad (i + 9) (ad (i + 9)) := rfl
  have hay11 : zAt ad (i + 10) (ad (i + 10)) := rfl
  have hay12 : zAt ad (i + 11) (ad (i + 11)) := rfl
  have hay13 : zAt ad (i + 12) (ad (i + 12)) := rfl
  have hay14 : zAt ad (i + 13) (ad (i + 13)) := rfl
  have hay15 : zAt ad (i + 14) (ad (i + 14)) := rfl
  have hay16 : zAt ad (i + 15) (ad (i + 15)) := rfl
  have hay17 : zAt ad (i + 24) (ad (i + 24)) := rfl
  have hay18 : zAt ad (i + 25) (ad (i + 25)) := rfl
  have hay19 : zAt ad (i + 26) (ad (i + 26)) := rfl
  have hay20 : zAt ad (i + 27) (ad (i + 27)) := rfl
  have hay21 : zAt ad (i + 28) (ad (i + 28)) := rfl
  have hay22 : zAt ad (i + 29) (ad (i + 29)) := rfl
  obtain ⟨⟨hsyy23, htyy23, hnyy23, hpyy23⟩, hlyy23⟩ := okA.at0 hA
  simp only [Nat.zero_add] at hsyy23 hnyy23 hpyy23
  have hmn : ∀ s, s < 4 → 0 ≤ r (6 + 86 * s) ∧ r (6 + 86 * s) ≤ 12 := fun s hs => (hsyy23 s hs).1
  have h5 : 0 ≤ r 5 ∧ r 5 ≤ 6 := hpyy23
  obtain ⟨hp25, hp26, hp27, hp29⟩ := id hPl
  refine z_of (by decide) (Nat.le_of_ble_eq_true rfl) ?_
  intro pZ eZ sZ mZ below meth cZ C hr hlk hnm
  refine z_lv (lv' := [(0, .ref (ad i)), (1, .int (zI (z))), (2, .int (zI (z1)))]) [0, 1, 2] rfl ?_
  refine z_aload_n C 0 dX10_stands_0 rfl ?_
  refine z_iconst (z := 0) C dX10_stands_1 rfl ?_
  refine z_put (fs' := mF ad (i) (uZ F 12 (0))) C (lt_A0 hN rfl) hay1 hg tyX10 tyX10_ok nmX10 rfl inA_X10 12 (by decide) q_1471 rfl rfl rfl rfl (Nat.le_of_ble_eq_true rfl) rfl dX10_stands_2 (fun gy24 egy25 => ?_)
  have hgy26 := up_s egy25
  refine z_aload_n C 0 dX10_stands_5 rfl ?_
  refine z_iload_n C 1 dX10_stands_6 rfl ?_
  have h13vy27 : (uZ F 12 (0)) 13 = F 13 := (fn rfl (by decide))
  have hey28 : (uZ F 12 (0)) 12 = 0 := (uZ_s _ _ _)
  refine z_cV (As := [.int (zI (z))]) (rest := []) (ci := 12) C (c_X10_isSlope l D A cs tt N ad _ i hN _ hgy26 (by omega) (by omega) (z) (by omega)) (lt_A0 hN rfl) hay1 hgy26 rfl rfl mv_yX10_isSlope q_1803 hd_yX10_isSlope (by decide) (Nat.le_of_ble_eq_true rfl) (by decide) dX10_stands_7 rfl (kI0 fun vy27 gvy27 hvy27 => ?_)
  rw [h13vy27] at hvy27
  obtain ⟨hrvy27, ⟨Fvy27, hcvy27, htvy27, hFvy27⟩, hfvy27⟩ := hvy27
  obtain rfl : vy27 = 0 := by omega
  refine z_if_eq (tgt := 27) C dX10_stands_10 (by decide) (by omega) (fun _ => ?_) (fun h => absurd h (by omega))
  refine z_iconst (z := 0) C dX10_stands_27 rfl ?_
  have hgy29 := up_n egy25 ha1 (ne_o (i := i) (c := 1) (d := 0) rfl)
  have hgy30 := (hfvy27 (i + 1) (ne_o (i := i) (c := 1) (d := 0) rfl)).trans hgy29
  have hFy31 : ∀ f, f ≠ 12 → Fvy27 f = F f := fun f n12 => ((hFvy27 f n12).trans ((uZ_n _ _ n12).trans rfl))
  have hey32 : Fvy27 13 = F 13 := ((hFvy27 13 (by decide)).trans (fn rfl (by decide)))
  have hey33 : Fvy27 14 = F 14 := ((hFvy27 14 (by decide)).trans (fn rfl (by decide)))
  have hey34 : Fvy27 15 = F 15 := ((hFvy27 15 (by decide)).trans (fn rfl (by decide)))
  have hey35 : Fvy27 16 = F 16 := ((hFvy27 16 (by decide)).trans (fn rfl (by decide)))
  have hey36 : Fvy27 17 = F 17 := ((hFvy27 17 (by decide)).trans (fn rfl (by decide)))
  have hey37 : Fvy27 18 = F 18 := ((hFvy27 18 (by decide)).trans (fn rfl (by decide)))
  have hey38 : Fvy27 19 = F 19 := ((hFvy27 19 (by decide)).trans (fn rfl (by decide)))
  have hey39 : Fvy27 20 = F 20 := ((hFvy27 20 (by decide)).trans (fn rfl (by decide)))
  have hey40 : Fvy27 21 = F 21 := ((hFvy27 21 (by decide)).trans (fn rfl (by decide)))
  have hey41 : Fvy27 23 = F 23 := ((hFvy27 23 (by decide)).trans (fn rfl (by decide)))
  have hey42 : Fvy27 25 = F 25 := ((hFvy27 25 (by decide)).trans (fn rfl (by decide)))
  have hey43 : Fvy27 27 = F 27 := ((hFvy27 27 (by decide)).trans (fn rfl (by decide)))
  have hey44 : Fvy27 28 = F 28 := ((hFvy27 28 (by decide)).trans (fn rfl (by decide)))
  have hey45 : Fvy27 29 = F 29 := ((hFvy27 29 (by decide)).trans (fn rfl (by decide)))
  have hKy46 : okF Fvy27 := okF.mv hM.2.1 hey32 hey33 hey34 hey35 hey36 hey37 hey38 hey39 hey40 hey41 hey42 hey43 hey44 hey45
  have hMy47 : okMr cs ad gvy27 i (x + 1) Fvy27 r st op ai fa mu tb tp := okMr.upd hM hcvy27 hKy46 (fun f a => hFy31 f (by omega)) hgy30 (hA.mono (by omega)) (fun j a b => by
      exact Or.inl (by rw [hfvy27 _ (by omega)]; rw [egy25, va_up_ne _ _ (by omega)]))
  have hkpy48 : Fvy27 13 = F 13 := ((hFvy27 13 (by decide)).trans (fn rfl (by decide)))
  have hkpy49 : Fvy27 14 = F 14 := ((hFvy27 14 (by decide)).trans (fn rfl (by decide)))
  have hkpy50 : Fvy27 15 = F 15 := ((hFvy27 15 (by decide)).trans (fn rfl (by decide)))
  have hkpy51 : Fvy27 16 = F 16 := ((hFvy27 16 (by decide)).trans (fn rfl (by decide)))
  have hkpy52 : Fvy27 17 = F 17 := ((hFvy27 17 (by decide)).trans (fn rfl (by decide)))
  have hkpy53 : Fvy27 18 = F 18 := ((hFvy27 18 (by decide)).trans (fn rfl (by decide)))
  have hkpy54 : Fvy27 19 = F 19 := ((hFvy27 19 (by decide)).trans (fn rfl (by decide)))
  have hkpy55 : Fvy27 20 = F 20 := ((hFvy27 20 (by decide)).trans (fn rfl (by decide)))
  have hkpy56 : Fvy27 21 = F 21 := ((hFvy27 21 (by decide)).trans (fn rfl (by decide)))
  have hkpy57 : Fvy27 23 = F 23 := ((hFvy27 23 (by decide)).trans (fn rfl (by decide)))
  have hkpy58 : Fvy27 24 = F 24 := ((hFvy27 24 (by decide)).trans (fn rfl (by decide)))
  have hkpy59 : Fvy27 25 = F 25 := ((hFvy27 25 (by decide)).trans (fn rfl (by decide)))
  have hkpy60 : Fvy27 26 = F 26 := ((hFvy27 26 (by decide)).trans (fn rfl (by decide)))
  have hkpy61 : Fvy27 27 = F 27 := ((hFvy27 27 (by decide)).trans (fn rfl (by decide)))
  have hkpy62 : Fvy27 29 = F 29 := ((hFvy27 29 (by decide)).trans (fn rfl (by decide)))
  exact z_iret C hr hlk dX10_stands_28 (by decide) (by decide) ⟨0, rfl, rfl, rfl, by omega, ⟨_, _, hMy47, ⟨hkpy48, hkpy49, hkpy50, hkpy51, hkpy52, hkpy53, hkpy54, hkpy55, hkpy56, hkpy57, hkpy58⟩, ⟨(hkpy59.trans hp25), (hkpy60.trans hp26), (hkpy61.trans hp27), (hkpy62.trans hp29)⟩, (fun j _ => rfl)⟩, fun j j1 => by rw [hfvy27 _ (by omega)]; rw [egy25, va_up_ne _ _ (by omega)]⟩

set_option maxRecDepth 100000 in
set_option maxHeartbeats 4000000 in
theorem c_X10_stands (l : Launch) (D : va_G) (A : Nat → Prop) (cs : Nat → ClassId) (tt : Nat) (N : Nat) (ad : Nat → Nat) (g : Nat → va_E) (i : Nat) (hN : i + 30 ≤ N) (x : Int) (hx : 0 ≤ x ∧ x ≤ 512) (F r : Nat → Int) {st op ai fa mu tb tp : Nat → Int} (hM : okMr cs ad g i x F r st op ai fa mu tb tp) (hPl : F 25 = 0 ∧ F 26 = -1 ∧ F 27 = -1 ∧ F 29 = 0) (z : Int) (hz : -2147483648 ≤ z ∧ z ≤ 2147483647) (z1 : Int) (hz1 : -2147483648 ≤ z1 ∧ z1 ≤ 2147483647) : zM l yX10_stands cX10_stands 5 (some .int) ({ frames := 8, cells := 0, slots := 0, locals := 480 } : Room) D A cs tt N ad g [.ref (ad i), .int (zI (z)), .int (zI (z1))] (rI0 N ad fun q g' => (-2147483648 ≤ q ∧ q ≤ 2147483647) ∧ (∃ F' r' : Nat → Int, okMr cs ad g' i (x + 1) F' r' st op ai fa mu tb tp ∧ (F' 13 = F 13 ∧ F' 14 = F 14 ∧ F' 15 = F 15 ∧ F' 16 = F 16 ∧ F' 17 = F 17 ∧ F' 18 = F 18 ∧ F' 19 = F 19 ∧ F' 20 = F 20 ∧ F' 21 = F 21 ∧ F' 23 = F 23 ∧ F' 24 = F 24) ∧ (F' 25 = 0 ∧ F' 26 = -1 ∧ F' 27 = -1 ∧ F' 29 = 0) ∧ (∀ j, j < 350 ∨ 700 ≤ j → r' j = r j)) ∧ ∀ j, j < i ∨ i + 30 ≤ j ∨ (i + 8 ≤ j ∧ j ≤ i + 12) → g' j = g j) := by
  by_cases h9 : 0 ≤ z ∧ z ≤ 3
  · obtain ⟨n, rfl⟩ : ∃ n : Nat, z = (n : Int) := ⟨z.toNat, by omega⟩
    exact c_X10_stands_a l D A cs tt N ad g i hN x hx F r hM hPl n (by omega) z1 hz1
  · exact c_X10_stands_b l D A cs tt N ad g i hN x hx F r hM hPl z hz (by omega) z1 hz1

set_option maxRecDepth 100000 in
set_option maxHeartbeats 4000000 in
theorem c_X10_toLoad_a (l : Launch) (D : va_G) (A : Nat → Prop) (cs : Nat → ClassId) (tt : Nat) (N : Nat) (ad : Nat → Nat) (g : Nat → va_E) (i : Nat) (hN : i + 30 ≤ N) (x : Int) (hx : 0 ≤ x ∧ x ≤ 512) (F r : Nat → Int) {st op ai fa mu tb tp : Nat → Int} (hM : okMr cs ad g i x F r st op ai fa mu tb tp) (hPl : F 25 = 0 ∧ F 26 = -1 ∧ F 27 = -1 ∧ F 29 = 0) (n : Nat) (hn4 : n < 4) : zM l yX10_toLoad cX10_toLoad 3 (some .int) ({ frames := 9, cells := 0, slots := 0, locals := 540 } : Room) D A cs tt N ad g [.ref (ad i), .int (zI ((n : Int)))] (rI0 N ad fun q g' => (-2147483648 ≤ q ∧ q ≤ 2147483647) ∧ (∃ F' r' : Nat → Int, okMr cs ad g' i (x + 1) F' r' st op ai fa mu tb tp ∧ (F' 13 = F 13 ∧ F' 14 = F 14 ∧ F' 15 = F 15 ∧ F' 16 = F 16 ∧ F' 17 = F 17 ∧ F' 18 = F 18 ∧ F' 19 = F 19 ∧ F' 20 = F 20 ∧ F' 21 = F 21 ∧ F' 23 = F 23 ∧ F' 24 = F 24) ∧ (F' 25 = 0 ∧ F' 26 = -1 ∧ F' 27 = -1 ∧ F' 29 = 0) ∧ (∀ j, j < 350 ∨ 700 ≤ j → r' j = r j)) ∧ ∀ j, j < i ∨ i + 30 ≤ j ∨ (i + 8 ≤ j ∧ j ≤ i + 12) → g' j = g j) := by
  obtain ⟨hg, ⟨⟨e13, e14, e25, e27, e29⟩, k15, k16, k17, k18, k19, k20, k23, k21⟩, hRD, hTx, hA, ns, nh, nd, rf, pi, te, ki, li, ok1, ok2, fo, dd, dps, ⟨ha1, ha2, ha3, ha4, ha5, ha6, ha7, ha8, ha9, ha10, ha11, ha12, ha13, ha14, ha15, ha24, ha25, ha26, ha27, ha28, ha29⟩, hEv, hPt, hns, htp⟩ := id hM
  obtain ⟨-, hop, hai, hfa, hT, hT1⟩ := id hEv
  have hay1 : zAt ad (i) (ad i) := rfl
  have hay2 : zAt ad (i + 1) (ad (i + 1)) := rfl
  have hay3 : zAt ad (i + 2) (ad (i + 2)) := rfl
  have hay4 : zAt ad (i + 3) (ad (i + 3)) := rfl
  have hay5 : zAt ad (i + 4) (ad (i + 4)) := rfl
  have hay6 : zAt ad (i + 5) (ad (i + 5)) := rfl
  have hay7 : zAt ad (i + 6) (ad (i + 6)) := rfl
  have hay8 : zAt ad (i + 7) (ad (i + 7)) := rfl
  have hay9 : zAt ad (i + 8) (ad (i + 8)) := rfl
  have hay10 : zAt ad (i + 9) (ad (i + 9)) := rfl
  have hay11 : zAt ad (i + 10) (ad (i + 10)) := rfl
  have hay12 : zAt ad (i + 11) (ad (i + 11)) := rfl
  have hay13 : zAt ad (i + 12) (ad (i + 12)) := rfl
  have hay14 : zAt ad (i + 13) (ad (i + 13)) := rfl
  have hay15 : zAt ad (i + 14) (ad (i + 14)) := rfl
  have hay16 : zAt ad (i + 15) (ad (i + 15)) := rfl
  have hay17 : zAt ad (i + 24) (ad (i + 24)) := rfl
  have hay18 : zAt ad (i + 25) (ad (i + 25)) := rfl
  have hay19 : zAt ad (i + 26) (ad (i + 26)) := rfl
  have hay20 : zAt ad (i + 27) (ad (i + 27)) := rfl
  have hay21 : zAt ad (i + 28) (ad (i + 28)) := rfl
  have hay22 : zAt ad (i + 29) (ad (i + 29)) := rfl
  obtain ⟨⟨hsyy23, htyy23, hnyy23, hpyy23⟩, hlyy23⟩ := okA.at0 hA
  simp only [Nat.zero_add] at hsyy23 hnyy23 hpyy23
  have hmn : ∀ s, s < 4 → 0 ≤ r (6 + 86 * s) ∧ r (6 + 86 * s) ≤ 12 := fun s hs => (hsyy23 s hs).1
  have h5 : 0 ≤ r 5 ∧ r 5 ≤ 6 := hpyy23
  obtain ⟨hp25, hp26, hp27, hp29⟩ := id hPl
  refine z_of (by decide) (Nat.le_of_ble_eq_true rfl) ?_
  intro pZ eZ sZ mZ below meth cZ C hr hlk hnm
  refine z_lv (lv' := [(0, .ref (ad i)), (1, .int (zI ((n : Int))))]) [0, 1] rfl ?_
  refine z_aload_n C 0 dX10_toLoad_0 rfl ?_
  refine z_iconst (z := 0) C dX10_toLoad_1 rfl ?_
  refine z_put (fs' := mF ad (i) (uZ F 12 (0))) C (lt_A0 hN rfl) hay1 hg tyX10 tyX10_ok nmX10 rfl inA_X10 12 (by decide) q_1471 rfl rfl rfl rfl (Nat.le_of_ble_eq_true rfl) rfl dX10_toLoad_2 (fun gy24 egy25 => ?_)
  have hgy26 := up_s egy25
  refine z_aload_n C 0 dX10_toLoad_5 rfl ?_
  refine z_iload_n C 1 dX10_toLoad_6 rfl ?_
  have h13vy27 : (uZ F 12 (0)) 13 = F 13 := (fn rfl (by decide))
  have hey28 : (uZ F 12 (0)) 12 = 0 := (uZ_s _ _ _)
  refine z_cV (As := [.int (zI ((n : Int)))]) (rest := []) (ci := 12) C (c_X10_isSlope l D A cs tt N ad _ i hN _ hgy26 (by omega) (by omega) ((n : Int)) (by omega)) (lt_A0 hN rfl) hay1 hgy26 rfl rfl mv_yX10_isSlope q_1803 hd_yX10_isSlope (by decide) (Nat.le_of_ble_eq_true rfl) (by decide) dX10_toLoad_7 rfl (kI0 fun vy27 gvy27 hvy27 => ?_)
  rw [h13vy27] at hvy27
  obtain ⟨hrvy27, ⟨Fvy27, hcvy27, htvy27, hFvy27⟩, hfvy27⟩ := hvy27
  rcases (show vy27 = 1 ∨ vy27 = 0 by omega) with rfl | rfl
  · have hxvy27 := hrvy27.2 rfl
    refine z_if_ne (tgt := 15) C dX10_toLoad_10 (by decide) (by omega) (fun _ => ?_) (fun h => absurd h (by omega))
    refine z_iconst (z := 1) C dX10_toLoad_15 rfl ?_
    refine z_istore_n (lv' := [(2, .int (zI (1))), (0, .ref (ad i)), (1, .int (zI ((n : Int))))]) C dX10_toLoad_16 rfl (by decide) rfl ?_
    have lp1 : ∀ (n9 : Nat) (nn : Int) (g1 : Nat → va_E), (100 - nn).toNat = n9 → (gvy27 = g1) → (1 ≤ nn ∧ nn ≤ 100) → zV pZ l eZ ({ frames := 9, cells := 0, slots := 0, locals := 540 } : Room) sZ mZ ([.ref (ad i), .int (zI ((n : Int)))] : List Value).toArray below meth cZ (MQ below (zPost D A (rI0 N ad fun q g' => (-2147483648 ≤ q ∧ q ≤ 2147483647) ∧ (∃ F' r' : Nat → Int, okMr cs ad g' i (x + 1) F' r' st op ai fa mu tb tp ∧ (F' 13 = F 13 ∧ F' 14 = F 14 ∧ F' 15 = F 15 ∧ F' 16 = F 16 ∧ F' 17 = F 17 ∧ F' 18 = F 18 ∧ F' 19 = F 19 ∧ F' 20 = F 20 ∧ F' 21 = F 21 ∧ F' 23 = F 23 ∧ F' 24 = F 24) ∧ (F' 25 = 0 ∧ F' 26 = -1 ∧ F' 27 = -1 ∧ F' 29 = 0) ∧ (∀ j, j < 350 ∨ 700 ≤ j → r' j = r j)) ∧ ∀ j, j < i ∨ i + 30 ≤ j ∨ (i + 8 ≤ j ∧ j ≤ i + 12) → g' j = g j)) ([.ref (ad i), .int (zI ((n : Int)))] : List Value).toArray sZ ({ frames := 9, cells := 0, slots := 0, locals := 540 } : Room).cells ({ frames := 9, cells := 0, slots := 0, locals := 540 } : Room).slots A) D A 3 (N) ad g1 (0) (0) 17 [(0, .ref (ad i)), (1, .int (zI ((n : Int)))), (2, .int (zI (nn)))] [] := by
      intro n9
      induction n9 using Nat.strongRecOn with
      | ind n9 ih_lp1 =>
        intro nn g1 hm9 hgz hvlp10
        subst hgz
        refine z_iload_n C 2 dX10_toLoad_17 rfl ?_
        refine z_bipush (z := 99) C dX10_toLoad_18 (by decide) ?_
        refine z_icmp_gt (tgt := 49) C dX10_toLoad_20 (by decide) (by omega) (by omega) (fun hby29 => ?_) (fun hby29 => ?_)
        · refine z_iconst (z := -1) C dX10_toLoad_49 rfl ?_
          have hgy30 := up_n egy25 ha1 (ne_o (i := i) (c := 1) (d := 0) rfl)
          have hgy31 := (hfvy27 (i + 1) (ne_o (i := i) (c := 1) (d := 0) rfl)).trans hgy30
          have hFy32 : ∀ f, f ≠ 12 → Fvy27 f = F f := fun f n12 => ((hFvy27 f n12).trans ((uZ_n _ _ n12).trans rfl))
          have hey33 : Fvy27 13 = F 13 := ((hFvy27 13 (by decide)).trans (fn rfl (by decide)))
          have hey34 : Fvy27 14 = F 14 := ((hFvy27 14 (by decide)).trans (fn rfl (by decide)))
          have hey35 : Fvy27 15 = F 15 := ((hFvy27 15 (by decide)).trans (fn rfl (by decide)))
          have hey36 : Fvy27 16 = F 16 := ((hFvy27 16 (by decide)).trans (fn rfl (by decide)))
          have hey37 : Fvy27 17 = F 17 := ((hFvy27 17 (by decide)).trans (fn rfl (by decide)))
          have hey38 : Fvy27 18 = F 18 := ((hFvy27 18 (by decide)).trans (fn rfl (by decide)))
          have hey39 : Fvy27 19 = F 19 := ((hFvy27 19 (by decide)).trans (fn rfl (by decide)))
          have hey40 : Fvy27 20 = F 20 := ((hFvy27 20 (by decide)).trans (fn rfl (by decide)))
          have hey41 : Fvy27 21 = F 21 := ((hFvy27 21 (by decide)).trans (fn rfl (by decide)))
          have hey42 : Fvy27 23 = F 23 := ((hFvy27 23 (by decide)).trans (fn rfl (by decide)))
          have hey43 : Fvy27 25 = F 25 := ((hFvy27 25 (by decide)).trans (fn rfl (by decide)))
          have hey44 : Fvy27 27 = F 27 := ((hFvy27 27 (by decide)).trans (fn rfl (by decide)))
          have hey45 : Fvy27 28 = F 28 := ((hFvy27 28 (by decide)).trans (fn rfl (by decide)))
          have hey46 : Fvy27 29 = F 29 := ((hFvy27 29 (by decide)).trans (fn rfl (by decide)))
          have hKy47 : okF Fvy27 := okF.mv hM.2.1 hey33 hey34 hey35 hey36 hey37 hey38 hey39 hey40 hey41 hey42 hey43 hey44 hey45 hey46
          have hMy48 : okMr cs ad gvy27 i (x + 1) Fvy27 r st op ai fa mu tb tp := okMr.upd hM hcvy27 hKy47 (fun f a => hFy32 f (by omega)) hgy31 (hA.mono (by omega)) (fun j a b => by
              exact Or.inl (by rw [hfvy27 _ (by omega)]; rw [egy25, va_up_ne _ _ (by omega)]))
          have hkpy49 : Fvy27 13 = F 13 := ((hFvy27 13 (by decide)).trans (fn rfl (by decide)))
          have hkpy50 : Fvy27 14 = F 14 := ((hFvy27 14 (by decide)).trans (fn rfl (by decide)))
          have hkpy51 : Fvy27 15 = F 15 := ((hFvy27 15 (by decide)).trans (fn rfl (by decide)))
          have hkpy52 : Fvy27 16 = F 16 := ((hFvy27 16 (by decide)).trans (fn rfl (by decide)))
          have hkpy53 : Fvy27 17 = F 17 := ((hFvy27 17 (by decide)).trans (fn rfl (by decide)))
          have hkpy54 : Fvy27 18 = F 18 := ((hFvy27 18 (by decide)).trans (fn rfl (by decide)))
          have hkpy55 : Fvy27 19 = F 19 := ((hFvy27 19 (by decide)).trans (fn rfl (by decide)))
          have hkpy56 : Fvy27 20 = F 20 := ((hFvy27 20 (by decide)).trans (fn rfl (by decide)))
          have hkpy57 : Fvy27 21 = F 21 := ((hFvy27 21 (by decide)).trans (fn rfl (by decide)))
          have hkpy58 : Fvy27 23 = F 23 := ((hFvy27 23 (by decide)).trans (fn rfl (by decide)))
          have hkpy59 : Fvy27 24 = F 24 := ((hFvy27 24 (by decide)).trans (fn rfl (by decide)))
          have hkpy60 : Fvy27 25 = F 25 := ((hFvy27 25 (by decide)).trans (fn rfl (by decide)))
          have hkpy61 : Fvy27 26 = F 26 := ((hFvy27 26 (by decide)).trans (fn rfl (by decide)))
          have hkpy62 : Fvy27 27 = F 27 := ((hFvy27 27 (by decide)).trans (fn rfl (by decide)))
          have hkpy63 : Fvy27 29 = F 29 := ((hFvy27 29 (by decide)).trans (fn rfl (by decide)))
          exact z_iret C hr hlk dX10_toLoad_50 (by decide) (by decide) ⟨-1, rfl, rfl, rfl, by omega, ⟨_, _, hMy48, ⟨hkpy49, hkpy50, hkpy51, hkpy52, hkpy53, hkpy54, hkpy55, hkpy56, hkpy57, hkpy58, hkpy59⟩, ⟨(hkpy60.trans hp25), (hkpy61.trans hp26), (hkpy62.trans hp27), (hkpy63.trans hp29)⟩, (fun j _ => rfl)⟩, fun j j1 => by rw [hfvy27 _ (by omega)]; rw [egy25, va_up_ne _ _ (by omega)]⟩
        · refine z_aload_n C 0 dX10_toLoad_23 rfl ?_
          refine z_iconst (z := 0) C dX10_toLoad_24 rfl ?_
          refine z_iload_n C 1 dX10_toLoad_25 rfl ?_
          refine z_iload_n C 2 dX10_toLoad_26 rfl ?_
          refine z_aload_n C 0 dX10_toLoad_27 rfl ?_
          refine z_get (v := .ref (ad (i + 2))) C (lt_A0 hN rfl) hay1 hcvy27 rfl inA_X10 1 (by decide) q_1460 rfl rfl dX10_toLoad_28 ?_
          refine z_iload_n C 1 dX10_toLoad_31 rfl ?_
          have hgy64 := up_n egy25 ha2 (ne_o (i := i) (c := 2) (d := 0) rfl)
          have hgy65 := (hfvy27 (i + 2) (ne_o (i := i) (c := 2) (d := 0) rfl)).trans hgy64
          refine z_iald C (lt_A (c := 2) hN rfl) hay3 hgy65 (n) (by omega) (by omega) (by decide) dX10_toLoad_32 ?_
          obtain ⟨xy66, exy67, hxy68⟩ := zI_of (zI (st (n)))
          rw [exy67]
          obtain ⟨py69, hpy69⟩ : ∃ p9 : Nat, 0 + 6 + 86 * n = p9 := ⟨_, rfl⟩
          have hgy70 := up_n egy25 ha1 (ne_o (i := i) (c := 1) (d := 0) rfl)
          have hgy71 := (hfvy27 (i + 1) (ne_o (i := i) (c := 1) (d := 0) rfl)).trans hgy70
          have hgy73 := up_n egy25 ha7 (ne_o (i := i) (c := 7) (d := 0) rfl)
          have hgy74 := (hfvy27 (i + 7) (ne_o (i := i) (c := 7) (d := 0) rfl)).trans hgy73
          have hqy75 : qS r py69 := (((okA.at0 hA).1.1 n (by omega)).of (p2 := py69) (by omega)).q (by have hb9 := mBb (t := r 0 + x) (by omega); omega)
          have hmky76 := hqy75.1
          refine z_cV (As := [.int (zI (0)), .int (zI ((n : Int))), .int (zI (nn)), .int (zI (xy66))]) (rest := []) (ci := 12) C (c_X10_leastRatioBy l D A cs tt N ad _ i hN _ hcvy27 _ hgy71 _ hgy74 0 n py69 hpy69 (by omega) (by omega) hqy75 (nn) (by omega) (xy66) (by omega)) (lt_A0 hN rfl) hay1 hcvy27 rfl rfl mv_yX10_leastRatioBy q_1764 hd_yX10_leastRatioBy (by decide) (Nat.le_of_ble_eq_true rfl) (by decide) dX10_toLoad_33 rfl (kI0 fun vy72 gvy72 hvy72 => ?_)
          obtain ⟨hvy72, hzvy72, rfl⟩ := hvy72
          refine z_bipush (z := 100) C dX10_toLoad_36 (by decide) ?_
          refine z_icmp_ge (tgt := 43) C dX10_toLoad_38 (by decide) (by omega) (by omega) (fun hby77 => ?_) (fun hby77 => ?_)
          · refine z_iinc (z := nn + 1) (lv' := [(2, .int (zI (nn + 1))), (0, .ref (ad i)), (1, .int (zI ((n : Int))))]) (j := 2) C dX10_toLoad_43 rfl rfl (by decide) rfl ?_
            refine z_goto (tgt := 17) C dX10_toLoad_46 (by decide) ?_
            refine z_lv (lv' := [(0, .ref (ad i)), (1, .int (zI ((n : Int)))), (2, .int (zI (nn + 1)))]) [1, 2, 0] rfl ?_
            exact ih_lp1 _ (by omega) (nn + 1) _ rfl rfl (by omega)
          · refine z_iload_n C 2 dX10_toLoad_41 rfl ?_
            have hFy78 : ∀ f, f ≠ 12 → Fvy27 f = F f := fun f n12 => ((hFvy27 f n12).trans ((uZ_n _ _ n12).trans rfl))
            have hey79 : Fvy27 13 = F 13 := ((hFvy27 13 (by decide)).trans (fn rfl (by decide)))
            have hey80 : Fvy27 14 = F 14 := ((hFvy27 14 (by decide)).trans (fn rfl (by decide)))
            have hey81 : Fvy27 15 = F 15 := ((hFvy27 15 (by decide)).trans (fn rfl (by decide)))
            have hey82 : Fvy27 16 = F 16 := ((hFvy27 16 (by decide)).trans (fn rfl (by decide)))
            have hey83 : Fvy27 17 = F 17 := ((hFvy27 17 (by decide)).trans (fn rfl (by decide)))
            have hey84 : Fvy27 18 = F 18 := ((hFvy27 18 (by decide)).trans (fn rfl (by decide)))
            have hey85 : Fvy27 19 = F 19 := ((hFvy27 19 (by decide)).trans (fn rfl (by decide)))
            have hey86 : Fvy27 20 = F 20 := ((hFvy27 20 (by decide)).trans (fn rfl (by decide)))
            have hey87 : Fvy27 21 = F 21 := ((hFvy27 21 (by decide)).trans (fn rfl (by decide)))
            have hey88 : Fvy27 23 = F 23 := ((hFvy27 23 (by decide)).trans (fn rfl (by decide)))
            have hey89 : Fvy27 25 = F 25 := ((hFvy27 25 (by decide)).trans (fn rfl (by decide)))
            have hey90 : Fvy27 27 = F 27 := ((hFvy27 27 (by decide)).trans (fn rfl (by decide)))
            have hey91 : Fvy27 28 = F 28 := ((hFvy27 28 (by decide)).trans (fn rfl (by decide)))
            have hey92 : Fvy27 29 = F 29 := ((hFvy27 29 (by decide)).trans (fn rfl (by decide)))
            have hKy93 : okF Fvy27 := okF.mv hM.2.1 hey79 hey80 hey81 hey82 hey83 hey84 hey85 hey86 hey87 hey88 hey89 hey90 hey91 hey92
            have hMy94 : okMr cs ad gvy27 i (x + 1) Fvy27 r st op ai fa mu tb tp := okMr.upd hM hcvy27 hKy93 (fun f a => hFy78 f (by omega)) hgy71 (hA.mono (by omega)) (fun j a b => by
                exact Or.inl (by rw [hfvy27 _ (by omega)]; rw [egy25, va_up_ne _ _ (by omega)]))
            have hkpy95 : Fvy27 13 = F 13 := ((hFvy27 13 (by decide)).trans (fn rfl (by decide)))
            have hkpy96 : Fvy27 14 = F 14 := ((hFvy27 14 (by decide)).trans (fn rfl (by decide)))
            have hkpy97 : Fvy27 15 = F 15 := ((hFvy27 15 (by decide)).trans (fn rfl (by decide)))
            have hkpy98 : Fvy27 16 = F 16 := ((hFvy27 16 (by decide)).trans (fn rfl (by decide)))
            have hkpy99 : Fvy27 17 = F 17 := ((hFvy27 17 (by decide)).trans (fn rfl (by decide)))
            have hkpy100 : Fvy27 18 = F 18 := ((hFvy27 18 (by decide)).trans (fn rfl (by decide)))
            have hkpy101 : Fvy27 19 = F 19 := ((hFvy27 19 (by decide)).trans (fn rfl (by decide)))
            have hkpy102 : Fvy27 20 = F 20 := ((hFvy27 20 (by decide)).trans (fn rfl (by decide)))
            have hkpy103 : Fvy27 21 = F 21 := ((hFvy27 21 (by decide)).trans (fn rfl (by decide)))
            have hkpy104 : Fvy27 23 = F 23 := ((hFvy27 23 (by decide)).trans (fn rfl (by decide)))
            have hkpy105 : Fvy27 24 = F 24 := ((hFvy27 24 (by decide)).trans (fn rfl (by decide)))
            have hkpy106 : Fvy27 25 = F 25 := ((hFvy27 25 (by decide)).trans (fn rfl (by decide)))
            have hkpy107 : Fvy27 26 = F 26 := ((hFvy27 26 (by decide)).trans (fn rfl (by decide)))
            have hkpy108 : Fvy27 27 = F 27 := ((hFvy27 27 (by decide)).trans (fn rfl (by decide)))
            have hkpy109 : Fvy27 29 = F 29 := ((hFvy27 29 (by decide)).trans (fn rfl (by decide)))
            exact z_iret C hr hlk dX10_toLoad_42 (by decide) (by decide) ⟨nn, rfl, rfl, rfl, by omega, ⟨_, _, hMy94, ⟨hkpy95, hkpy96, hkpy97, hkpy98, hkpy99, hkpy100, hkpy101, hkpy102, hkpy103, hkpy104, hkpy105⟩, ⟨(hkpy106.trans hp25), (hkpy107.trans hp26), (hkpy108.trans hp27), (hkpy109.trans hp29)⟩, (fun j _ => rfl)⟩, fun j j1 => by rw [hfvy27 _ (by omega)]; rw [egy25, va_up_ne _ _ (by omega)]⟩
    refine z_lv (lv' := [(0, .ref (ad i)), (1, .int (zI ((n : Int)))), (2, .int (zI (1)))]) [1, 2, 0] rfl ?_
    exact lp1 _ (1) _ rfl rfl (by omega)
  · refine z_if_ne (tgt := 15) C dX10_toLoad_10 (by decide) (by omega) (fun h => absurd h (by omega)) (fun _ => ?_)
    refine z_iconst (z := 0) C dX10_toLoad_13 rfl ?_
    have hgy110 := up_n egy25 ha1 (ne_o (i := i) (c := 1) (d := 0) rfl)
    have hgy111 := (hfvy27 (i + 1) (ne_o (i := i) (c := 1) (d := 0) rfl)).trans hgy110
    have hFy112 : ∀ f, f ≠ 12 → Fvy27 f = F f := fun f n12 => ((hFvy27 f n12).trans ((uZ_n _ _ n12).trans rfl))
    have hey113 : Fvy27 13 = F 13 := ((hFvy27 13 (by decide)).trans (fn rfl (by decide)))
    have hey114 : Fvy27 14 = F 14 := ((hFvy27 14 (by decide)).trans (fn rfl (by decide)))
    have hey115 : Fvy27 15 = F 15 := ((hFvy27 15 (by decide)).trans (fn rfl (by decide)))
    have hey116 : Fvy27 16 = F 16 := ((hFvy27 16 (by decide)).trans (fn rfl (by decide)))
    have hey117 : Fvy27 17 = F 17 := ((hFvy27 17 (by decide)).trans (fn rfl (by decide)))
    have hey118 : Fvy27 18 = F 18 := ((hFvy27 18 (by decide)).trans (fn rfl (by decide)))
    have hey119 : Fvy27 19 = F 19 := ((hFvy27 19 (by decide)).trans (fn rfl (by decide)))
    have hey120 : Fvy27 20 = F 20 := ((hFvy27 20 (by decide)).trans (fn rfl (by decide)))
    have hey121 : Fvy27 21 = F 21 := ((hFvy27 21 (by decide)).trans (fn rfl (by decide)))
    have hey122 : Fvy27 23 = F 23 := ((hFvy27 23 (by decide)).trans (fn rfl (by decide)))
    have hey123 : Fvy27 25 = F 25 := ((hFvy27 25 (by decide)).trans (fn rfl (by decide)))
    have hey124 : Fvy27 27 = F 27 := ((hFvy27 27 (by decide)).trans (fn rfl (by decide)))
    have hey125 : Fvy27 28 = F 28 := ((hFvy27 28 (by decide)).trans (fn rfl (by decide)))
    have hey126 : Fvy27 29 = F 29 := ((hFvy27 29 (by decide)).trans (fn rfl (by decide)))
    have hKy127 : okF Fvy27 := okF.mv hM.2.1 hey113 hey114 hey115 hey116 hey117 hey118 hey119 hey120 hey121 hey122 hey123 hey124 hey125 hey126
    have hMy128 : okMr cs ad gvy27 i (x + 1) Fvy27 r st op ai fa mu tb tp := okMr.upd hM hcvy27 hKy127 (fun f a => hFy112 f (by omega)) hgy111 (hA.mono (by omega)) (fun j a b => by
        exact Or.inl (by rw [hfvy27 _ (by omega)]; rw [egy25, va_up_ne _ _ (by omega)]))
    have hkpy129 : Fvy27 13 = F 13 := ((hFvy27 13 (by decide)).trans (fn rfl (by decide)))
    have hkpy130 : Fvy27 14 = F 14 := ((hFvy27 14 (by decide)).trans (fn rfl (by decide)))
    have hkpy131 : Fvy27 15 = F 15 := ((hFvy27 15 (by decide)).trans (fn rfl (by decide)))
    have hkpy132 : Fvy27 16 = F 16 := ((hFvy27 16 (by decide)).trans (fn rfl (by decide)))
    have hkpy133 : Fvy27 17 = F 17 := ((hFvy27 17 (by decide)).trans (fn rfl (by decide)))
    have hkpy134 : Fvy27 18 = F 18 := ((hFvy27 18 (by decide)).trans (fn rfl (by decide)))
    have hkpy135 : Fvy27 19 = F 19 := ((hFvy27 19 (by decide)).trans (fn rfl (by decide)))
    have hkpy136 : Fvy27 20 = F 20 := ((hFvy27 20 (by decide)).trans (fn rfl (by decide)))
    have hkpy137 : Fvy27 21 = F 21 := ((hFvy27 21 (by decide)).trans (fn rfl (by decide)))
    have hkpy138 : Fvy27 23 = F 23 := ((hFvy27 23 (by decide)).trans (fn rfl (by decide)))
    have hkpy139 : Fvy27 24 = F 24 := ((hFvy27 24 (by decide)).trans (fn rfl (by decide)))
    have hkpy140 : Fvy27 25 = F 25 := ((hFvy27 25 (by decide)).trans (fn rfl (by decide)))
    have hkpy141 : Fvy27 26 = F 26 := ((hFvy27 26 (by decide)).trans (fn rfl (by decide)))
    have hkpy142 : Fvy27 27 = F 27 := ((hFvy27 27 (by decide)).trans (fn rfl (by decide)))
    have hkpy143 : Fvy27 29 = F 29 := ((hFvy27 29 (by decide)).trans (fn rfl (by decide)))
    exact z_iret C hr hlk dX10_toLoad_14 (by decide) (by decide) ⟨0, rfl, rfl, rfl, by omega, ⟨_, _, hMy128, ⟨hkpy129, hkpy130, hkpy131, hkpy132, hkpy133, hkpy134, hkpy135, hkpy136, hkpy137, hkpy138, hkpy139⟩, ⟨(hkpy140.trans hp25), (hkpy141.trans hp26), (hkpy142.trans hp27), (hkpy143.trans hp29)⟩, (fun j _ => rfl)⟩, fun j j1 => by rw [hfvy27 _ (by omega)]; rw [egy25, va_up_ne _ _ (by omega)]⟩

set_option maxRecDepth 100000 in
set_option maxHeartbeats 4000000 in
theorem c_X10_toLoad_b (l : Launch) (D : va_G) (A : Nat → Prop) (cs : Nat → ClassId) (tt : Nat) (N : Nat) (ad : Nat → Nat) (g : Nat → va_E) (i : Nat) (hN : i + 30 ≤ N) (x : Int) (hx : 0 ≤ x ∧ x ≤ 512) (F r : Nat → Int) {st op ai fa mu tb tp : Nat → Int} (hM : okMr cs ad g i x F r st op ai fa mu tb tp) (hPl : F 25 = 0 ∧ F 26 = -1 ∧ F 27 = -1 ∧ F 29 = 0) (z : Int) (hz : -2147483648 ≤ z ∧ z ≤ 2147483647) (hzo : z < 0 ∨ 3 < z) : zM l yX10_toLoad cX10_toLoad 3 (some .int) ({ frames := 9, cells := 0, slots := 0, locals := 540 } : Room) D A cs tt N ad g [.ref (ad i), .int (zI (z))] (rI0 N ad fun q g' => (-2147483648 ≤ q ∧ q ≤ 2147483647) ∧ (∃ F' r' : Nat → Int, okMr cs ad g' i (x + 1) F' r' st op ai fa mu tb tp ∧ (F' 13 = F 13 ∧ F' 14 = F 14 ∧ F' 15 = F 15 ∧ F' 16 = F 16 ∧ F' 17 = F 17 ∧ F' 18 = F 18 ∧ F' 19 = F 19 ∧ F' 20 = F 20 ∧ F' 21 = F 21 ∧ F' 23 = F 23 ∧ F' 24 = F 24) ∧ (F' 25 = 0 ∧ F' 26 = -1 ∧ F' 27 = -1 ∧ F' 29 = 0) ∧ (∀ j, j < 350 ∨ 700 ≤ j → r' j = r j)) ∧ ∀ j, j < i ∨ i + 30 ≤ j ∨ (i + 8 ≤ j ∧ j ≤ i + 12) → g' j = g j) := by
  obtain ⟨hg, ⟨⟨e13, e14, e25, e27, e29⟩, k15, k16, k17, k18, k19, k20, k23, k21⟩, hRD, hTx, hA, ns, nh, nd, rf, pi, te, ki, li, ok1, ok2, fo, dd, dps, ⟨ha1, ha2, ha3, ha4, ha5, ha6, ha7, ha8, ha9, ha10, ha11, ha12, ha13, ha14, ha15, ha24, ha25, ha26, ha27, ha28, ha29⟩, hEv, hPt, hns, htp⟩ := id hM
  obtain ⟨-, hop, hai, hfa, hT, hT1⟩ := id hEv
  have hay1 : zAt ad (i) (ad i) := rfl
  have hay2 : zAt ad (i + 1) (ad (i + 1)) := rfl
  have hay3 : zAt ad (i + 2) (ad (i + 2)) := rfl
  have hay4 : zAt ad (i + 3) (ad (i + 3)) := rfl
  have hay5 : zAt ad (i + 4) (ad (i + 4)) := rfl
  have hay6 : zAt ad (i + 5) (ad (i + 5)) := rfl
  have hay7 : zAt ad (i + 6) (ad (i + 6)) := rfl
  have hay8 : zAt ad (i + 7) (ad (i + 7)) := rfl
  have hay9 : zAt ad (i + 8) (ad (i + 8)) := rfl
  have hay10 : zAt ad (i + 9) (ad (i + 9)) := rfl
  have hay11 : zAt ad (i + 10) (ad (i + 10)) := rfl
  have hay12 : zAt ad (i + 11) (ad (i + 11)) := rfl
  have hay13 : zAt ad (i + 12) (ad (i + 12)) := rfl
  have hay14 : zAt ad (i + 13) (ad (i + 13)) := rfl
  have hay15 : zAt ad (i + 14) (ad (i + 14)) := rfl
  have hay16 : zAt ad (i + 15) (ad (i + 15)) := rfl
  have hay17 : zAt ad (i + 24) (ad (i + 24)) := rfl
  have hay18 : zAt ad (i + 25) (ad (i + 25)) := rfl
  have hay19 : zAt ad (i + 26) (ad (i + 26)) := rfl
  have hay20 : zAt ad (i + 27) (ad (i + 27)) := rfl
  have hay21 : zAt ad (i + 28) (ad (i + 28)) := rfl
  have hay22 : zAt ad (i + 29) (ad (i + 29)) := rfl
  obtain ⟨⟨hsyy23, htyy23, hnyy23, hpyy23⟩, hlyy23⟩ := okA.at0 hA
  simp only [Nat.zero_add] at hsyy23 hnyy23 hpyy23
  have hmn : ∀ s, s < 4 → 0 ≤ r (6 + 86 * s) ∧ r (6 + 86 * s) ≤ 12 := fun s hs => (hsyy23 s hs).1
  have h5 : 0 ≤ r 5 ∧ r 5 ≤ 6 := hpyy23
  obtain ⟨hp25, hp26, hp27, hp29⟩ := id hPl
  refine z_of (by decide) (Nat.le_of_ble_eq_true rfl) ?_
  intro pZ eZ sZ mZ below meth cZ C hr hlk hnm
  refine z_lv (lv' := [(0, .ref (ad i)), (1, .int (zI (z)))]) [0, 1] rfl ?_
  refine z_aload_n C 0 dX10_toLoad_0 rfl ?_
  refine z_iconst (z := 0) C dX10_toLoad_1 rfl ?_
  refine z_put (fs' := mF ad (i) (uZ F 12 (0))) C (lt_A0 hN rfl) hay1 hg tyX10 tyX10_ok nmX10 rfl inA_X10 12 (by decide) q_1471 rfl rfl rfl rfl (Nat.le_of_ble_eq_true rfl) rfl dX10_toLoad_2 (fun gy24 egy25 => ?_)
  have hgy26 := up_s egy25
  refine z_aload_n C 0 dX10_toLoad_5 rfl ?_
  refine z_iload_n C 1 dX10_toLoad_6 rfl ?_
  have h13vy27 : (uZ F 12 (0)) 13 = F 13 := (fn rfl (by decide))
  have hey28 : (uZ F 12 (0)) 12 = 0 := (uZ_s _ _ _)
  refine z_cV (As := [.int (zI (z))]) (rest := []) (ci := 12) C (c_X10_isSlope l D A cs tt N ad _ i hN _ hgy26 (by omega) (by omega) (z) (by omega)) (lt_A0 hN rfl) hay1 hgy26 rfl rfl mv_yX10_isSlope q_1803 hd_yX10_isSlope (by decide) (Nat.le_of_ble_eq_true rfl) (by decide) dX10_toLoad_7 rfl (kI0 fun vy27 gvy27 hvy27 => ?_)
  rw [h13vy27] at hvy27
  obtain ⟨hrvy27, ⟨Fvy27, hcvy27, htvy27, hFvy27⟩, hfvy27⟩ := hvy27
  obtain rfl : vy27 = 0 := by omega
  refine z_if_ne (tgt := 15) C dX10_toLoad_10 (by decide) (by omega) (fun h => absurd h (by omega)) (fun _ => ?_)
  refine z_iconst (z := 0) C dX10_toLoad_13 rfl ?_
  have hgy29 := up_n egy25 ha1 (ne_o (i := i) (c := 1) (d := 0) rfl)
  have hgy30 := (hfvy27 (i + 1) (ne_o (i := i) (c := 1) (d := 0) rfl)).trans hgy29
  have hFy31 : ∀ f, f ≠ 12 → Fvy27 f = F f := fun f n12 => ((hFvy27 f n12).trans ((uZ_n _ _ n12).trans rfl))
  have hey32 : Fvy27 13 = F 13 := ((hFvy27 13 (by decide)).trans (fn rfl (by decide)))
  have hey33 : Fvy27 14 = F 14 := ((hFvy27 14 (by decide)).trans (fn rfl (by decide)))
  have hey34 : Fvy27 15 = F 15 := ((hFvy27 15 (by decide)).trans (fn rfl (by decide)))
  have hey35 : Fvy27 16 = F 16 := ((hFvy27 16 (by decide)).trans (fn rfl (by decide)))
  have hey36 : Fvy27 17 = F 17 := ((hFvy27 17 (by decide)).trans (fn rfl (by decide)))
  have hey37 : Fvy27 18 = F 18 := ((hFvy27 18 (by decide)).trans (fn rfl (by decide)))
  have hey38 : Fvy27 19 = F 19 := ((hFvy27 19 (by decide)).trans (fn rfl (by decide)))
  have hey39 : Fvy27 20 = F 20 := ((hFvy27 20 (by decide)).trans (fn rfl (by decide)))
  have hey40 : Fvy27 21 = F 21 := ((hFvy27 21 (by decide)).trans (fn rfl (by decide)))
  have hey41 : Fvy27 23 = F 23 := ((hFvy27 23 (by decide)).trans (fn rfl (by decide)))
  have hey42 : Fvy27 25 = F 25 := ((hFvy27 25 (by decide)).trans (fn rfl (by decide)))
  have hey43 : Fvy27 27 = F 27 := ((hFvy27 27 (by decide)).trans (fn rfl (by decide)))
  have hey44 : Fvy27 28 = F 28 := ((hFvy27 28 (by decide)).trans (fn rfl (by decide)))
  have hey45 : Fvy27 29 = F 29 := ((hFvy27 29 (by decide)).trans (fn rfl (by decide)))
  have hKy46 : okF Fvy27 := okF.mv hM.2.1 hey32 hey33 hey34 hey35 hey36 hey37 hey38 hey39 hey40 hey41 hey42 hey43 hey44 hey45
  have hMy47 : okMr cs ad gvy27 i (x + 1) Fvy27 r st op ai fa mu tb tp := okMr.upd hM hcvy27 hKy46 (fun f a => hFy31 f (by omega)) hgy30 (hA.mono (by omega)) (fun j a b => by
      exact Or.inl (by rw [hfvy27 _ (by omega)]; rw [egy25, va_up_ne _ _ (by omega)]))
  have hkpy48 : Fvy27 13 = F 13 := ((hFvy27 13 (by decide)).trans (fn rfl (by decide)))
  have hkpy49 : Fvy27 14 = F 14 := ((hFvy27 14 (by decide)).trans (fn rfl (by decide)))
  have hkpy50 : Fvy27 15 = F 15 := ((hFvy27 15 (by decide)).trans (fn rfl (by decide)))
  have hkpy51 : Fvy27 16 = F 16 := ((hFvy27 16 (by decide)).trans (fn rfl (by decide)))
  have hkpy52 : Fvy27 17 = F 17 := ((hFvy27 17 (by decide)).trans (fn rfl (by decide)))
  have hkpy53 : Fvy27 18 = F 18 := ((hFvy27 18 (by decide)).trans (fn rfl (by decide)))
  have hkpy54 : Fvy27 19 = F 19 := ((hFvy27 19 (by decide)).trans (fn rfl (by decide)))
  have hkpy55 : Fvy27 20 = F 20 := ((hFvy27 20 (by decide)).trans (fn rfl (by decide)))
  have hkpy56 : Fvy27 21 = F 21 := ((hFvy27 21 (by decide)).trans (fn rfl (by decide)))
  have hkpy57 : Fvy27 23 = F 23 := ((hFvy27 23 (by decide)).trans (fn rfl (by decide)))
  have hkpy58 : Fvy27 24 = F 24 := ((hFvy27 24 (by decide)).trans (fn rfl (by decide)))
  have hkpy59 : Fvy27 25 = F 25 := ((hFvy27 25 (by decide)).trans (fn rfl (by decide)))
  have hkpy60 : Fvy27 26 = F 26 := ((hFvy27 26 (by decide)).trans (fn rfl (by decide)))
  have hkpy61 : Fvy27 27 = F 27 := ((hFvy27 27 (by decide)).trans (fn rfl (by decide)))
  have hkpy62 : Fvy27 29 = F 29 := ((hFvy27 29 (by decide)).trans (fn rfl (by decide)))
  exact z_iret C hr hlk dX10_toLoad_14 (by decide) (by decide) ⟨0, rfl, rfl, rfl, by omega, ⟨_, _, hMy47, ⟨hkpy48, hkpy49, hkpy50, hkpy51, hkpy52, hkpy53, hkpy54, hkpy55, hkpy56, hkpy57, hkpy58⟩, ⟨(hkpy59.trans hp25), (hkpy60.trans hp26), (hkpy61.trans hp27), (hkpy62.trans hp29)⟩, (fun j _ => rfl)⟩, fun j j1 => by rw [hfvy27 _ (by omega)]; rw [egy25, va_up_ne _ _ (by omega)]⟩

set_option maxRecDepth 100000 in
set_option maxHeartbeats 4000000 in
theorem c_X10_toLoad (l : Launch) (D : va_G) (A : Nat → Prop) (cs : Nat → ClassId) (tt : Nat) (N : Nat) (ad : Nat → Nat) (g : Nat → va_E) (i : Nat) (hN : i + 30 ≤ N) (x : Int) (hx : 0 ≤ x ∧ x ≤ 512) (F r : Nat → Int) {st op ai fa mu tb tp : Nat → Int} (hM : okMr cs ad g i x F r st op ai fa mu tb tp) (hPl : F 25 = 0 ∧ F 26 = -1 ∧ F 27 = -1 ∧ F 29 = 0) (z : Int) (hz : -2147483648 ≤ z ∧ z ≤ 2147483647) : zM l yX10_toLoad cX10_toLoad 3 (some .int) ({ frames := 9, cells := 0, slots := 0, locals := 540 } : Room) D A cs tt N ad g [.ref (ad i), .int (zI (z))] (rI0 N ad fun q g' => (-2147483648 ≤ q ∧ q ≤ 2147483647) ∧ (∃ F' r' : Nat → Int, okMr cs ad g' i (x + 1) F' r' st op ai fa mu tb tp ∧ (F' 13 = F 13 ∧ F' 14 = F 14 ∧ F' 15 = F 15 ∧ F' 16 = F 16 ∧ F' 17 = F 17 ∧ F' 18 = F 18 ∧ F' 19 = F 19 ∧ F' 20 = F 20 ∧ F' 21 = F 21 ∧ F' 23 = F 23 ∧ F' 24 = F 24) ∧ (F' 25 = 0 ∧ F' 26 = -1 ∧ F' 27 = -1 ∧ F' 29 = 0) ∧ (∀ j, j < 350 ∨ 700 ≤ j → r' j = r j)) ∧ ∀ j, j < i ∨ i + 30 ≤ j ∨ (i + 8 ≤ j ∧ j ≤ i + 12) → g' j = g j) := by
  by_cases h9 : 0 ≤ z ∧ z ≤ 3
  · obtain ⟨n, rfl⟩ : ∃ n : Nat, z = (n : Int) := ⟨z.toNat, by omega⟩
    exact c_X10_toLoad_a l D A cs tt N ad g i hN x hx F r hM hPl n (by omega) 
  · exact c_X10_toLoad_b l D A cs tt N ad g i hN x hx F r hM hPl z hz (by omega) 

set_option maxRecDepth 100000 in
set_option maxHeartbeats 4000000 in
theorem c_X10_steepest_a (l : Launch) (D : va_G) (A : Nat → Prop) (cs : Nat → ClassId) (tt : Nat) (N : Nat) (ad : Nat → Nat) (g : Nat → va_E) (i : Nat) (hN : i + 30 ≤ N) (x : Int) (hx : 0 ≤ x ∧ x ≤ 512) (F r : Nat → Int) {st op ai fa mu tb tp : Nat → Int} (hM : okMr cs ad g i x F r st op ai fa mu tb tp) (hPl : F 25 = 0 ∧ F 26 = -1 ∧ F 27 = -1 ∧ F 29 = 0) (n : Nat) (hn4 : n < 4) : zM l yX10_steepest cX10_steepest 3 (some .int) ({ frames := 9, cells := 0, slots := 0, locals := 540 } : Room) D A cs tt N ad g [.ref (ad i), .int (zI ((n : Int)))] (rI0 N ad fun q g' => (-2147483648 ≤ q ∧ q ≤ 2147483647) ∧ (∃ F' r' : Nat → Int, okMr cs ad g' i (x + 1) F' r' st op ai fa mu tb tp ∧ (F' 13 = F 13 ∧ F' 14 = F 14 ∧ F' 15 = F 15 ∧ F' 16 = F 16 ∧ F' 17 = F 17 ∧ F' 18 = F 18 ∧ F' 19 = F 19 ∧ F' 20 = F 20 ∧ F' 21 = F 21 ∧ F' 23 = F 23 ∧ F' 24 = F 24) ∧ (F' 25 = 0 ∧ F' 26 = -1 ∧ F' 27 = -1 ∧ F' 29 = 0) ∧ (∀ j, j < 350 ∨ 700 ≤ j → r' j = r j)) ∧ ∀ j, j < i ∨ i + 30 ≤ j ∨ (i + 8 ≤ j ∧ j ≤ i + 12) → g' j = g j) := by
  obtain ⟨hg, ⟨⟨e13, e14, e25, e27, e29⟩, k15, k16, k17, k18, k19, k20, k23, k21⟩, hRD, hTx, hA, ns, nh, nd, rf, pi, te, ki, li, ok1, ok2, fo, dd, dps, ⟨ha1, ha2, ha3, ha4, ha5, ha6, ha7, ha8, ha9, ha10, ha11, ha12, ha13, ha14, ha15, ha24, ha25, ha26, ha27, ha28, ha29⟩, hEv, hPt, hns, htp⟩ := id hM
  obtain ⟨-, hop, hai, hfa, hT, hT1⟩ := id hEv
  have hay1 : zAt ad (i) (ad i) := rfl
  have hay2 : zAt ad (i + 1) (ad (i + 1)) := rfl
  have hay3 : zAt ad (i + 2) (ad (i + 2)) := rfl
  have hay4 : zAt ad (i + 3) (ad (i + 3)) := rfl
  have hay5 : zAt ad (i + 4) (ad (i + 4)) := rfl
  have hay6 : zAt ad (i + 5) (ad (i + 5)) := rfl
  have hay7 : zAt ad (i + 6) (ad (i + 6)) := rfl
  have hay8 : zAt ad (i + 7) (ad (i + 7)) := rfl
  have hay9 : zAt ad (i + 8) (ad (i + 8)) := rfl
  have hay10 : zAt ad (i + 9) (ad (i + 9)) := rfl
  have hay11 : zAt ad (i + 10) (ad (i + 10)) := rfl
  have hay12 : zAt ad (i + 11) (ad (i + 11)) := rfl
  have hay13 : zAt ad (i + 12) (ad (i + 12)) := rfl
  have hay14 : zAt ad (i + 13) (ad (i + 13)) := rfl
  have hay15 : zAt ad (i + 14) (ad (i + 14)) := rfl
  have hay16 : zAt ad (i + 15) (ad (i + 15)) := rfl
  have hay17 : zAt ad (i + 24) (ad (i + 24)) := rfl
  have hay18 : zAt ad (i + 25) (ad (i + 25)) := rfl
  have hay19 : zAt ad (i + 26) (ad (i + 26)) := rfl
  have hay20 : zAt ad (i + 27) (ad (i + 27)) := rfl
  have hay21 : zAt ad (i + 28) (ad (i + 28)) := rfl
  have hay22 : zAt ad (i + 29) (ad (i + 29)) := rfl
  obtain ⟨⟨hsyy23, htyy23, hnyy23, hpyy23⟩, hlyy23⟩ := okA.at0 hA
  simp only [Nat.zero_add] at hsyy23 hnyy23 hpyy23
  have hmn : ∀ s, s < 4 → 0 ≤ r (6 + 86 * s) ∧ r (6 + 86 * s) ≤ 12 := fun s hs => (hsyy23 s hs).1
  have h5 : 0 ≤ r 5 ∧ r 5 ≤ 6 := hpyy23
  obtain ⟨hp25, hp26, hp27, hp29⟩ := id hPl
  refine z_of (by decide) (Nat.le_of_ble_eq_true rfl) ?_
  intro pZ eZ sZ mZ below meth cZ C hr hlk hnm
  refine z_lv (lv' := [(0, .ref (ad i)), (1, .int (zI ((n : Int))))]) [0, 1] rfl ?_
  refine z_aload_n C 0 dX10_steepest_0 rfl ?_
  refine z_iconst (z := 0) C dX10_steepest_1 rfl ?_
  refine z_put (fs' := mF ad (i) (uZ F 12 (0))) C (lt_A0 hN rfl) hay1 hg tyX10 tyX10_ok nmX10 rfl inA_X10 12 (by decide) q_1471 rfl rfl rfl rfl (Nat.le_of_ble_eq_true rfl) rfl dX10_steepest_2 (fun gy24 egy25 => ?_)
  have hgy26 := up_s egy25
  refine z_aload_n C 0 dX10_steepest_5 rfl ?_
  refine z_iload_n C 1 dX10_steepest_6 rfl ?_
  have h13vy27 : (uZ F 12 (0)) 13 = F 13 := (fn rfl (by decide))
  have hey28 : (uZ F 12 (0)) 12 = 0 := (uZ_s _ _ _)
  refine z_cV (As := [.int (zI ((n : Int)))]) (rest := []) (ci := 12) C (c_X10_isSlope l D A cs tt N ad _ i hN _ hgy26 (by omega) (by omega) ((n : Int)) (by omega)) (lt_A0 hN rfl) hay1 hgy26 rfl rfl mv_yX10_isSlope q_1803 hd_yX10_isSlope (by decide) (Nat.le_of_ble_eq_true rfl) (by decide) dX10_steepest_7 rfl (kI0 fun vy27 gvy27 hvy27 => ?_)
  rw [h13vy27] at hvy27
  obtain ⟨hrvy27, ⟨Fvy27, hcvy27, htvy27, hFvy27⟩, hfvy27⟩ := hvy27
  rcases (show vy27 = 1 ∨ vy27 = 0 by omega) with rfl | rfl
  · have hxvy27 := hrvy27.2 rfl
    refine z_if_ne (tgt := 15) C dX10_steepest_10 (by decide) (by omega) (fun _ => ?_) (fun h => absurd h (by omega))
    refine z_bipush (z := 90) C dX10_steepest_15 (by decide) ?_
    refine z_istore_n (lv' := [(2, .int (zI (90))), (0, .ref (ad i)), (1, .int (zI ((n : Int))))]) C dX10_steepest_17 rfl (by decide) rfl ?_
    have lp1 : ∀ (n9 : Nat) (nn : Int) (g1 : Nat → va_E), (nn).toNat = n9 → (gvy27 = g1) → (0 ≤ nn ∧ nn ≤ 90) → zV pZ l eZ ({ frames := 9, cells := 0, slots := 0, locals := 540 } : Room) sZ mZ ([.ref (ad i), .int (zI ((n : Int)))] : List Value).toArray below meth cZ (MQ below (zPost D A (rI0 N ad fun q g' => (-2147483648 ≤ q ∧ q ≤ 2147483647) ∧ (∃ F' r' : Nat → Int, okMr cs ad g' i (x + 1) F' r' st op ai fa mu tb tp ∧ (F' 13 = F 13 ∧ F' 14 = F 14 ∧ F' 15 = F 15 ∧ F' 16 = F 16 ∧ F' 17 = F 17 ∧ F' 18 = F 18 ∧ F' 19 = F 19 ∧ F' 20 = F 20 ∧ F' 21 = F 21 ∧ F' 23 = F 23 ∧ F' 24 = F 24) ∧ (F' 25 = 0 ∧ F' 26 = -1 ∧ F' 27 = -1 ∧ F' 29 = 0) ∧ (∀ j, j < 350 ∨ 700 ≤ j → r' j = r j)) ∧ ∀ j, j < i ∨ i + 30 ≤ j ∨ (i + 8 ≤ j ∧ j ≤ i + 12) → g' j = g j)) ([.ref (ad i), .int (zI ((n : Int)))] : List Value).toArray sZ ({ frames := 9, cells := 0, slots := 0, locals := 540 } : Room).cells ({ frames := 9, cells := 0, slots := 0, locals := 540 } : Room).slots A) D A 3 (N) ad g1 (0) (0) 18 [(0, .ref (ad i)), (1, .int (zI ((n : Int)))), (2, .int (zI (nn)))] [] := by
      intro n9
      induction n9 using Nat.strongRecOn with
      | ind n9 ih_lp1 =>
        intro nn g1 hm9 hgz hvlp10
        subst hgz
        refine z_aload_n C 0 dX10_steepest_18 rfl ?_
        refine z_iconst (z := 0) C dX10_steepest_19 rfl ?_
        refine z_iload_n C 1 dX10_steepest_20 rfl ?_
        refine z_iconst (z := 0) C dX10_steepest_21 rfl ?_
        refine z_iload_n C 2 dX10_steepest_22 rfl ?_
        obtain ⟨py29, hpy29⟩ : ∃ p9 : Nat, 0 + 6 + 86 * n = p9 := ⟨_, rfl⟩
        have hgy30 := up_n egy25 ha1 (ne_o (i := i) (c := 1) (d := 0) rfl)
        have hgy31 := (hfvy27 (i + 1) (ne_o (i := i) (c := 1) (d := 0) rfl)).trans hgy30
        have hgy33 := up_n egy25 ha7 (ne_o (i := i) (c := 7) (d := 0) rfl)
        have hgy34 := (hfvy27 (i + 7) (ne_o (i := i) (c := 7) (d := 0) rfl)).trans hgy33
        have hqy35 : qS r py29 := (((okA.at0 hA).1.1 n (by omega)).of (p2 := py29) (by omega)).q (by have hb9 := mBb (t := r 0 + x) (by omega); omega)
        have hmky36 := hqy35.1
        refine z_cV (As := [.int (zI (0)), .int (zI ((n : Int))), .int (zI (0)), .int (zI (nn))]) (rest := []) (ci := 12) C (c_X10_leastRatioBy l D A cs tt N ad _ i hN _ hcvy27 _ hgy31 _ hgy34 0 n py29 hpy29 (by omega) (by omega) hqy35 (0) (by omega) (nn) (by omega)) (lt_A0 hN rfl) hay1 hcvy27 rfl rfl mv_yX10_leastRatioBy q_1764 hd_yX10_leastRatioBy (by decide) (Nat.le_of_ble_eq_true rfl) (by decide) dX10_steepest_23 rfl (kI0 fun vy32 gvy32 hvy32 => ?_)
        obtain ⟨hvy32, hzvy32, rfl⟩ := hvy32
        refine z_bipush (z := 100) C dX10_steepest_26 (by decide) ?_
        refine z_icmp_ge (tgt := 37) C dX10_steepest_28 (by decide) (by omega) (by omega) (fun hby37 => ?_) (fun hby37 => ?_)
        · refine z_iload_n C 2 dX10_steepest_37 rfl ?_
          have hFy38 : ∀ f, f ≠ 12 → Fvy27 f = F f := fun f n12 => ((hFvy27 f n12).trans ((uZ_n _ _ n12).trans rfl))
          have hey39 : Fvy27 13 = F 13 := ((hFvy27 13 (by decide)).trans (fn rfl (by decide)))
          have hey40 : Fvy27 14 = F 14 := ((hFvy27 14 (by decide)).trans (fn rfl (by decide)))
          have hey41 : Fvy27 15 = F 15 := ((hFvy27 15 (by decide)).trans (fn rfl (by decide)))
          have hey42 : Fvy27 16 = F 16 := ((hFvy27 16 (by decide)).trans (fn rfl (by decide)))
          have hey43 : Fvy27 17 = F 17 := ((hFvy27 17 (by decide)).trans (fn rfl (by decide)))
          have hey44 : Fvy27 18 = F 18 := ((hFvy27 18 (by decide)).trans (fn rfl (by decide)))
          have hey45 : Fvy27 19 = F 19 := ((hFvy27 19 (by decide)).trans (fn rfl (by decide)))
          have hey46 : Fvy27 20 = F 20 := ((hFvy27 20 (by decide)).trans (fn rfl (by decide)))
          have hey47 : Fvy27 21 = F 21 := ((hFvy27 21 (by decide)).trans (fn rfl (by decide)))
          have hey48 : Fvy27 23 = F 23 := ((hFvy27 23 (by decide)).trans (fn rfl (by decide)))
          have hey49 : Fvy27 25 = F 25 := ((hFvy27 25 (by decide)).trans (fn rfl (by decide)))
          have hey50 : Fvy27 27 = F 27 := ((hFvy27 27 (by decide)).trans (fn rfl (by decide)))
          have hey51 : Fvy27 28 = F 28 := ((hFvy27 28 (by decide)).trans (fn rfl (by decide)))
          have hey52 : Fvy27 29 = F 29 := ((hFvy27 29 (by decide)).trans (fn rfl (by decide)))
          have hKy53 : okF Fvy27 := okF.mv hM.2.1 hey39 hey40 hey41 hey42 hey43 hey44 hey45 hey46 hey47 hey48 hey49 hey50 hey51 hey52
          have hMy54 : okMr cs ad gvy27 i (x + 1) Fvy27 r st op ai fa mu tb tp := okMr.upd hM hcvy27 hKy53 (fun f a => hFy38 f (by omega)) hgy31 (hA.mono (by omega)) (fun j a b => by
              exact Or.inl (by rw [hfvy27 _ (by omega)]; rw [egy25, va_up_ne _ _ (by omega)]))
          have hkpy55 : Fvy27 13 = F 13 := ((hFvy27 13 (by decide)).trans (fn rfl (by decide)))
          have hkpy56 : Fvy27 14 = F 14 := ((hFvy27 14 (by decide)).trans (fn rfl (by decide)))
          have hkpy57 : Fvy27 15 = F 15 := ((hFvy27 15 (by decide)).trans (fn rfl (by decide)))
          have hkpy58 : Fvy27 16 = F 16 := ((hFvy27 16 (by decide)).trans (fn rfl (by decide)))
          have hkpy59 : Fvy27 17 = F 17 := ((hFvy27 17 (by decide)).trans (fn rfl (by decide)))
          have hkpy60 : Fvy27 18 = F 18 := ((hFvy27 18 (by decide)).trans (fn rfl (by decide)))
          have hkpy61 : Fvy27 19 = F 19 := ((hFvy27 19 (by decide)).trans (fn rfl (by decide)))
          have hkpy62 : Fvy27 20 = F 20 := ((hFvy27 20 (by decide)).trans (fn rfl (by decide)))
          have hkpy63 : Fvy27 21 = F 21 := ((hFvy27 21 (by decide)).trans (fn rfl (by decide)))
          have hkpy64 : Fvy27 23 = F 23 := ((hFvy27 23 (by decide)).trans (fn rfl (by decide)))
          have hkpy65 : Fvy27 24 = F 24 := ((hFvy27 24 (by decide)).trans (fn rfl (by decide)))
          have hkpy66 : Fvy27 25 = F 25 := ((hFvy27 25 (by decide)).trans (fn rfl (by decide)))
          have hkpy67 : Fvy27 26 = F 26 := ((hFvy27 26 (by decide)).trans (fn rfl (by decide)))
          have hkpy68 : Fvy27 27 = F 27 := ((hFvy27 27 (by decide)).trans (fn rfl (by decide)))
          have hkpy69 : Fvy27 29 = F 29 := ((hFvy27 29 (by decide)).trans (fn rfl (by decide)))
          exact z_iret C hr hlk dX10_steepest_38 (by decide) (by decide) ⟨nn, rfl, rfl, rfl, by omega, ⟨_, _, hMy54, ⟨hkpy55, hkpy56, hkpy57, hkpy58, hkpy59, hkpy60, hkpy61, hkpy62, hkpy63, hkpy64, hkpy65⟩, ⟨(hkpy66.trans hp25), (hkpy67.trans hp26), (hkpy68.trans hp27), (hkpy69.trans hp29)⟩, (fun j _ => rfl)⟩, fun j j1 => by rw [hfvy27 _ (by omega)]; rw [egy25, va_up_ne _ _ (by omega)]⟩
        · refine z_iinc (z := nn - 1) (lv' := [(2, .int (zI (nn - 1))), (0, .ref (ad i)), (1, .int (zI ((n : Int))))]) (j := 2) C dX10_steepest_31 rfl (congrArg zI (by omega)) (by decide) rfl ?_
          refine z_goto (tgt := 18) C dX10_steepest_34 (by decide) ?_
          refine z_lv (lv' := [(0, .ref (ad i)), (1, .int (zI ((n : Int)))), (2, .int (zI (nn - 1)))]) [1, 2, 0] rfl ?_
          exact ih_lp1 _ (by omega) (nn - 1) _ rfl rfl (by omega)
    refine z_lv (lv' := [(0, .ref (ad i)), (1, .int (zI ((n : Int)))), (2, .int (zI (90)))]) [1, 2, 0] rfl ?_
    exact lp1 _ (90) _ rfl rfl (by omega)
  · refine z_if_ne (tgt := 15) C dX10_steepest_10 (by decide) (by omega) (fun h => absurd h (by omega)) (fun _ => ?_)
    refine z_iconst (z := 0) C dX10_steepest_13 rfl ?_
    have hgy70 := up_n egy25 ha1 (ne_o (i := i) (c := 1) (d := 0) rfl)
    have hgy71 := (hfvy27 (i + 1) (ne_o (i := i) (c := 1) (d := 0) rfl)).trans hgy70
    have hFy72 : ∀ f, f ≠ 12 → Fvy27 f = F f := fun f n12 => ((hFvy27 f n12).trans ((uZ_n _ _ n12).trans rfl))
    have hey73 : Fvy27 13 = F 13 := ((hFvy27 13 (by decide)).trans (fn rfl (by decide)))
    have hey74 : Fvy27 14 = F 14 := ((hFvy27 14 (by decide)).trans (fn rfl (by decide)))
    have hey75 : Fvy27 15 = F 15 := ((hFvy27 15 (by decide)).trans (fn rfl (by decide)))
    have hey76 : Fvy27 16 = F 16 := ((hFvy27 16 (by decide)).trans (fn rfl (by decide)))
    have hey77 : Fvy27 17 = F 17 := ((hFvy27 17 (by decide)).trans (fn rfl (by decide)))
    have hey78 : Fvy27 18 = F 18 := ((hFvy27 18 (by decide)).trans (fn rfl (by decide)))
    have hey79 : Fvy27 19 = F 19 := ((hFvy27 19 (by decide)).trans (fn rfl (by decide)))
    have hey80 : Fvy27 20 = F 20 := ((hFvy27 20 (by decide)).trans (fn rfl (by decide)))
    have hey81 : Fvy27 21 = F 21 := ((hFvy27 21 (by decide)).trans (fn rfl (by decide)))
    have hey82 : Fvy27 23 = F 23 := ((hFvy27 23 (by decide)).trans (fn rfl (by decide)))
    have hey83 : Fvy27 25 = F 25 := ((hFvy27 25 (by decide)).trans (fn rfl (by decide)))
    have hey84 : Fvy27 27 = F 27 := ((hFvy27 27 (by decide)).trans (fn rfl (by decide)))
    have hey85 : Fvy27 28 = F 28 := ((hFvy27 28 (by decide)).trans (fn rfl (by decide)))
    have hey86 : Fvy27 29 = F 29 := ((hFvy27 29 (by decide)).trans (fn rfl (by decide)))
    have hKy87 : okF Fvy27 := okF.mv hM.2.1 hey73 hey74 hey75 hey76 hey77 hey78 hey79 hey80 hey81 hey82 hey83 hey84 hey85 hey86
    have hMy88 : okMr cs ad gvy27 i (x + 1) Fvy27 r st op ai fa mu tb tp := okMr.upd hM hcvy27 hKy87 (fun f a => hFy72 f (by omega)) hgy71 (hA.mono (by omega)) (fun j a b => by
        exact Or.inl (by rw [hfvy27 _ (by omega)]; rw [egy25, va_up_ne _ _ (by omega)]))
    have hkpy89 : Fvy27 13 = F 13 := ((hFvy27 13 (by decide)).trans (fn rfl (by decide)))
    have hkpy90 : Fvy27 14 = F 14 := ((hFvy27 14 (by decide)).trans (fn rfl (by decide)))
    have hkpy91 : Fvy27 15 = F 15 := ((hFvy27 15 (by decide)).trans (fn rfl (by decide)))
    have hkpy92 : Fvy27 16 = F 16 := ((hFvy27 16 (by decide)).trans (fn rfl (by decide)))
    have hkpy93 : Fvy27 17 = F 17 := ((hFvy27 17 (by decide)).trans (fn rfl (by decide)))
    have hkpy94 : Fvy27 18 = F 18 := ((hFvy27 18 (by decide)).trans (fn rfl (by decide)))
    have hkpy95 : Fvy27 19 = F 19 := ((hFvy27 19 (by decide)).trans (fn rfl (by decide)))
    have hkpy96 : Fvy27 20 = F 20 := ((hFvy27 20 (by decide)).trans (fn rfl (by decide)))
    have hkpy97 : Fvy27 21 = F 21 := ((hFvy27 21 (by decide)).trans (fn rfl (by decide)))
    have hkpy98 : Fvy27 23 = F 23 := ((hFvy27 23 (by decide)).trans (fn rfl (by decide)))
    have hkpy99 : Fvy27 24 = F 24 := ((hFvy27 24 (by decide)).trans (fn rfl (by decide)))
    have hkpy100 : Fvy27 25 = F 25 := ((hFvy27 25 (by decide)).trans (fn rfl (by decide)))
    have hkpy101 : Fvy27 26 = F 26 := ((hFvy27 26 (by decide)).trans (fn rfl (by decide)))
    have hkpy102 : Fvy27 27 = F 27 := ((hFvy27 27 (by decide)).trans (fn rfl (by decide)))
    have hkpy103 : Fvy27 29 = F 29 := ((hFvy27 29 (by decide)).trans (fn rfl (by decide)))
    exact z_iret C hr hlk dX10_steepest_14 (by decide) (by decide) ⟨0, rfl, rfl, rfl, by omega, ⟨_, _, hMy88, ⟨hkpy89, hkpy90, hkpy91, hkpy92, hkpy93, hkpy94, hkpy95, hkpy96, hkpy97, hkpy98, hkpy99⟩, ⟨(hkpy100.trans hp25), (hkpy101.trans hp26), (hkpy102.trans hp27), (hkpy103.trans hp29)⟩, (fun j _ => rfl)⟩, fun j j1 => by rw [hfvy27 _ (by omega)]; rw [egy25, va_up_ne _ _ (by omega)]⟩

set_option maxRecDepth 100000 in
set_option maxHeartbeats 4000000 in
theorem c_X10_steepest_b (l : Launch) (D : va_G) (A : Nat → Prop) (cs : Nat → ClassId) (tt : Nat) (N : Nat) (ad : Nat → Nat) (g : Nat → va_E) (i : Nat) (hN : i + 30 ≤ N) (x : Int) (hx : 0 ≤ x ∧ x ≤ 512) (F r : Nat → Int) {st op ai fa mu tb tp : Nat → Int} (hM : okMr cs ad g i x F r st op ai fa mu tb tp) (hPl : F 25 = 0 ∧ F 26 = -1 ∧ F 27 = -1 ∧ F 29 = 0) (z : Int) (hz : -2147483648 ≤ z ∧ z ≤ 2147483647) (hzo : z < 0 ∨ 3 < z) : zM l yX10_steepest cX10_steepest 3 (some .int) ({ frames := 9, cells := 0, slots := 0, locals := 540 } : Room) D A cs tt N ad g [.ref (ad i), .int (zI (z))] (rI0 N ad fun q g' => (-2147483648 ≤ q ∧ q ≤ 2147483647) ∧ (∃ F' r' : Nat → Int, okMr cs ad g' i (x + 1) F' r' st op ai fa mu tb tp ∧ (F' 13 = F 13 ∧ F' 14 = F 14 ∧ F' 15 = F 15 ∧ F' 16 = F 16 ∧ F' 17 = F 17 ∧ F' 18 = F 18 ∧ F' 19 = F 19 ∧ F' 20 = F 20 ∧ F' 21 = F 21 ∧ F' 23 = F 23 ∧ F' 24 = F 24) ∧ (F' 25 = 0 ∧ F' 26 = -1 ∧ F' 27 = -1 ∧ F' 29 = 0) ∧ (∀ j, j < 350 ∨ 700 ≤ j → r' j = r j)) ∧ ∀ j, j < i ∨ i + 30 ≤ j ∨ (i + 8 ≤ j ∧ j ≤ i + 12) → g' j = g j) := by
  obtain ⟨hg, ⟨⟨e13, e14, e25, e27, e29⟩, k15, k16, k17, k18, k19, k20, k23, k21⟩, hRD, hTx, hA, ns, nh, nd, rf, pi, te, ki, li, ok1, ok2, fo, dd, dps, ⟨ha1, ha2, ha3, ha4, ha5, ha6, ha7, ha8, ha9, ha10, ha11, ha12, ha13, ha14, ha15, ha24, ha25, ha26, ha27, ha28, ha29⟩, hEv, hPt, hns, htp⟩ := id hM
  obtain ⟨-, hop, hai, hfa, hT, hT1⟩ := id hEv
  have hay1 : zAt ad (i) (ad i) := rfl
  have hay2 : zAt ad (i + 1) (ad (i + 1)) := rfl
  have hay3 : zAt ad (i + 2) (ad (i + 2)) := rfl
  have hay4 : zAt ad (i + 3) (ad (i + 3)) := rfl
  have hay5 : zAt ad (i + 4) (ad (i + 4)) := rfl
  have hay6 : zAt ad (i + 5) (ad (i + 5)) := rfl
  have hay7 : zAt ad (i + 6) (ad (i + 6)) := rfl
  have hay8 : zAt ad (i + 7) (ad (i + 7)) := rfl
  have hay9 : zAt ad (i + 8) (ad (i + 8)) := rfl
  have hay10 : zAt ad (i + 9) (ad (i + 9)) := rfl
  have hay11 : zAt ad (i + 10) (ad (i + 10)) := rfl
  have hay12 : zAt ad (i + 11) (ad (i + 11)) := rfl
  have hay13 : zAt ad (i + 12) (ad (i + 12)) := rfl
  have hay14 : zAt ad (i + 13) (ad (i + 13)) := rfl
  have hay15 : zAt ad (i + 14) (ad (i + 14)) := rfl
  have hay16 : zAt ad (i + 15) (ad (i + 15)) := rfl
  have hay17 : zAt ad (i + 24) (ad (i + 24)) := rfl
  have hay18 : zAt ad (i + 25) (ad (i + 25)) := rfl
  have hay19 : zAt ad (i + 26) (ad (i + 26)) := rfl
  have hay20 : zAt ad (i + 27) (ad (i + 27)) := rfl
  have hay21 : zAt ad (i + 28) (ad (i + 28)) := rfl
  have hay22 : zAt ad (i + 29) (ad (i + 29)) := rfl
  obtain ⟨⟨hsyy23, htyy23, hnyy23, hpyy23⟩, hlyy23⟩ := okA.at0 hA
  simp only [Nat.zero_add] at hsyy23 hnyy23 hpyy23
  have hmn : ∀ s, s < 4 → 0 ≤ r (6 + 86 * s) ∧ r (6 + 86 * s) ≤ 12 := fun s hs => (hsyy23 s hs).1
  have h5 : 0 ≤ r 5 ∧ r 5 ≤ 6 := hpyy23
  obtain ⟨hp25, hp26, hp27, hp29⟩ := id hPl
  refine z_of (by decide) (Nat.le_of_ble_eq_true rfl) ?_
  intro pZ eZ sZ mZ below meth cZ C hr hlk hnm
  refine z_lv (lv' := [(0, .ref (ad i)), (1, .int (zI (z)))]) [0, 1] rfl ?_
  refine z_aload_n C 0 dX10_steepest_0 rfl ?_
  refine z_iconst (z := 0) C dX10_steepest_1 rfl ?_
  refine z_put (fs' := mF ad (i) (uZ F 12 (0))) C (lt_A0 hN rfl) hay1 hg tyX10 tyX10_ok nmX10 rfl inA_X10 12 (by decide) q_1471 rfl rfl rfl rfl (Nat.le_of_ble_eq_true rfl) rfl dX10_steepest_2 (fun gy24 egy25 => ?_)
  have hgy26 := up_s egy25
  refine z_aload_n C 0 dX10_steepest_5 rfl ?_
  refine z_iload_n C 1 dX10_steepest_6 rfl ?_
  have h13vy27 : (uZ F 12 (0)) 13 = F 13 := (fn rfl (by decide))
  have hey28 : (uZ F 12 (0)) 12 = 0 := (uZ_s _ _ _)
  refine z_cV (As := [.int (zI (z))]) (rest := []) (ci := 12) C (c_X10_isSlope l D A cs tt N ad _ i hN _ hgy26 (by omega) (by omega) (z) (by omega)) (lt_A0 hN rfl) hay1 hgy26 rfl rfl mv_yX10_isSlope q_1803 hd_yX10_isSlope (by decide) (Nat.le_of_ble_eq_true rfl) (by decide) dX10_steepest_7 rfl (kI0 fun vy27 gvy27 hvy27 => ?_)
  rw [h13vy27] at hvy27
  obtain ⟨hrvy27, ⟨Fvy27, hcvy27, htvy27, hFvy27⟩, hfvy27⟩ := hvy27
  obtain rfl : vy27 = 0 := by omega
  refine z_if_ne (tgt := 15) C dX10_steepest_10 (by decide) (by omega) (fun h => absurd h (by omega)) (fun _ => ?_)
  refine z_iconst (z := 0) C dX10_steepest_13 rfl ?_
  have hgy29 := up_n egy25 ha1 (ne_o (i := i) (c := 1) (d := 0) rfl)
  have hgy30 := (hfvy27 (i + 1) (ne_o (i := i) (c := 1) (d := 0) rfl)).trans hgy29
  have hFy31 : ∀ f, f ≠ 12 → Fvy27 f = F f := fun f n12 => ((hFvy27 f n12).trans ((uZ_n _ _ n12).trans rfl))
  have hey32 : Fvy27 13 = F 13 := ((hFvy27 13 (by decide)).trans (fn rfl (by decide)))
  have hey33 : Fvy27 14 = F 14 := ((hFvy27 14 (by decide)).trans (fn rfl (by decide)))
  have hey34 : Fvy27 15 = F 15 := ((hFvy27 15 (by decide)).trans (fn rfl (by decide)))
  have hey35 : Fvy27 16 = F 16 := ((hFvy27 16 (by decide)).trans (fn rfl (by decide)))
  have hey36 : Fvy27 17 = F 17 := ((hFvy27 17 (by decide)).trans (fn rfl (by decide)))
  have hey37 : Fvy27 18 = F 18 := ((hFvy27 18 (by decide)).trans (fn rfl (by decide)))
  have hey38 : Fvy27 19 = F 19 := ((hFvy27 19 (by decide)).trans (fn rfl (by decide)))
  have hey39 : Fvy27 20 = F 20 := ((hFvy27 20 (by decide)).trans (fn rfl (by decide)))
  have hey40 : Fvy27 21 = F 21 := ((hFvy27 21 (by decide)).trans (fn rfl (by decide)))
  have hey41 : Fvy27 23 = F 23 := ((hFvy27 23 (by decide)).trans (fn rfl (by decide)))
  have hey42 : Fvy27 25 = F 25 := ((hFvy27 25 (by decide)).trans (fn rfl (by decide)))
  have hey43 : Fvy27 27 = F 27 := ((hFvy27 27 (by decide)).trans (fn rfl (by decide)))
  have hey44 : Fvy27 28 = F 28 := ((hFvy27 28 (by decide)).trans (fn rfl (by decide)))
  have hey45 : Fvy27 29 = F 29 := ((hFvy27 29 (by decide)).trans (fn rfl (by decide)))
  have hKy46 : okF Fvy27 := okF.mv hM.2.1 hey32 hey33 hey34 hey35 hey36 hey37 hey38 hey39 hey40 hey41 hey42 hey43 hey44 hey45
  have hMy47 : okMr cs ad gvy27 i (x + 1) Fvy27 r st op ai fa mu tb tp := okMr.upd hM hcvy27 hKy46 (fun f a => hFy31 f (by omega)) hgy30 (hA.mono (by omega)) (fun j a b => by
      exact Or.inl (by rw [hfvy27 _ (by omega)]; rw [egy25, va_up_ne _ _ (by omega)]))
  have hkpy48 : Fvy27 13 = F 13 := ((hFvy27 13 (by decide)).trans (fn rfl (by decide)))
  have hkpy49 : Fvy27 14 = F 14 := ((hFvy27 14 (by decide)).trans (fn rfl (by decide)))
  have hkpy50 : Fvy27 15 = F 15 := ((hFvy27 15 (by decide)).trans (fn rfl (by decide)))
  have hkpy51 : Fvy27 16 = F 16 := ((hFvy27 16 (by decide)).trans (fn rfl (by decide)))
  have hkpy52 : Fvy27 17 = F 17 := ((hFvy27 17 (by decide)).trans (fn rfl (by decide)))
  have hkpy53 : Fvy27 18 = F 18 := ((hFvy27 18 (by decide)).trans (fn rfl (by decide)))
  have hkpy54 : Fvy27 19 = F 19 := ((hFvy27 19 (by decide)).trans (fn rfl (by decide)))
  have hkpy55 : Fvy27 20 = F 20 := ((hFvy27 20 (by decide)).trans (fn rfl (by decide)))
  have hkpy56 : Fvy27 21 = F 21 := ((hFvy27 21 (by decide)).trans (fn rfl (by decide)))
  have hkpy57 : Fvy27 23 = F 23 := ((hFvy27 23 (by decide)).trans (fn rfl (by decide)))
  have hkpy58 : Fvy27 24 = F 24 := ((hFvy27 24 (by decide)).trans (fn rfl (by decide)))
  have hkpy59 : Fvy27 25 = F 25 := ((hFvy27 25 (by decide)).trans (fn rfl (by decide)))
  have hkpy60 : Fvy27 26 = F 26 := ((hFvy27 26 (by decide)).trans (fn rfl (by decide)))
  have hkpy61 : Fvy27 27 = F 27 := ((hFvy27 27 (by decide)).trans (fn rfl (by decide)))
  have hkpy62 : Fvy27 29 = F 29 := ((hFvy27 29 (by decide)).trans (fn rfl (by decide)))
  exact z_iret C hr hlk dX10_steepest_14 (by decide) (by decide) ⟨0, rfl, rfl, rfl, by omega, ⟨_, _, hMy47, ⟨hkpy48, hkpy49, hkpy50, hkpy51, hkpy52, hkpy53, hkpy54, hkpy55, hkpy56, hkpy57, hkpy58⟩, ⟨(hkpy59.trans hp25), (hkpy60.trans hp26), (hkpy61.trans hp27), (hkpy62.trans hp29)⟩, (fun j _ => rfl)⟩, fun j j1 => by rw [hfvy27 _ (by omega)]; rw [egy25, va_up_ne _ _ (by omega)]⟩

set_option maxRecDepth 100000 in
set_option maxHeartbeats 4000000 in
theorem c_X10_steepest (l : Launch) (D : va_G) (A : Nat → Prop) (cs : Nat → ClassId) (tt : Nat) (N : Nat) (ad : Nat → Nat) (g : Nat → va_E) (i : Nat) (hN : i + 30 ≤ N) (x : Int) (hx : 0 ≤ x ∧ x ≤ 512) (F r : Nat → Int) {st op ai fa mu tb tp : Nat → Int} (hM : okMr cs ad g i x F r st op ai fa mu tb tp) (hPl : F 25 = 0 ∧ F 26 = -1 ∧ F 27 = -1 ∧ F 29 = 0) (z : Int) (hz : -2147483648 ≤ z ∧ z ≤ 2147483647) : zM l yX10_steepest cX10_steepest 3 (some .int) ({ frames := 9, cells := 0, slots := 0, locals := 540 } : Room) D A cs tt N ad g [.ref (ad i), .int (zI (z))] (rI0 N ad fun q g' => (-2147483648 ≤ q ∧ q ≤ 2147483647) ∧ (∃ F' r' : Nat → Int, okMr cs ad g' i (x + 1) F' r' st op ai fa mu tb tp ∧ (F' 13 = F 13 ∧ F' 14 = F 14 ∧ F' 15 = F 15 ∧ F' 16 = F 16 ∧ F' 17 = F 17 ∧ F' 18 = F 18 ∧ F' 19 = F 19 ∧ F' 20 = F 20 ∧ F' 21 = F 21 ∧ F' 23 = F 23 ∧ F' 24 = F 24) ∧ (F' 25 = 0 ∧ F' 26 = -1 ∧ F' 27 = -1 ∧ F' 29 = 0) ∧ (∀ j, j < 350 ∨ 700 ≤ j → r' j = r j)) ∧ ∀ j, j < i ∨ i + 30 ≤ j ∨ (i + 8 ≤ j ∧ j ≤ i + 12) → g' j = g j) := by
  by_cases h9 : 0 ≤ z ∧ z ≤ 3
  · obtain ⟨n, rfl⟩ : ∃ n : Nat, z = (n : Int) := ⟨z.toNat, by omega⟩
    exact c_X10_steepest_a l D A cs tt N ad g i hN x hx F r hM hPl n (by omega) 
  · exact c_X10_steepest_b l D A cs tt N ad g i hN x hx F r hM hPl z hz (by omega) 

set_option maxRecDepth 100000 in
set_option maxHeartbeats 4000000 in
theorem c_X10_then_a (l : Launch) (D : va_G) (A : Nat → Prop) (cs : Nat → ClassId) (tt : Nat) (N : Nat) (ad : Nat → Nat) (g : Nat → va_E) (i : Nat) (hN : i + 30 ≤ N) (x : Int) (hx : 0 ≤ x ∧ x ≤ 512) (F r : Nat → Int) {st op ai fa mu tb tp : Nat → Int} (hM : okMr cs ad g i x F r st op ai fa mu tb tp) (hPl : F 25 = 0 ∧ F 26 = -1 ∧ F 27 = -1 ∧ F 29 = 0) (n : Nat) (hn4 : n < 4) (z1 : Int) (hz1 : -2147483648 ≤ z1 ∧ z1 ≤ 2147483647) (z2 : Int) (hz2 : -2147483648 ≤ z2 ∧ z2 ≤ 2147483647) : zM l yX10_then cX10_then 5 (some .int) ({ frames := 10, cells := 0, slots := 0, locals := 600 } : Room) D A cs tt N ad g [.ref (ad i), .int (zI ((n : Int))), .int (zI (z1)), .int (zI (z2))] (rI0 N ad fun q g' => (-2147483648 ≤ q ∧ q ≤ 2147483647) ∧ (∃ F' r' : Nat → Int, okMr cs ad g' i (x + 1) F' r' st op ai fa mu tb tp ∧ (F' 13 = F 13 ∧ F' 14 = F 14 ∧ F' 15 = F 15 ∧ F' 16 = F 16 ∧ F' 17 = F 17 ∧ F' 18 = F 18 ∧ F' 19 = F 19 ∧ F' 20 = F 20 ∧ F' 21 = F 21 ∧ F' 23 = F 23 ∧ F' 24 = F 24) ∧ (F' 25 = 0 ∧ F' 26 = -1 ∧ F' 27 = -1 ∧ F' 29 = 0) ∧ (∀ j, j < 350 ∨ 700 ≤ j → r' j = r j)) ∧ ∀ j, j < i ∨ i + 30 ≤ j ∨ (i + 8 ≤ j ∧ j ≤ i + 12) → g' j = g j) := by
  obtain ⟨hg, ⟨⟨e13, e14, e25, e27, e29⟩, k15, k16, k17, k18, k19, k20, k23, k21⟩, hRD, hTx, hA, ns, nh, nd, rf, pi, te, ki, li, ok1, ok2, fo, dd, dps, ⟨ha1, ha2, ha3, ha4, ha5, ha6, ha7, ha8, ha9, ha10, ha11, ha12, ha13, ha14, ha15, ha24, ha25, ha26, ha27, ha28, ha29⟩, hEv, hPt, hns, htp⟩ := id hM
  obtain ⟨-, hop, hai, hfa, hT, hT1⟩ := id hEv
  have hay1 : zAt ad (i) (ad i) := rfl
  have hay2 : zAt ad (i + 1) (ad (i + 1)) := rfl
  have hay3 : zAt ad (i + 2) (ad (i + 2)) := rfl
  have hay4 : zAt ad (i + 3) (ad (i + 3)) := rfl
  have hay5 : zAt ad (i + 4) (ad (i + 4)) := rfl
  have hay6 : zAt ad (i + 5) (ad (i + 5)) := rfl
  have hay7 : zAt ad (i + 6) (ad (i + 6)) := rfl
  have hay8 : zAt ad (i + 7) (ad (i + 7)) := rfl
  have hay9 : zAt ad (i + 8) (ad (i + 8)) := rfl
  have hay10 : zAt ad (i + 9) (ad (i + 9)) := rfl
  have hay11 : zAt ad (i + 10) (ad (i + 10)) := rfl
  have hay12 : zAt ad (i + 11) (ad (i + 11)) := rfl
  have hay13 : zAt ad (i + 12) (ad (i + 12)) := rfl
  have hay14 : zAt ad (i + 13) (ad (i + 13)) := rfl
  have hay15 : zAt ad (i + 14) (ad (i + 14)) := rfl
  have hay16 : zAt ad (i + 15) (ad (i + 15)) := rfl
  have hay17 : zAt ad (i + 24) (ad (i + 24)) := rfl
  have hay18 : zAt ad (i + 25) (ad (i + 25)) := rfl
  have hay19 : zAt ad (i + 26) (ad (i + 26)) := rfl
  have hay20 : zAt ad (i + 27) (ad (i + 27)) := rfl
  have hay21 : zAt ad (i + 28) (ad (i + 28)) := rfl
  have hay22 : zAt ad (i + 29) (ad (i + 29)) := rfl
  obtain ⟨⟨hsyy23, htyy23, hnyy23, hpyy23⟩, hlyy23⟩ := okA.at0 hA
  simp only [Nat.zero_add] at hsyy23 hnyy23 hpyy23
  have hmn : ∀ s, s < 4 → 0 ≤ r (6 + 86 * s) ∧ r (6 + 86 * s) ≤ 12 := fun s hs => (hsyy23 s hs).1
  have h5 : 0 ≤ r 5 ∧ r 5 ≤ 6 := hpyy23
  obtain ⟨hp25, hp26, hp27, hp29⟩ := id hPl
  refine z_of (by decide) (Nat.le_of_ble_eq_true rfl) ?_
  intro pZ eZ sZ mZ below meth cZ C hr hlk hnm
  refine z_lv (lv' := [(0, .ref (ad i)), (1, .int (zI ((n : Int)))), (2, .int (zI (z1))), (3, .int (zI (z2)))]) [0, 1, 2, 3] rfl ?_
  refine z_aload_n C 0 dX10_then_0 rfl ?_
  refine z_iconst (z := 0) C dX10_then_1 rfl ?_
  refine z_put (fs' := mF ad (i) (uZ F 12 (0))) C (lt_A0 hN rfl) hay1 hg tyX10 tyX10_ok nmX10 rfl inA_X10 12 (by decide) q_1471 rfl rfl rfl rfl (Nat.le_of_ble_eq_true rfl) rfl dX10_then_2 (fun gy24 egy25 => ?_)
  have hgy26 := up_s egy25
  refine z_aload_n C 0 dX10_then_5 rfl ?_
  refine z_iload_n C 1 dX10_then_6 rfl ?_
  have h13vy27 : (uZ F 12 (0)) 13 = F 13 := (fn rfl (by decide))
  have hey28 : (uZ F 12 (0)) 12 = 0 := (uZ_s _ _ _)
  refine z_cV (As := [.int (zI ((n : Int)))]) (rest := []) (ci := 12) C (c_X10_isSlope l D A cs tt N ad _ i hN _ hgy26 (by omega) (by omega) ((n : Int)) (by omega)) (lt_A0 hN rfl) hay1 hgy26 rfl rfl mv_yX10_isSlope q_1803 hd_yX10_isSlope (by decide) (Nat.le_of_ble_eq_true rfl) (by decide) dX10_then_7 rfl (kI0 fun vy27 gvy27 hvy27 => ?_)
  rw [h13vy27] at hvy27
  obtain ⟨hrvy27, ⟨Fvy27, hcvy27, htvy27, hFvy27⟩, hfvy27⟩ := hvy27
  rcases (show vy27 = 1 ∨ vy27 = 0 by omega) with rfl | rfl
  · have hxvy27 := hrvy27.2 rfl
    refine z_if_eq (tgt := 43) C dX10_then_10 (by decide) (by omega) (fun h => absurd h (by omega)) (fun _ => ?_)
    refine z_aload_n C 0 dX10_then_13 rfl ?_
    refine z_iload_n C 3 dX10_then_14 rfl ?_
    refine z_iconst (z := 0) C dX10_then_15 rfl ?_
    refine z_bipush (z := 6) C dX10_then_16 (by decide) ?_
    refine z_cS (As := [.int (zI (z2)), .int (zI (0)), .int (zI (6))]) (rest := [.ref (ad i)]) C (c_X10_within l D A cs tt N ad _ (z2) (by omega) (0) (by omega) (6) (by omega)) ms_yX10_within q_1686 hd_yX10_within (by decide) (Nat.le_of_ble_eq_true rfl) (by decide) dX10_then_18 rfl (kI0 fun vy29 gvy29 hvy29 => ?_)
    obtain ⟨hvy29, rfl⟩ := hvy29
    rcases hvy29 with ⟨rfl, hxvy29⟩ | ⟨rfl, hxvy29⟩
    · refine z_iconst (z := 1) C dX10_then_21 rfl ?_
      have hey31 : Fvy27 12 = Fvy27 12 := rfl
      refine z_cV (As := [.int (zI (1)), .int (zI (1))]) (rest := []) (ci := 12) C (c_X10_right l D A cs tt N ad _ i hN _ hcvy27 (by omega) (1) (by omega) (1) (by omega)) (lt_A0 hN rfl) hay1 hcvy27 rfl rfl mv_yX10_right q_1648 hd_yX10_right (by decide) (Nat.le_of_ble_eq_true rfl) (by decide) dX10_then_22 rfl (kI0 fun vy30 gvy30 hvy30 => ?_)
      obtain ⟨hrvy30, ⟨Fvy30, hcvy30, htvy30, hFvy30⟩, hfvy30⟩ := hvy30
      rcases (show vy30 = 1 ∨ vy30 = 0 by omega) with rfl | rfl
      · refine z_if_eq (tgt := 43) C dX10_then_25 (by decide) (by omega) (fun h => absurd h (by omega)) (fun _ => ?_)
        refine z_aload_n C 0 dX10_then_28 rfl ?_
        refine z_iload_n C 2 dX10_then_29 rfl ?_
        refine z_iconst (z := 0) C dX10_then_30 rfl ?_
        refine z_bipush (z := 72) C dX10_then_31 (by decide) ?_
        refine z_cS (As := [.int (zI (z1)), .int (zI (0)), .int (zI (72))]) (rest := [.ref (ad i)]) C (c_X10_within l D A cs tt N ad _ (z1) (by omega) (0) (by omega) (72) (by omega)) ms_yX10_within q_1686 hd_yX10_within (by decide) (Nat.le_of_ble_eq_true rfl) (by decide) dX10_then_33 rfl (kI0 fun vy32 gvy32 hvy32 => ?_)
        obtain ⟨hvy32, rfl⟩ := hvy32
        rcases hvy32 with ⟨rfl, hxvy32⟩ | ⟨rfl, hxvy32⟩
        · refine z_iconst (z := 2) C dX10_then_36 rfl ?_
          have hey34 : Fvy30 12 = Fvy30 12 := rfl
          refine z_cV (As := [.int (zI (1)), .int (zI (2))]) (rest := []) (ci := 12) C (c_X10_right l D A cs tt N ad _ i hN _ hcvy30 (by omega) (1) (by omega) (2) (by omega)) (lt_A0 hN rfl) hay1 hcvy30 rfl rfl mv_yX10_right q_1648 hd_yX10_right (by decide) (Nat.le_of_ble_eq_true rfl) (by decide) dX10_then_37 rfl (kI0 fun vy33 gvy33 hvy33 => ?_)
          obtain ⟨hrvy33, ⟨Fvy33, hcvy33, htvy33, hFvy33⟩, hfvy33⟩ := hvy33
          rcases (show vy33 = 1 ∨ vy33 = 0 by omega) with rfl | rfl
          · refine z_if_ne (tgt := 45) C dX10_then_40 (by decide) (by omega) (fun _ => ?_) (fun h => absurd h (by omega))
            refine z_aload_n C 0 dX10_then_45 rfl ?_
            have hgy35 := up_n egy25 ha1 (ne_o (i := i) (c := 1) (d := 0) rfl)
            have hgy36 := (hfvy27 (i + 1) (ne_o (i := i) (c := 1) (d := 0) rfl)).trans hgy35
            have hgy37 := (hfvy30 (i + 1) (ne_o (i := i) (c := 1) (d := 0) rfl)).trans hgy36
            have hgy38 := (hfvy33 (i + 1) (ne_o (i := i) (c := 1) (d := 0) rfl)).trans hgy37
            refine z_cV (As := []) (rest := []) (ci := 12) C (c_X10_tries l D A cs tt N ad _ i hN _ hcvy33 _ hgy38 (x) hA) (lt_A0 hN rfl) hay1 hcvy33 rfl rfl mv_yX10_tries q_1980 hd_yX10_tries (by decide) (Nat.le_of_ble_eq_true rfl) (by decide) dX10_then_46 rfl (kV0 fun gvy39 hvy39 => ?_)
            obtain ⟨⟨rvy39, hdvy39, hAvy39, hWvy39, h0vy39, hyvy39⟩, hfvy39⟩ := hvy39
            obtain ⟨⟨hsyy40, htyy40, hnyy40, hpyy40⟩, hlyy40⟩ := okA.at0 hAvy39
            simp only [Nat.zero_add] at hsyy40 hnyy40 hpyy40
            have hmn : ∀ s, s < 4 → 0 ≤ rvy39 (6 + 86 * s) ∧ rvy39 (6 + 86 * s) ≤ 12 := fun s hs => (hsyy40 s hs).1
            have h5 : 0 ≤ rvy39 5 ∧ rvy39 5 ≤ 6 := hpyy40
            refine z_aload_n C 0 dX10_then_49 rfl ?_
            refine z_sipush (z := 350) C dX10_then_50 (by decide) ?_
            refine z_iload_n C 2 dX10_then_53 rfl ?_
            have hgy41 := (hfvy39 (i) (ne_o (i := i) (c := 0) (d := 1) rfl)).trans hcvy33
            have hey43 : Fvy33 13 = F 13 := ((hFvy33 13 (by decide)).trans ((hFvy30 13 (by decide)).trans ((hFvy27 13 (by decide)).trans (fn rfl (by decide)))))
            have hey44 : Fvy33 14 = F 14 := ((hFvy33 14 (by decide)).trans ((hFvy30 14 (by decide)).trans ((hFvy27 14 (by decide)).trans (fn rfl (by decide)))))
            have hey45 : Fvy33 25 = F 25 := ((hFvy33 25 (by decide)).trans ((hFvy30 25 (by decide)).trans ((hFvy27 25 (by decide)).trans (fn rfl (by decide)))))
            have hey46 : Fvy33 27 = F 27 := ((hFvy33 27 (by decide)).trans ((hFvy30 27 (by decide)).trans ((hFvy27 27 (by decide)).trans (fn rfl (by decide)))))
            have hey47 : Fvy33 28 = F 28 := ((hFvy33 28 (by decide)).trans ((hFvy30 28 (by decide)).trans ((hFvy27 28 (by decide)).trans (fn rfl (by decide)))))
            have hey48 : Fvy33 29 = F 29 := ((hFvy33 29 (by decide)).trans ((hFvy30 29 (by decide)).trans ((hFvy27 29 (by decide)).trans (fn rfl (by decide)))))
            have hEvy42 : okEnv Fvy33 _ _ _ _ _ := ⟨by omega, hop, hai, hfa, hT, hT1⟩
            have hgy50 := up_n egy25 ha3 (ne_o (i := i) (c := 3) (d := 0) rfl)
            have hgy51 := (hfvy27 (i + 3) (ne_o (i := i) (c := 3) (d := 0) rfl)).trans hgy50
            have hgy52 := (hfvy30 (i + 3) (ne_o (i := i) (c := 3) (d := 0) rfl)).trans hgy51
            have hgy53 := (hfvy33 (i + 3) (ne_o (i := i) (c := 3) (d := 0) rfl)).trans hgy52
            have hgy54 := (hfvy39 (i + 3) (ne_o (i := i) (c := 3) (d := 1) rfl)).trans hgy53
            have hgy55 := up_n egy25 ha4 (ne_o (i := i) (c := 4) (d := 0) rfl)
            have hgy56 := (hfvy27 (i + 4) (ne_o (i := i) (c := 4) (d := 0) rfl)).trans hgy55
            have hgy57 := (hfvy30 (i + 4) (ne_o (i := i) (c := 4) (d := 0) rfl)).trans hgy56
            have hgy58 := (hfvy33 (i + 4) (ne_o (i := i) (c := 4) (d := 0) rfl)).trans hgy57
            have hgy59 := (hfvy39 (i + 4) (ne_o (i := i) (c := 4) (d := 1) rfl)).trans hgy58
            have hgy60 := up_n egy25 ha5 (ne_o (i := i) (c := 5) (d := 0) rfl)
            have hgy61 := (hfvy27 (i + 5) (ne_o (i := i) (c := 5) (d := 0) rfl)).trans hgy60
            have hgy62 := (hfvy30 (i + 5) (ne_o (i := i) (c := 5) (d := 0) rfl)).trans hgy61
            have hgy63 := (hfvy33 (i + 5) (ne_o (i := i) (c := 5) (d := 0) rfl)).trans hgy62
            have hgy64 := (hfvy39 (i + 5) (ne_o (i := i) (c := 5) (d := 1) rfl)).trans hgy63
            have hgy65 := up_n egy25 ha6 (ne_o (i := i) (c := 6) (d := 0) rfl)
            have hgy66 := (hfvy27 (i + 6) (ne_o (i := i) (c := 6) (d := 0) rfl)).trans hgy65
            have hgy67 := (hfvy30 (i + 6) (ne_o (i := i) (c := 6) (d := 0) rfl)).trans hgy66
            have hgy68 := (hfvy33 (i + 6) (ne_o (i := i) (c := 6) (d := 0) rfl)).trans hgy67
            have hgy69 := (hfvy39 (i + 6) (ne_o (i := i) (c := 6) (d := 1) rfl)).trans hgy68
            have hgy70 := up_n egy25 ha7 (ne_o (i := i) (c := 7) (d := 0) rfl)
            have hgy71 := (hfvy27 (i + 7) (ne_o (i := i) (c := 7) (d := 0) rfl)).trans hgy70
            have hgy72 := (hfvy30 (i + 7) (ne_o (i := i) (c := 7) (d := 0) rfl)).trans hgy71
            have hgy73 := (hfvy33 (i + 7) (ne_o (i := i) (c := 7) (d := 0) rfl)).trans hgy72
            have hgy74 := (hfvy39 (i + 7) (ne_o (i := i) (c := 7) (d := 1) rfl)).trans hgy73
            have hgy75 := up_n egy25 ha14 (ne_o (i := i) (c := 14) (d := 0) rfl)
            have hgy76 := (hfvy27 (i + 14) (ne_o (i := i) (c := 14) (d := 0) rfl)).trans hgy75
            have hgy77 := (hfvy30 (i + 14) (ne_o (i := i) (c := 14) (d := 0) rfl)).trans hgy76
            have hgy78 := (hfvy33 (i + 14) (ne_o (i := i) (c := 14) (d := 0) rfl)).trans hgy77
            have hgy79 := (hfvy39 (i + 14) (ne_o (i := i) (c := 14) (d := 1) rfl)).trans hgy78
            have hgy80 := up_n egy25 ha15 (ne_o (i := i) (c := 15) (d := 0) rfl)
            have hgy81 := (hfvy27 (i + 15) (ne_o (i := i) (c := 15) (d := 0) rfl)).trans hgy80
            have hgy82 := (hfvy30 (i + 15) (ne_o (i := i) (c := 15) (d := 0) rfl)).trans hgy81
            have hgy83 := (hfvy33 (i + 15) (ne_o (i := i) (c := 15) (d := 0) rfl)).trans hgy82
            have hgy84 := (hfvy39 (i + 15) (ne_o (i := i) (c := 15) (d := 1) rfl)).trans hgy83
            refine z_cV (As := [.int (zI (350)), .int (zI (z1))]) (rest := []) (ci := 12) C (c_X10_goes l D A cs tt N ad _ i hN _ hgy41 _ hdvy39 _ hgy54 _ hgy59 _ hgy64 _ hgy69 _ hgy74 _ hgy79 _ hgy84 350 (by omega) hEvy42 (x) (by omega) hWvy39 (z1) (by omega) (by omega) (by omega)) (lt_A0 hN rfl) hay1 hgy41 rfl rfl mv_yX10_goes q_1881 hd_yX10_goes (by decide) (Nat.le_of_ble_eq_true rfl) (by decide) dX10_then_54 rfl (kV0 fun gvy49 hvy49 => ?_)
            obtain ⟨⟨rvy49, hcvy49, hwvy49, htvy49, hyvy49⟩, ⟨t4vy49, h4vy49⟩, ⟨t5vy49, h5vy49⟩, hfvy49⟩ := hvy49
            have hAy85 : okA rvy49 (x) := okA.tried hAvy39 (fun j a => hyvy49 j (by omega))
            obtain ⟨⟨hsyy86, htyy86, hnyy86, hpyy86⟩, hlyy86⟩ := okA.at0 hAy85
            simp only [Nat.zero_add] at hsyy86 hnyy86 hpyy86
            have hmn : ∀ s, s < 4 → 0 ≤ rvy49 (6 + 86 * s) ∧ rvy49 (6 + 86 * s) ≤ 12 := fun s hs => (hsyy86 s hs).1
            have h5 : 0 ≤ rvy49 5 ∧ rvy49 5 ≤ 6 := hpyy86
            refine z_aload_n C 0 dX10_then_57 rfl ?_
            refine z_sipush (z := 350) C dX10_then_58 (by decide) ?_
            refine z_iload_n C 1 dX10_then_61 rfl ?_
            obtain ⟨py87, hpy87⟩ : ∃ p9 : Nat, 350 + 6 + 86 * n = p9 := ⟨_, rfl⟩
            have hgy88 := (hfvy49 (i) (ne_o (i := i) (c := 0) (d := 1) rfl) (ne_o (i := i) (c := 0) (d := 14) rfl) (ne_o (i := i) (c := 0) (d := 15) rfl)).trans hgy41
            have hgy90 := up_n egy25 ha2 (ne_o (i := i) (c := 2) (d := 0) rfl)
            have hgy91 := (hfvy27 (i + 2) (ne_o (i := i) (c := 2) (d := 0) rfl)).trans hgy90
            have hgy92 := (hfvy30 (i + 2) (ne_o (i := i) (c := 2) (d := 0) rfl)).trans hgy91
            have hgy93 := (hfvy33 (i + 2) (ne_o (i := i) (c := 2) (d := 0) rfl)).trans hgy92
            have hgy94 := (hfvy39 (i + 2) (ne_o (i := i) (c := 2) (d := 1) rfl)).trans hgy93
            have hgy95 := (hfvy49 (i + 2) (ne_o (i := i) (c := 2) (d := 1) rfl) (ne_o (i := i) (c := 2) (d := 14) rfl) (ne_o (i := i) (c := 2) (d := 15) rfl)).trans hgy94
            have hgy96 := (hfvy49 (i + 7) (ne_o (i := i) (c := 7) (d := 1) rfl) (ne_o (i := i) (c := 7) (d := 14) rfl) (ne_o (i := i) (c := 7) (d := 15) rfl)).trans hgy74
            have hqy97 : qS rvy49 py87 := ((hwvy49.1 n (by omega)).of (p2 := py87) (by omega)).q (by have hb9 := mBb (t := rvy49 350 + x) (by omega); omega)
            have hmky98 := hqy97.1
            refine z_cV (As := [.int (zI (350)), .int (zI ((n : Int)))]) (rest := []) (ci := 12) C (c_X10_weakest l D A cs tt N ad _ i hN _ hgy88 _ hcvy49 _ hgy95 _ hgy96 350 n py87 hpy87 (by omega) (by omega) hqy97) (lt_A0 hN rfl) hay1 hgy88 rfl rfl mv_yX10_weakest q_1807 hd_yX10_weakest (by decide) (Nat.le_of_ble_eq_true rfl) (by decide) dX10_then_62 rfl (kI0 fun vy89 gvy89 hvy89 => ?_)
            obtain ⟨hvy89, rfl⟩ := hvy89
            refine z_istore (lv' := [(4, .int (zI (vy89))), (0, .ref (ad i)), (1, .int (zI ((n : Int)))), (2, .int (zI (z1))), (3, .int (zI (z2)))]) C dX10_then_65 (by decide) rfl ?_
            refine z_iload_n C 4 dX10_then_67 rfl ?_
            by_cases hsy99 : z2 ≠ 0 ∧ z2 ≠ 1 ∧ z2 ≠ 2 ∧ z2 ≠ 3 ∧ z2 ≠ 4 ∧ z2 ≠ 5
            · refine z_tout (tgt := 179) C dX10_then_68 (by omega) (by omega) (by decide) ?_
              refine z_aload_n C 1 dX10_then_179 rfl ?_
              refine z_get (v := .ref (ad (i + 1))) C (lt_A0 hN rfl) hay1 hgy88 rfl inA_X10 0 (by decide) q_1459 rfl rfl dX10_then_180 ?_
              refine z_sipush (z := 356) C dX10_then_183 (by decide) ?_
              refine z_bipush (z := 86) C dX10_then_186 (by decide) ?_
              refine z_iload_n C 2 dX10_then_188 rfl ?_
              refine z_imul C dX10_then_189 ?_
              refine z_iadd C dX10_then_190 ?_
              refine z_iconst (z := 1) C dX10_then_191 rfl ?_
              refine z_iadd C dX10_then_192 ?_
              refine z_iald C (lt_A (c := 1) hN rfl) hay2 hcvy49 (((356 + (86 * (n : Int))) + 1).toNat) (by omega) (by omega) (by decide) dX10_then_193 ?_
              obtain ⟨xy100, exy101, hxy102⟩ := zI_of (zI (rvy49 (((356 + (86 * (n : Int))) + 1).toNat)))
              rw [exy101]
              have hFy103 : ∀ f, f ≠ 12 → Fvy33 f = F f := fun f n12 => ((hFvy33 f n12).trans ((hFvy30 f n12).trans ((hFvy27 f n12).trans ((uZ_n _ _ n12).trans rfl))))
              have hey104 : Fvy33 13 = F 13 := ((hFvy33 13 (by decide)).trans ((hFvy30 13 (by decide)).trans ((hFvy27 13 (by decide)).trans (fn rfl (by decide)))))
              have hey105 : Fvy33 14 = F 14 := ((hFvy33 14 (by decide)).trans ((hFvy30 14 (by decide)).trans ((hFvy27 14 (by decide)).trans (fn rfl (by decide)))))
              have hey106 : Fvy33 15 = F 15 := ((hFvy33 15 (by decide)).trans ((hFvy30 15 (by decide)).trans ((hFvy27 15 (by decide)).trans (fn rfl (by decide)))))
              have hey107 : Fvy33 16 = F 16 := ((hFvy33 16 (by decide)).trans ((hFvy30 16 (by decide)).trans ((hFvy27 16 (by decide)).trans (fn rfl (by decide)))))
              have hey108 : Fvy33 17 = F 17 := ((hFvy33 17 (by decide)).trans ((hFvy30 17 (by decide)).trans ((hFvy27 17 (by decide)).trans (fn rfl (by decide)))))
              have hey109 : Fvy33 18 = F 18 := ((hFvy33 18 (by decide)).trans ((hFvy30 18 (by decide)).trans ((hFvy27 18 (by decide)).trans (fn rfl (by decide)))))
              have hey110 : Fvy33 19 = F 19 := ((hFvy33 19 (by decide)).trans ((hFvy30 19 (by decide)).trans ((hFvy27 19 (by decide)).trans (fn rfl (by decide)))))
              have hey111 : Fvy33 20 = F 20 := ((hFvy33 20 (by decide)).trans ((hFvy30 20 (by decide)).trans ((hFvy27 20 (by decide)).trans (fn rfl (by decide)))))
              have hey112 : Fvy33 21 = F 21 := ((hFvy33 21 (by decide)).trans ((hFvy30 21 (by decide)).trans ((hFvy27 21 (by decide)).trans (fn rfl (by decide)))))
              have hey113 : Fvy33 23 = F 23 := ((hFvy33 23 (by decide)).trans ((hFvy30 23 (by decide)).trans ((hFvy27 23 (by decide)).trans (fn rfl (by decide)))))
              have hey114 : Fvy33 25 = F 25 := ((hFvy33 25 (by decide)).trans ((hFvy30 25 (by decide)).trans ((hFvy27 25 (by decide)).trans (fn rfl (by decide)))))
              have hey115 : Fvy33 27 = F 27 := ((hFvy33 27 (by decide)).trans ((hFvy30 27 (by decide)).trans ((hFvy27 27 (by decide)).trans (fn rfl (by decide)))))
              have hey116 : Fvy33 28 = F 28 := ((hFvy33 28 (by decide)).trans ((hFvy30 28 (by decide)).trans ((hFvy27 28 (by decide)).trans (fn rfl (by decide)))))
              have hey117 : Fvy33 29 = F 29 := ((hFvy33 29 (by decide)).trans ((hFvy30 29 (by decide)).trans ((hFvy27 29 (by decide)).trans (fn rfl (by decide)))))
              have hKy118 : okF Fvy33 := okF.mv hM.2.1 hey104 hey105 hey106 hey107 hey108 hey109 hey110 hey111 hey112 hey113 hey114 hey115 hey116 hey117
              have hMy119 : okMr cs ad gvy49 i (x + 1) Fvy33 rvy49 st op ai fa mu tb tp := okMr.upd hM hgy88 hKy118 (fun f a => hFy103 f (by omega)) hcvy49 (hAy85.mono (by omega)) (fun j a b => by
                  by_cases e0 : j = i + 14
                  · exact Or.inr ⟨14, _, e0, lsP.l (by decide), by rw [e0]; exact h4vy49⟩
                  by_cases e1 : j = i + 15
                  · exact Or.inr ⟨15, _, e1, lsP.l (by decide), by rw [e1]; exact h5vy49⟩
                  exact Or.inl (by rw [hfvy49 _ (by omega) (by omega) (by omega)]; rw [hfvy39 _ (by omega)]; rw [hfvy33 _ (by omega)]; rw [hfvy30 _ (by omega)]; rw [hfvy27 _ (by omega)]; rw [egy25, va_up_ne _ _ (by omega)]))
              have hkpy120 : Fvy33 13 = F 13 := ((hFvy33 13 (by decide)).trans ((hFvy30 13 (by decide)).trans ((hFvy27 13 (by decide)).trans (fn rfl (by decide)))))
              have hkpy121 : Fvy33 14 = F 14 := ((hFvy33 14 (by decide)).trans ((hFvy30 14 (by decide)).trans ((hFvy27 14 (by decide)).trans (fn rfl (by decide)))))
              have hkpy122 : Fvy33 15 = F 15 := ((hFvy33 15 (by decide)).trans ((hFvy30 15 (by decide)).trans ((hFvy27 15 (by decide)).trans (fn rfl (by decide)))))
              have hkpy123 : Fvy33 16 = F 16 := ((hFvy33 16 (by decide)).trans ((hFvy30 16 (by decide)).trans ((hFvy27 16 (by decide)).trans (fn rfl (by decide)))))
              have hkpy124 : Fvy33 17 = F 17 := ((hFvy33 17 (by decide)).trans ((hFvy30 17 (by decide)).trans ((hFvy27 17 (by decide)).trans (fn rfl (by decide)))))
              have hkpy125 : Fvy33 18 = F 18 := ((hFvy33 18 (by decide)).trans ((hFvy30 18 (by decide)).trans ((hFvy27 18 (by decide)).trans (fn rfl (by decide)))))
              have hkpy126 : Fvy33 19 = F 19 := ((hFvy33 19 (by decide)).trans ((hFvy30 19 (by decide)).trans ((hFvy27 19 (by decide)).trans (fn rfl (by decide)))))
              have hkpy127 : Fvy33 20 = F 20 := ((hFvy33 20 (by decide)).trans ((hFvy30 20 (by decide)).trans ((hFvy27 20 (by decide)).trans (fn rfl (by decide)))))
              have hkpy128 : Fvy33 21 = F 21 := ((hFvy33 21 (by decide)).trans ((hFvy30 21 (by decide)).trans ((hFvy27 21 (by decide)).trans (fn rfl (by decide)))))
              have hkpy129 : Fvy33 23 = F 23 := ((hFvy33 23 (by decide)).trans ((hFvy30 23 (by decide)).trans ((hFvy27 23 (by decide)).trans (fn rfl (by decide)))))
              have hkpy130 : Fvy33 24 = F 24 := ((hFvy33 24 (by decide)).trans ((hFvy30 24 (by decide)).trans ((hFvy27 24 (by decide)).trans (fn rfl (by decide)))))
              have hkpy131 : Fvy33 25 = F 25 := ((hFvy33 25 (by decide)).trans ((hFvy30 25 (by decide)).trans ((hFvy27 25 (by decide)).trans (fn rfl (by decide)))))
              have hkpy132 : Fvy33 26 = F 26 := ((hFvy33 26 (by decide)).trans ((hFvy30 26 (by decide)).trans ((hFvy27 26 (by decide)).trans (fn rfl (by decide)))))
              have hkpy133 : Fvy33 27 = F 27 := ((hFvy33 27 (by decide)).trans ((hFvy30 27 (by decide)).trans ((hFvy27 27 (by decide)).trans (fn rfl (by decide)))))
              have hkpy134 : Fvy33 29 = F 29 := ((hFvy33 29 (by decide)).trans ((hFvy30 29 (by decide)).trans ((hFvy27 29 (by decide)).trans (fn rfl (by decide)))))
              exact z_iret C hr hlk dX10_then_194 (by decide) (by decide) ⟨xy100, rfl, rfl, rfl, by omega, ⟨_, _, hMy119, ⟨hkpy120, hkpy121, hkpy122, hkpy123, hkpy124, hkpy125, hkpy126, hkpy127, hkpy128, hkpy129, hkpy130⟩, ⟨(hkpy131.trans hp25), (hkpy132.trans hp26), (hkpy133.trans hp27), (hkpy134.trans hp29)⟩, (fun j a9 => (hyvy49 j (by omega)).trans ((fun j a9 => (hyvy39 j a9).trans ((fun j _ => rfl) j a9)) j a9))⟩, fun j j1 => by rw [hfvy49 _ (by omega) (by omega) (by omega)]; rw [hfvy39 _ (by omega)]; rw [hfvy33 _ (by omega)]; rw [hfvy30 _ (by omega)]; rw [hfvy27 _ (by omega)]; rw [egy25, va_up_ne _ _ (by omega)]⟩
            · rcases (show z2 = 0 ∨ z2 = 1 ∨ z2 = 2 ∨ z2 = 3 ∨ z2 = 4 ∨ z2 = 5 by omega) with rfl | rfl | rfl | rfl | rfl | rfl
              · refine z_tin (off := 40) (tgt := 108) C dX10_then_68 (by omega) (by omega) (by omega) rfl (by decide) ?_
                refine z_aload_n C 1 dX10_then_108 rfl ?_
                refine z_sipush (z := 350) C dX10_then_109 (by decide) ?_
                refine z_iload_n C 2 dX10_then_112 rfl ?_
                refine z_iconst (z := 3) C dX10_then_113 rfl ?_
                have hqy136 : qS rvy49 py87 := ((hwvy49.1 n (by omega)).of (p2 := py87) (by omega)).q (by have hb9 := mBb (t := rvy49 350 + x) (by omega); omega)
                have hmky137 := hqy136.1
                refine z_cV (As := [.int (zI (350)), .int (zI ((n : Int))), .int (zI (3))]) (rest := []) (ci := 12) C (c_X10_sumA l D A cs tt N ad _ i hN _ hgy88 _ hcvy49 350 n py87 hpy87 (by omega) (by omega) hqy136 3 (by omega)) (lt_A0 hN rfl) hay1 hgy88 rfl rfl mv_yX10_sum q_1745 hd_yX10_sum (by decide) (Nat.le_of_ble_eq_true rfl) (by decide) dX10_then_114 rfl (kI0 fun vy135 gvy135 hvy135 => ?_)
                obtain ⟨hvy135, rfl⟩ := hvy135
                have hFy138 : ∀ f, f ≠ 12 → Fvy33 f = F f := fun f n12 => ((hFvy33 f n12).trans ((hFvy30 f n12).trans ((hFvy27 f n12).trans ((uZ_n _ _ n12).trans rfl))))
                have hey139 : Fvy33 13 = F 13 := ((hFvy33 13 (by decide)).trans ((hFvy30 13 (by decide)).trans ((hFvy27 13 (by decide)).trans (fn rfl (by decide)))))
                have hey140 : Fvy33 14 = F 14 := ((hFvy33 14 (by decide)).trans ((hFvy30 14 (by decide)).trans ((hFvy27 14 (by decide)).trans (fn rfl (by decide)))))
                have hey141 : Fvy33 15 = F 15 := ((hFvy33 15 (by decide)).trans ((hFvy30 15 (by decide)).trans ((hFvy27 15 (by decide)).trans (fn rfl (by decide)))))
                have hey142 : Fvy33 16 = F 16 := ((hFvy33 16 (by decide)).trans ((hFvy30 16 (by decide)).trans ((hFvy27 16 (by decide)).trans (fn rfl (by decide)))))
                have hey143 : Fvy33 17 = F 17 := ((hFvy33 17 (by decide)).trans ((hFvy30 17 (by decide)).trans ((hFvy27 17 (by decide)).trans (fn rfl (by decide)))))
                have hey144 : Fvy33 18 = F 18 := ((hFvy33 18 (by decide)).trans ((hFvy30 18 (by decide)).trans ((hFvy27 18 (by decide)).trans (fn rfl (by decide)))))
                have hey145 : Fvy33 19 = F 19 := ((hFvy33 19 (by decide)).trans ((hFvy30 19 (by decide)).trans ((hFvy27 19 (by decide)).trans (fn rfl (by decide)))))
                have hey146 : Fvy33 20 = F 20 := ((hFvy33 20 (by decide)).trans ((hFvy30 20 (by decide)).trans ((hFvy27 20 (by decide)).trans (fn rfl (by decide)))))
                have hey147 : Fvy33 21 = F 21 := ((hFvy33 21 (by decide)).trans ((hFvy30 21 (by decide)).trans ((hFvy27 21 (by decide)).trans (fn rfl (by decide)))))
                have hey148 : Fvy33 23 = F 23 := ((hFvy33 23 (by decide)).trans ((hFvy30 23 (by decide)).trans ((hFvy27 23 (by decide)).trans (fn rfl (by decide)))))
                have hey149 : Fvy33 25 = F 25 := ((hFvy33 25 (by decide)).trans ((hFvy30 25 (by decide)).trans ((hFvy27 25 (by decide)).trans (fn rfl (by decide)))))
                have hey150 : Fvy33 27 = F 27 := ((hFvy33 27 (by decide)).trans ((hFvy30 27 (by decide)).trans ((hFvy27 27 (by decide)).trans (fn rfl (by decide)))))
                have hey151 : Fvy33 28 = F 28 := ((hFvy33 28 (by decide)).trans ((hFvy30 28 (by decide)).trans ((hFvy27 28 (by decide)).trans (fn rfl (by decide)))))
                have hey152 : Fvy33 29 = F 29 := ((hFvy33 29 (by decide)).trans ((hFvy30 29 (by decide)).trans ((hFvy27 29 (by decide)).trans (fn rfl (by decide)))))
                have hKy153 : okF Fvy33 := okF.mv hM.2.1 hey139 hey140 hey141 hey142 hey143 hey144 hey145 hey146 hey147 hey148 hey149 hey150 hey151 hey152
                have hMy154 : okMr cs ad gvy49 i (x + 1) Fvy33 rvy49 st op ai fa mu tb tp := okMr.upd hM hgy88 hKy153 (fun f a => hFy138 f (by omega)) hcvy49 (hAy85.mono (by omega)) (fun j a b => by
                    by_cases e0 : j = i + 14
                    · exact Or.inr ⟨14, _, e0, lsP.l (by decide), by rw [e0]; exact h4vy49⟩
                    by_cases e1 : j = i + 15
                    · exact Or.inr ⟨15, _, e1, lsP.l (by decide), by rw [e1]; exact h5vy49⟩
                    exact Or.inl (by rw [hfvy49 _ (by omega) (by omega) (by omega)]; rw [hfvy39 _ (by omega)]; rw [hfvy33 _ (by omega)]; rw [hfvy30 _ (by omega)]; rw [hfvy27 _ (by omega)]; rw [egy25, va_up_ne _ _ (by omega)]))
                have hkpy155 : Fvy33 13 = F 13 := ((hFvy33 13 (by decide)).trans ((hFvy30 13 (by decide)).trans ((hFvy27 13 (by decide)).trans (fn rfl (by decide)))))
                have hkpy156 : Fvy33 14 = F 14 := ((hFvy33 14 (by decide)).trans ((hFvy30 14 (by decide)).trans ((hFvy27 14 (by decide)).trans (fn rfl (by decide)))))
                have hkpy157 : Fvy33 15 = F 15 := ((hFvy33 15 (by decide)).trans ((hFvy30 15 (by decide)).trans ((hFvy27 15 (by decide)).trans (fn rfl (by decide)))))
                have hkpy158 : Fvy33 16 = F 16 := ((hFvy33 16 (by decide)).trans ((hFvy30 16 (by decide)).trans ((hFvy27 16 (by decide)).trans (fn rfl (by decide)))))
                have hkpy159 : Fvy33 17 = F 17 := ((hFvy33 17 (by decide)).trans ((hFvy30 17 (by decide)).trans ((hFvy27 17 (by decide)).trans (fn rfl (by decide)))))
                have hkpy160 : Fvy33 18 = F 18 := ((hFvy33 18 (by decide)).trans ((hFvy30 18 (by decide)).trans ((hFvy27 18 (by decide)).trans (fn rfl (by decide)))))
                have hkpy161 : Fvy33 19 = F 19 := ((hFvy33 19 (by decide)).trans ((hFvy30 19 (by decide)).trans ((hFvy27 19 (by decide)).trans (fn rfl (by decide)))))
                have hkpy162 : Fvy33 20 = F 20 := ((hFvy33 20 (by decide)).trans ((hFvy30 20 (by decide)).trans ((hFvy27 20 (by decide)).trans (fn rfl (by decide)))))
                have hkpy163 : Fvy33 21 = F 21 := ((hFvy33 21 (by decide)).trans ((hFvy30 21 (by decide)).trans ((hFvy27 21 (by decide)).trans (fn rfl (by decide)))))
                have hkpy164 : Fvy33 23 = F 23 := ((hFvy33 23 (by decide)).trans ((hFvy30 23 (by decide)).trans ((hFvy27 23 (by decide)).trans (fn rfl (by decide)))))
                have hkpy165 : Fvy33 24 = F 24 := ((hFvy33 24 (by decide)).trans ((hFvy30 24 (by decide)).trans ((hFvy27 24 (by decide)).trans (fn rfl (by decide)))))
                have hkpy166 : Fvy33 25 = F 25 := ((hFvy33 25 (by decide)).trans ((hFvy30 25 (by decide)).trans ((hFvy27 25 (by decide)).trans (fn rfl (by decide)))))
                have hkpy167 : Fvy33 26 = F 26 := ((hFvy33 26 (by decide)).trans ((hFvy30 26 (by decide)).trans ((hFvy27 26 (by decide)).trans (fn rfl (by decide)))))
                have hkpy168 : Fvy33 27 = F 27 := ((hFvy33 27 (by decide)).trans ((hFvy30 27 (by decide)).trans ((hFvy27 27 (by decide)).trans (fn rfl (by decide)))))
                have hkpy169 : Fvy33 29 = F 29 := ((hFvy33 29 (by decide)).trans ((hFvy30 29 (by decide)).trans ((hFvy27 29 (by decide)).trans (fn rfl (by decide)))))
                exact z_iret C hr hlk dX10_then_117 (by decide) (by decide) ⟨vy135, rfl, rfl, rfl, by omega, ⟨_, _, hMy154, ⟨hkpy155, hkpy156, hkpy157, hkpy158, hkpy159, hkpy160, hkpy161, hkpy162, hkpy163, hkpy164, hkpy165⟩, ⟨(hkpy166.trans hp25), (hkpy167.trans hp26), (hkpy168.trans hp27), (hkpy169.trans hp29)⟩, (fun j a9 => (hyvy49 j (by omega)).trans ((fun j a9 => (hyvy39 j a9).trans ((fun j _ => rfl) j a9)) j a9))⟩, fun j j1 => by rw [hfvy49 _ (by omega) (by omega) (by omega)]; rw [hfvy39 _ (by omega)]; rw [hfvy33 _ (by omega)]; rw [hfvy30 _ (by omega)]; rw [hfvy27 _ (by omega)]; rw [egy25, va_up_ne _ _ (by omega)]⟩
              · refine z_tin (off := 50) (tgt := 118) C dX10_then_68 (by omega) (by omega) (by omega) rfl (by decide) ?_
                refine z_aload_n C 1 dX10_then_118 rfl ?_
                refine z_sipush (z := 350) C dX10_then_119 (by decide) ?_
                refine z_iload_n C 2 dX10_then_122 rfl ?_
                refine z_iconst (z := 1) C dX10_then_123 rfl ?_
                have hqy171 : qS rvy49 py87 := ((hwvy49.1 n (by omega)).of (p2 := py87) (by omega)).q (by have hb9 := mBb (t := rvy49 350 + x) (by omega); omega)
                have hmky172 := hqy171.1
                refine z_cV (As := [.int (zI (350)), .int (zI ((n : Int))), .int (zI (1))]) (rest := []) (ci := 12) C (c_X10_sumA l D A cs tt N ad _ i hN _ hgy88 _ hcvy49 350 n py87 hpy87 (by omega) (by omega) hqy171 1 (by omega)) (lt_A0 hN rfl) hay1 hgy88 rfl rfl mv_yX10_sum q_1745 hd_yX10_sum (by decide) (Nat.le_of_ble_eq_true rfl) (by decide) dX10_then_124 rfl (kI0 fun vy170 gvy170 hvy170 => ?_)
                obtain ⟨hvy170, rfl⟩ := hvy170
                have hFy173 : ∀ f, f ≠ 12 → Fvy33 f = F f := fun f n12 => ((hFvy33 f n12).trans ((hFvy30 f n12).trans ((hFvy27 f n12).trans ((uZ_n _ _ n12).trans rfl))))
                have hey174 : Fvy33 13 = F 13 := ((hFvy33 13 (by decide)).trans ((hFvy30 13 (by decide)).trans ((hFvy27 13 (by decide)).trans (fn rfl (by decide)))))
                have hey175 : Fvy33 14 = F 14 := ((hFvy33 14 (by decide)).trans ((hFvy30 14 (by decide)).trans ((hFvy27 14 (by decide)).trans (fn rfl (by decide)))))
                have hey176 : Fvy33 15 = F 15 := ((hFvy33 15 (by decide)).trans ((hFvy30 15 (by decide)).trans ((hFvy27 15 (by decide)).trans (fn rfl (by decide)))))
                have hey177 : Fvy33 16 = F 16 := ((hFvy33 16 (by decide)).trans ((hFvy30 16 (by decide)).trans ((hFvy27 16 (by decide)).trans (fn rfl (by decide)))))
                have hey178 : Fvy33 17 = F 17 := ((hFvy33 17 (by decide)).trans ((hFvy30 17 (by decide)).trans ((hFvy27 17 (by decide)).trans (fn rfl (by decide)))))
                have hey179 : Fvy33 18 = F 18 := ((hFvy33 18 (by decide)).trans ((hFvy30 18 (by decide)).trans ((hFvy27 18 (by decide)).trans (fn rfl (by decide)))))
                have hey180 : Fvy33 19 = F 19 := ((hFvy33 19 (by decide)).trans ((hFvy30 19 (by decide)).trans ((hFvy27 19 (by decide)).trans (fn rfl (by decide)))))
                have hey181 : Fvy33 20 = F 20 := ((hFvy33 20 (by decide)).trans ((hFvy30 20 (by decide)).trans ((hFvy27 20 (by decide)).trans (fn rfl (by decide)))))
                have hey182 : Fvy33 21 = F 21 := ((hFvy33 21 (by decide)).trans ((hFvy30 21 (by decide)).trans ((hFvy27 21 (by decide)).trans (fn rfl (by decide)))))
                have hey183 : Fvy33 23 = F 23 := ((hFvy33 23 (by decide)).trans ((hFvy30 23 (by decide)).trans ((hFvy27 23 (by decide)).trans (fn rfl (by decide)))))
                have hey184 : Fvy33 25 = F 25 := ((hFvy33 25 (by decide)).trans ((hFvy30 25 (by decide)).trans ((hFvy27 25 (by decide)).trans (fn rfl (by decide)))))
                have hey185 : Fvy33 27 = F 27 := ((hFvy33 27 (by decide)).trans ((hFvy30 27 (by decide)).trans ((hFvy27 27 (by decide)).trans (fn rfl (by decide)))))
                have hey186 : Fvy33 28 = F 28 := ((hFvy33 28 (by decide)).trans ((hFvy30 28 (by decide)).trans ((hFvy27 28 (by decide)).trans (fn rfl (by decide)))))
                have hey187 : Fvy33 29 = F 29 := ((hFvy33 29 (by decide)).trans ((hFvy30 29 (by decide)).trans ((hFvy27 29 (by decide)).trans (fn rfl (by decide)))))
                have hKy188 : okF Fvy33 := okF.mv hM.2.1 hey174 hey175 hey176 hey177 hey178 hey179 hey180 hey181 hey182 hey183 hey184 hey185 hey186 hey187
                have hMy189 : okMr cs ad gvy49 i (x + 1) Fvy33 rvy49 st op ai fa mu tb tp := okMr.upd hM hgy88 hKy188 (fun f a => hFy173 f (by omega)) hcvy49 (hAy85.mono (by omega)) (fun j a b => by
                    by_cases e0 : j = i + 14
                    · exact Or.inr ⟨14, _, e0, lsP.l (by decide), by rw [e0]; exact h4vy49⟩
                    by_cases e1 : j = i + 15
                    · exact Or.inr ⟨15, _, e1, lsP.l (by decide), by rw [e1]; exact h5vy49⟩
                    exact Or.inl (by rw [hfvy49 _ (by omega) (by omega) (by omega)]; rw [hfvy39 _ (by omega)]; rw [hfvy33 _ (by omega)]; rw [hfvy30 _ (by omega)]; rw [hfvy27 _ (by omega)]; rw [egy25, va_up_ne _ _ (by omega)]))
                have hkpy190 : Fvy33 13 = F 13 := ((hFvy33 13 (by decide)).trans ((hFvy30 13 (by decide)).trans ((hFvy27 13 (by decide)).trans (fn rfl (by decide)))))
                have hkpy191 : Fvy33 14 = F 14 := ((hFvy33 14 (by decide)).trans ((hFvy30 14 (by decide)).trans ((hFvy27 14 (by decide)).trans (fn rfl (by decide)))))
                have hkpy192 : Fvy33 15 = F 15 := ((hFvy33 15 (by decide)).trans ((hFvy30 15 (by decide)).trans ((hFvy27 15 (by decide)).trans (fn rfl (by decide)))))
                have hkpy193 : Fvy33 16 = F 16 := ((hFvy33 16 (by decide)).trans ((hFvy30 16 (by decide)).trans ((hFvy27 16 (by decide)).trans (fn rfl (by decide)))))
                have hkpy194 : Fvy33 17 = F 17 := ((hFvy33 17 (by decide)).trans ((hFvy30 17 (by decide)).trans ((hFvy27 17 (by decide)).trans (fn rfl (by decide)))))
                have hkpy195 : Fvy33 18 = F 18 := ((hFvy33 18 (by decide)).trans ((hFvy30 18 (by decide)).trans ((hFvy27 18 (by decide)).trans (fn rfl (by decide)))))
                have hkpy196 : Fvy33 19 = F 19 := ((hFvy33 19 (by decide)).trans ((hFvy30 19 (by decide)).trans ((hFvy27 19 (by decide)).trans (fn rfl (by decide)))))
                have hkpy197 : Fvy33 20 = F 20 := ((hFvy33 20 (by decide)).trans ((hFvy30 20 (by decide)).trans ((hFvy27 20 (by decide)).trans (fn rfl (by decide)))))
                have hkpy198 : Fvy33 21 = F 21 := ((hFvy33 21 (by decide)).trans ((hFvy30 21 (by decide)).trans ((hFvy27 21 (by decide)).trans (fn rfl (by decide)))))
                have hkpy199 : Fvy33 23 = F 23 := ((hFvy33 23 (by decide)).trans ((hFvy30 23 (by decide)).trans ((hFvy27 23 (by decide)).trans (fn rfl (by decide)))))
                have hkpy200 : Fvy33 24 = F 24 := ((hFvy33 24 (by decide)).trans ((hFvy30 24 (by decide)).trans ((hFvy27 24 (by decide)).trans (fn rfl (by decide)))))
                have hkpy201 : Fvy33 25 = F 25 := ((hFvy33 25 (by decide)).trans ((hFvy30 25 (by decide)).trans ((hFvy27 25 (by decide)).trans (fn rfl (by decide)))))
                have hkpy202 : Fvy33 26 = F 26 := ((hFvy33 26 (by decide)).trans ((hFvy30 26 (by decide)).trans ((hFvy27 26 (by decide)).trans (fn rfl (by decide)))))
                have hkpy203 : Fvy33 27 = F 27 := ((hFvy33 27 (by decide)).trans ((hFvy30 27 (by decide)).trans ((hFvy27 27 (by decide)).trans (fn rfl (by decide)))))
                have hkpy204 : Fvy33 29 = F 29 := ((hFvy33 29 (by decide)).trans ((hFvy30 29 (by decide)).trans ((hFvy27 29 (by decide)).trans (fn rfl (by decide)))))
                exact z_iret C hr hlk dX10_then_127 (by decide) (by decide) ⟨vy170, rfl, rfl, rfl, by omega, ⟨_, _, hMy189, ⟨hkpy190, hkpy191, hkpy192, hkpy193, hkpy194, hkpy195, hkpy196, hkpy197, hkpy198, hkpy199, hkpy200⟩, ⟨(hkpy201.trans hp25), (hkpy202.trans hp26), (hkpy203.trans hp27), (hkpy204.trans hp29)⟩, (fun j a9 => (hyvy49 j (by omega)).trans ((fun j a9 => (hyvy39 j a9).trans ((fun j _ => rfl) j a9)) j a9))⟩, fun j j1 => by rw [hfvy49 _ (by omega) (by omega) (by omega)]; rw [hfvy39 _ (by omega)]; rw [hfvy33 _ (by omega)]; rw [hfvy30 _ (by omega)]; rw [hfvy27 _ (by omega)]; rw [egy25, va_up_ne _ _ (by omega)]⟩
              · refine z_tin (off := 60) (tgt := 128) C dX10_then_68 (by omega) (by omega) (by omega) rfl (by decide) ?_
                refine z_aload_n C 1 dX10_then_128 rfl ?_
                refine z_sipush (z := 350) C dX10_then_129 (by decide) ?_
                refine z_iload_n C 2 dX10_then_132 rfl ?_
                refine z_iconst (z := 2) C dX10_then_133 rfl ?_
                have hqy206 : qS rvy49 py87 := ((hwvy49.1 n (by omega)).of (p2 := py87) (by omega)).q (by have hb9 := mBb (t := rvy49 350 + x) (by omega); omega)
                have hmky207 := hqy206.1
                refine z_cV (As := [.int (zI (350)), .int (zI ((n : Int))), .int (zI (2))]) (rest := []) (ci := 12) C (c_X10_sumA l D A cs tt N ad _ i hN _ hgy88 _ hcvy49 350 n py87 hpy87 (by omega) (by omega) hqy206 2 (by omega)) (lt_A0 hN rfl) hay1 hgy88 rfl rfl mv_yX10_sum q_1745 hd_yX10_sum (by decide) (Nat.le_of_ble_eq_true rfl) (by decide) dX10_then_134 rfl (kI0 fun vy205 gvy205 hvy205 => ?_)
                obtain ⟨hvy205, rfl⟩ := hvy205
                have hFy208 : ∀ f, f ≠ 12 → Fvy33 f = F f := fun f n12 => ((hFvy33 f n12).trans ((hFvy30 f n12).trans ((hFvy27 f n12).trans ((uZ_n _ _ n12).trans rfl))))
                have hey209 : Fvy33 13 = F 13 := ((hFvy33 13 (by decide)).trans ((hFvy30 13 (by decide)).trans ((hFvy27 13 (by decide)).trans (fn rfl (by decide)))))
                have hey210 : Fvy33 14 = F 14 := ((hFvy33 14 (by decide)).trans ((hFvy30 14 (by decide)).trans ((hFvy27 14 (by decide)).trans (fn rfl (by decide)))))
                have hey211 : Fvy33 15 = F 15 := ((hFvy33 15 (by decide)).trans ((hFvy30 15 (by decide)).trans ((hFvy27 15 (by decide)).trans (fn rfl (by decide)))))
                have hey212 : Fvy33 16 = F 16 := ((hFvy33 16 (by decide)).trans ((hFvy30 16 (by decide)).trans ((hFvy27 16 (by decide)).trans (fn rfl (by decide)))))
                have hey213 : Fvy33 17 = F 17 := ((hFvy33 17 (by decide)).trans ((hFvy30 17 (by decide)).trans ((hFvy27 17 (by decide)).trans (fn rfl (by decide)))))
                have hey214 : Fvy33 18 = F 18 := ((hFvy33 18 (by decide)).trans ((hFvy30 18 (by decide)).trans ((hFvy27 18 (by decide)).trans (fn rfl (by decide)))))
                have hey215 : Fvy33 19 = F 19 := ((hFvy33 19 (by decide)).trans ((hFvy30 19 (by decide)).trans ((hFvy27 19 (by decide)).trans (fn rfl (by decide)))))
                have hey216 : Fvy33 20 = F 20 := ((hFvy33 20 (by decide)).trans ((hFvy30 20 (by decide)).trans ((hFvy27 20 (by decide)).trans (fn rfl (by decide)))))
                have hey217 : Fvy33 21 = F 21 := ((hFvy33 21 (by decide)).trans ((hFvy30 21 (by decide)).trans ((hFvy27 21 (by decide)).trans (fn rfl (by decide)))))
                have hey218 : Fvy33 23 = F 23 := ((hFvy33 23 (by decide)).trans ((hFvy30 23 (by decide)).trans ((hFvy27 23 (by decide)).trans (fn rfl (by decide)))))
                have hey219 : Fvy33 25 = F 25 := ((hFvy33 25 (by decide)).trans ((hFvy30 25 (by decide)).trans ((hFvy27 25 (by decide)).trans (fn rfl (by decide)))))
                have hey220 : Fvy33 27 = F 27 := ((hFvy33 27 (by decide)).trans ((hFvy30 27 (by decide)).trans ((hFvy27 27 (by decide)).trans (fn rfl (by decide)))))
                have hey221 : Fvy33 28 = F 28 := ((hFvy33 28 (by decide)).trans ((hFvy30 28 (by decide)).trans ((hFvy27 28 (by decide)).trans (fn rfl (by decide)))))
                have hey222 : Fvy33 29 = F 29 := ((hFvy33 29 (by decide)).trans ((hFvy30 29 (by decide)).trans ((hFvy27 29 (by decide)).trans (fn rfl (by decide)))))
                have hKy223 : okF Fvy33 := okF.mv hM.2.1 hey209 hey210 hey211 hey212 hey213 hey214 hey215 hey216 hey217 hey218 hey219 hey220 hey221 hey222
                have hMy224 : okMr cs ad gvy49 i (x + 1) Fvy33 rvy49 st op ai fa mu tb tp := okMr.upd hM hgy88 hKy223 (fun f a => hFy208 f (by omega)) hcvy49 (hAy85.mono (by omega)) (fun j a b => by
                    by_cases e0 : j = i + 14
                    · exact Or.inr ⟨14, _, e0, lsP.l (by decide), by rw [e0]; exact h4vy49⟩
                    by_cases e1 : j = i + 15
                    · exact Or.inr ⟨15, _, e1, lsP.l (by decide), by rw [e1]; exact h5vy49⟩
                    exact Or.inl (by rw [hfvy49 _ (by omega) (by omega) (by omega)]; rw [hfvy39 _ (by omega)]; rw [hfvy33 _ (by omega)]; rw [hfvy30 _ (by omega)]; rw [hfvy27 _ (by omega)]; rw [egy25, va_up_ne _ _ (by omega)]))
                have hkpy225 : Fvy33 13 = F 13 := ((hFvy33 13 (by decide)).trans ((hFvy30 13 (by decide)).trans ((hFvy27 13 (by decide)).trans (fn rfl (by decide)))))
                have hkpy226 : Fvy33 14 = F 14 := ((hFvy33 14 (by decide)).trans ((hFvy30 14 (by decide)).trans ((hFvy27 14 (by decide)).trans (fn rfl (by decide)))))
                have hkpy227 : Fvy33 15 = F 15 := ((hFvy33 15 (by decide)).trans ((hFvy30 15 (by decide)).trans ((hFvy27 15 (by decide)).trans (fn rfl (by decide)))))
                have hkpy228 : Fvy33 16 = F 16 := ((hFvy33 16 (by decide)).trans ((hFvy30 16 (by decide)).trans ((hFvy27 16 (by decide)).trans (fn rfl (by decide)))))
                have hkpy229 : Fvy33 17 = F 17 := ((hFvy33 17 (by decide)).trans ((hFvy30 17 (by decide)).trans ((hFvy27 17 (by decide)).trans (fn rfl (by decide)))))
                have hkpy230 : Fvy33 18 = F 18 := ((hFvy33 18 (by decide)).trans ((hFvy30 18 (by decide)).trans ((hFvy27 18 (by decide)).trans (fn rfl (by decide)))))
                have hkpy231 : Fvy33 19 = F 19 := ((hFvy33 19 (by decide)).trans ((hFvy30 19 (by decide)).trans ((hFvy27 19 (by decide)).trans (fn rfl (by decide)))))
                have hkpy232 : Fvy33 20 = F 20 := ((hFvy33 20 (by decide)).trans ((hFvy30 20 (by decide)).trans ((hFvy27 20 (by decide)).trans (fn rfl (by decide)))))
                have hkpy233 : Fvy33 21 = F 21 := ((hFvy33 21 (by decide)).trans ((hFvy30 21 (by decide)).trans ((hFvy27 21 (by decide)).trans (fn rfl (by decide)))))
                have hkpy234 : Fvy33 23 = F 23 := ((hFvy33 23 (by decide)).trans ((hFvy30 23 (by decide)).trans ((hFvy27 23 (by decide)).trans (fn rfl (by decide)))))
                have hkpy235 : Fvy33 24 = F 24 := ((hFvy33 24 (by decide)).trans ((hFvy30 24 (by decide)).trans ((hFvy27 24 (by decide)).trans (fn rfl (by decide)))))
                have hkpy236 : Fvy33 25 = F 25 := ((hFvy33 25 (by decide)).trans ((hFvy30 25 (by decide)).trans ((hFvy27 25 (by decide)).trans (fn rfl (by decide)))))
                have hkpy237 : Fvy33 26 = F 26 := ((hFvy33 26 (by decide)).trans ((hFvy30 26 (by decide)).trans ((hFvy27 26 (by decide)).trans (fn rfl (by decide)))))
                have hkpy238 : Fvy33 27 = F 27 := ((hFvy33 27 (by decide)).trans ((hFvy30 27 (by decide)).trans ((hFvy27 27 (by decide)).trans (fn rfl (by decide)))))
                have hkpy239 : Fvy33 29 = F 29 := ((hFvy33 29 (by decide)).trans ((hFvy30 29 (by decide)).trans ((hFvy27 29 (by decide)).trans (fn rfl (by decide)))))
                exact z_iret C hr hlk dX10_then_137 (by decide) (by decide) ⟨vy205, rfl, rfl, rfl, by omega, ⟨_, _, hMy224, ⟨hkpy225, hkpy226, hkpy227, hkpy228, hkpy229, hkpy230, hkpy231, hkpy232, hkpy233, hkpy234, hkpy235⟩, ⟨(hkpy236.trans hp25), (hkpy237.trans hp26), (hkpy238.trans hp27), (hkpy239.trans hp29)⟩, (fun j a9 => (hyvy49 j (by omega)).trans ((fun j a9 => (hyvy39 j a9).trans ((fun j _ => rfl) j a9)) j a9))⟩, fun j j1 => by rw [hfvy49 _ (by omega) (by omega) (by omega)]; rw [hfvy39 _ (by omega)]; rw [hfvy33 _ (by omega)]; rw [hfvy30 _ (by omega)]; rw [hfvy27 _ (by omega)]; rw [egy25, va_up_ne _ _ (by omega)]⟩
              · refine z_tin (off := 70) (tgt := 138) C dX10_then_68 (by omega) (by omega) (by omega) rfl (by decide) ?_
                refine z_aload_n C 1 dX10_then_138 rfl ?_
                refine z_sipush (z := 350) C dX10_then_139 (by decide) ?_
                refine z_iload_n C 2 dX10_then_142 rfl ?_
                have hmyy240 := (hwvy49.1 n (by omega)).1
                rw [hpy87] at hmyy240
                refine z_cV (As := [.int (zI (350)), .int (zI ((n : Int)))]) (rest := []) (ci := 12) C (c_X10_many l D A cs tt N ad _ i hN _ hgy88 _ hcvy49 350 n py87 hpy87 (by omega) (by omega)) (lt_A0 hN rfl) hay1 hgy88 rfl rfl mv_yX10_many q_1733 hd_yX10_many (by decide) (Nat.le_of_ble_eq_true rfl) (by decide) dX10_then_143 rfl (kI0 fun vy241 gvy241 hvy241 => ?_)
                obtain ⟨rfl, rfl⟩ := hvy241
                have hFy242 : ∀ f, f ≠ 12 → Fvy33 f = F f := fun f n12 => ((hFvy33 f n12).trans ((hFvy30 f n12).trans ((hFvy27 f n12).trans ((uZ_n _ _ n12).trans rfl))))
                have hey243 : Fvy33 13 = F 13 := ((hFvy33 13 (by decide)).trans ((hFvy30 13 (by decide)).trans ((hFvy27 13 (by decide)).trans (fn rfl (by decide)))))
                have hey244 : Fvy33 14 = F 14 := ((hFvy33 14 (by decide)).trans ((hFvy30 14 (by decide)).trans ((hFvy27 14 (by decide)).trans (fn rfl (by decide)))))
                have hey245 : Fvy33 15 = F 15 := ((hFvy33 15 (by decide)).trans ((hFvy30 15 (by decide)).trans ((hFvy27 15 (by decide)).trans (fn rfl (by decide)))))
                have hey246 : Fvy33 16 = F 16 := ((hFvy33 16 (by decide)).trans ((hFvy30 16 (by decide)).trans ((hFvy27 16 (by decide)).trans (fn rfl (by decide)))))
                have hey247 : Fvy33 17 = F 17 := ((hFvy33 17 (by decide)).trans ((hFvy30 17 (by decide)).trans ((hFvy27 17 (by decide)).trans (fn rfl (by decide)))))
                have hey248 : Fvy33 18 = F 18 := ((hFvy33 18 (by decide)).trans ((hFvy30 18 (by decide)).trans ((hFvy27 18 (by decide)).trans (fn rfl (by decide)))))
                have hey249 : Fvy33 19 = F 19 := ((hFvy33 19 (by decide)).trans ((hFvy30 19 (by decide)).trans ((hFvy27 19 (by decide)).trans (fn rfl (by decide)))))
                have hey250 : Fvy33 20 = F 20 := ((hFvy33 20 (by decide)).trans ((hFvy30 20 (by decide)).trans ((hFvy27 20 (by decide)).trans (fn rfl (by decide)))))
                have hey251 : Fvy33 21 = F 21 := ((hFvy33 21 (by decide)).trans ((hFvy30 21 (by decide)).trans ((hFvy27 21 (by decide)).trans (fn rfl (by decide)))))
                have hey252 : Fvy33 23 = F 23 := ((hFvy33 23 (by decide)).trans ((hFvy30 23 (by decide)).trans ((hFvy27 23 (by decide)).trans (fn rfl (by decide)))))
                have hey253 : Fvy33 25 = F 25 := ((hFvy33 25 (by decide)).trans ((hFvy30 25 (by decide)).trans ((hFvy27 25 (by decide)).trans (fn rfl (by decide)))))
                have hey254 : Fvy33 27 = F 27 := ((hFvy33 27 (by decide)).trans ((hFvy30 27 (by decide)).trans ((hFvy27 27 (by decide)).trans (fn rfl (by decide)))))
                have hey255 : Fvy33 28 = F 28 := ((hFvy33 28 (by decide)).trans ((hFvy30 28 (by decide)).trans ((hFvy27 28 (by decide)).trans (fn rfl (by decide)))))
                have hey256 : Fvy33 29 = F 29 := ((hFvy33 29 (by decide)).trans ((hFvy30 29 (by decide)).trans ((hFvy27 29 (by decide)).trans (fn rfl (by decide)))))
                have hKy257 : okF Fvy33 := okF.mv hM.2.1 hey243 hey244 hey245 hey246 hey247 hey248 hey249 hey250 hey251 hey252 hey253 hey254 hey255 hey256
                have hMy258 : okMr cs ad gvy49 i (x + 1) Fvy33 rvy49 st op ai fa mu tb tp := okMr.upd hM hgy88 hKy257 (fun f a => hFy242 f (by omega)) hcvy49 (hAy85.mono (by omega)) (fun j a b => by
                    by_cases e0 : j = i + 14
                    · exact Or.inr ⟨14, _, e0, lsP.l (by decide), by rw [e0]; exact h4vy49⟩
                    by_cases e1 : j = i + 15
                    · exact Or.inr ⟨15, _, e1, lsP.l (by decide), by rw [e1]; exact h5vy49⟩
                    exact Or.inl (by rw [hfvy49 _ (by omega) (by omega) (by omega)]; rw [hfvy39 _ (by omega)]; rw [hfvy33 _ (by omega)]; rw [hfvy30 _ (by omega)]; rw [hfvy27 _ (by omega)]; rw [egy25, va_up_ne _ _ (by omega)]))
                have hkpy259 : Fvy33 13 = F 13 := ((hFvy33 13 (by decide)).trans ((hFvy30 13 (by decide)).trans ((hFvy27 13 (by decide)).trans (fn rfl (by decide)))))
                have hkpy260 : Fvy33 14 = F 14 := ((hFvy33 14 (by decide)).trans ((hFvy30 14 (by decide)).trans ((hFvy27 14 (by decide)).trans (fn rfl (by decide)))))
                have hkpy261 : Fvy33 15 = F 15 := ((hFvy33 15 (by decide)).trans ((hFvy30 15 (by decide)).trans ((hFvy27 15 (by decide)).trans (fn rfl (by decide)))))
                have hkpy262 : Fvy33 16 = F 16 := ((hFvy33 16 (by decide)).trans ((hFvy30 16 (by decide)).trans ((hFvy27 16 (by decide)).trans (fn rfl (by decide)))))
                have hkpy263 : Fvy33 17 = F 17 := ((hFvy33 17 (by decide)).trans ((hFvy30 17 (by decide)).trans ((hFvy27 17 (by decide)).trans (fn rfl (by decide)))))
                have hkpy264 : Fvy33 18 = F 18 := ((hFvy33 18 (by decide)).trans ((hFvy30 18 (by decide)).trans ((hFvy27 18 (by decide)).trans (fn rfl (by decide)))))
                have hkpy265 : Fvy33 19 = F 19 := ((hFvy33 19 (by decide)).trans ((hFvy30 19 (by decide)).trans ((hFvy27 19 (by decide)).trans (fn rfl (by decide)))))
                have hkpy266 : Fvy33 20 = F 20 := ((hFvy33 20 (by decide)).trans ((hFvy30 20 (by decide)).trans ((hFvy27 20 (by decide)).trans (fn rfl (by decide)))))
                have hkpy267 : Fvy33 21 = F 21 := ((hFvy33 21 (by decide)).trans ((hFvy30 21 (by decide)).trans ((hFvy27 21 (by decide)).trans (fn rfl (by decide)))))
                have hkpy268 : Fvy33 23 = F 23 := ((hFvy33 23 (by decide)).trans ((hFvy30 23 (by decide)).trans ((hFvy27 23 (by decide)).trans (fn rfl (by decide)))))
                have hkpy269 : Fvy33 24 = F 24 := ((hFvy33 24 (by decide)).trans ((hFvy30 24 (by decide)).trans ((hFvy27 24 (by decide)).trans (fn rfl (by decide)))))
                have hkpy270 : Fvy33 25 = F 25 := ((hFvy33 25 (by decide)).trans ((hFvy30 25 (by decide)).trans ((hFvy27 25 (by decide)).trans (fn rfl (by decide)))))
                have hkpy271 : Fvy33 26 = F 26 := ((hFvy33 26 (by decide)).trans ((hFvy30 26 (by decide)).trans ((hFvy27 26 (by decide)).trans (fn rfl (by decide)))))
                have hkpy272 : Fvy33 27 = F 27 := ((hFvy33 27 (by decide)).trans ((hFvy30 27 (by decide)).trans ((hFvy27 27 (by decide)).trans (fn rfl (by decide)))))
                have hkpy273 : Fvy33 29 = F 29 := ((hFvy33 29 (by decide)).trans ((hFvy30 29 (by decide)).trans ((hFvy27 29 (by decide)).trans (fn rfl (by decide)))))
                exact z_iret C hr hlk dX10_then_146 (by decide) (by decide) ⟨rvy49 (py87), rfl, rfl, rfl, by omega, ⟨_, _, hMy258, ⟨hkpy259, hkpy260, hkpy261, hkpy262, hkpy263, hkpy264, hkpy265, hkpy266, hkpy267, hkpy268, hkpy269⟩, ⟨(hkpy270.trans hp25), (hkpy271.trans hp26), (hkpy272.trans hp27), (hkpy273.trans hp29)⟩, (fun j a9 => (hyvy49 j (by omega)).trans ((fun j a9 => (hyvy39 j a9).trans ((fun j _ => rfl) j a9)) j a9))⟩, fun j j1 => by rw [hfvy49 _ (by omega) (by omega) (by omega)]; rw [hfvy39 _ (by omega)]; rw [hfvy33 _ (by omega)]; rw [hfvy30 _ (by omega)]; rw [hfvy27 _ (by omega)]; rw [egy25, va_up_ne _ _ (by omega)]⟩
              · refine z_tin (off := 79) (tgt := 147) C dX10_then_68 (by omega) (by omega) (by omega) rfl (by decide) ?_
                refine z_aload_n C 1 dX10_then_147 rfl ?_
                refine z_sipush (z := 350) C dX10_then_148 (by decide) ?_
                refine z_iload_n C 2 dX10_then_151 rfl ?_
                have hqy275 : qS rvy49 py87 := ((hwvy49.1 n (by omega)).of (p2 := py87) (by omega)).q (by have hb9 := mBb (t := rvy49 350 + x) (by omega); omega)
                have hmky276 := hqy275.1
                refine z_cV (As := [.int (zI (350)), .int (zI ((n : Int)))]) (rest := []) (ci := 12) C (c_X10_leastRatio l D A cs tt N ad _ i hN _ hgy88 _ hcvy49 _ hgy95 _ hgy96 350 n py87 hpy87 (by omega) (by omega) hqy275) (lt_A0 hN rfl) hay1 hgy88 rfl rfl mv_yX10_leastRatio q_1760 hd_yX10_leastRatio (by decide) (Nat.le_of_ble_eq_true rfl) (by decide) dX10_then_152 rfl (kI0 fun vy274 gvy274 hvy274 => ?_)
                obtain ⟨hvy274, rfl⟩ := hvy274
                have hFy277 : ∀ f, f ≠ 12 → Fvy33 f = F f := fun f n12 => ((hFvy33 f n12).trans ((hFvy30 f n12).trans ((hFvy27 f n12).trans ((uZ_n _ _ n12).trans rfl))))
                have hey278 : Fvy33 13 = F 13 := ((hFvy33 13 (by decide)).trans ((hFvy30 13 (by decide)).trans ((hFvy27 13 (by decide)).trans (fn rfl (by decide)))))
                have hey279 : Fvy33 14 = F 14 := ((hFvy33 14 (by decide)).trans ((hFvy30 14 (by decide)).trans ((hFvy27 14 (by decide)).trans (fn rfl (by decide)))))
                have hey280 : Fvy33 15 = F 15 := ((hFvy33 15 (by decide)).trans ((hFvy30 15 (by decide)).trans ((hFvy27 15 (by decide)).trans (fn rfl (by decide)))))
                have hey281 : Fvy33 16 = F 16 := ((hFvy33 16 (by decide)).trans ((hFvy30 16 (by decide)).trans ((hFvy27 16 (by decide)).trans (fn rfl (by decide)))))
                have hey282 : Fvy33 17 = F 17 := ((hFvy33 17 (by decide)).trans ((hFvy30 17 (by decide)).trans ((hFvy27 17 (by decide)).trans (fn rfl (by decide)))))
                have hey283 : Fvy33 18 = F 18 := ((hFvy33 18 (by decide)).trans ((hFvy30 18 (by decide)).trans ((hFvy27 18 (by decide)).trans (fn rfl (by decide)))))
                have hey284 : Fvy33 19 = F 19 := ((hFvy33 19 (by decide)).trans ((hFvy30 19 (by decide)).trans ((hFvy27 19 (by decide)).trans (fn rfl (by decide)))))
                have hey285 : Fvy33 20 = F 20 := ((hFvy33 20 (by decide)).trans ((hFvy30 20 (by decide)).trans ((hFvy27 20 (by decide)).trans (fn rfl (by decide)))))
                have hey286 : Fvy33 21 = F 21 := ((hFvy33 21 (by decide)).trans ((hFvy30 21 (by decide)).trans ((hFvy27 21 (by decide)).trans (fn rfl (by decide)))))
                have hey287 : Fvy33 23 = F 23 := ((hFvy33 23 (by decide)).trans ((hFvy30 23 (by decide)).trans ((hFvy27 23 (by decide)).trans (fn rfl (by decide)))))
                have hey288 : Fvy33 25 = F 25 := ((hFvy33 25 (by decide)).trans ((hFvy30 25 (by decide)).trans ((hFvy27 25 (by decide)).trans (fn rfl (by decide)))))
                have hey289 : Fvy33 27 = F 27 := ((hFvy33 27 (by decide)).trans ((hFvy30 27 (by decide)).trans ((hFvy27 27 (by decide)).trans (fn rfl (by decide)))))
                have hey290 : Fvy33 28 = F 28 := ((hFvy33 28 (by decide)).trans ((hFvy30 28 (by decide)).trans ((hFvy27 28 (by decide)).trans (fn rfl (by decide)))))
                have hey291 : Fvy33 29 = F 29 := ((hFvy33 29 (by decide)).trans ((hFvy30 29 (by decide)).trans ((hFvy27 29 (by decide)).trans (fn rfl (by decide)))))
                have hKy292 : okF Fvy33 := okF.mv hM.2.1 hey278 hey279 hey280 hey281 hey282 hey283 hey284 hey285 hey286 hey287 hey288 hey289 hey290 hey291
                have hMy293 : okMr cs ad gvy49 i (x + 1) Fvy33 rvy49 st op ai fa mu tb tp := okMr.upd hM hgy88 hKy292 (fun f a => hFy277 f (by omega)) hcvy49 (hAy85.mono (by omega)) (fun j a b => by
                    by_cases e0 : j = i + 14
                    · exact Or.inr ⟨14, _, e0, lsP.l (by decide), by rw [e0]; exact h4vy49⟩
                    by_cases e1 : j = i + 15
                    · exact Or.inr ⟨15, _, e1, lsP.l (by decide), by rw [e1]; exact h5vy49⟩
                    exact Or.inl (by rw [hfvy49 _ (by omega) (by omega) (by omega)]; rw [hfvy39 _ (by omega)]; rw [hfvy33 _ (by omega)]; rw [hfvy30 _ (by omega)]; rw [hfvy27 _ (by omega)]; rw [egy25, va_up_ne _ _ (by omega)]))
                have hkpy294 : Fvy33 13 = F 13 := ((hFvy33 13 (by decide)).trans ((hFvy30 13 (by decide)).trans ((hFvy27 13 (by decide)).trans (fn rfl (by decide)))))
                have hkpy295 : Fvy33 14 = F 14 := ((hFvy33 14 (by decide)).trans ((hFvy30 14 (by decide)).trans ((hFvy27 14 (by decide)).trans (fn rfl (by decide)))))
                have hkpy296 : Fvy33 15 = F 15 := ((hFvy33 15 (by decide)).trans ((hFvy30 15 (by decide)).trans ((hFvy27 15 (by decide)).trans (fn rfl (by decide)))))
                have hkpy297 : Fvy33 16 = F 16 := ((hFvy33 16 (by decide)).trans ((hFvy30 16 (by decide)).trans ((hFvy27 16 (by decide)).trans (fn rfl (by decide)))))
                have hkpy298 : Fvy33 17 = F 17 := ((hFvy33 17 (by decide)).trans ((hFvy30 17 (by decide)).trans ((hFvy27 17 (by decide)).trans (fn rfl (by decide)))))
                have hkpy299 : Fvy33 18 = F 18 := ((hFvy33 18 (by decide)).trans ((hFvy30 18 (by decide)).trans ((hFvy27 18 (by decide)).trans (fn rfl (by decide)))))
                have hkpy300 : Fvy33 19 = F 19 := ((hFvy33 19 (by decide)).trans ((hFvy30 19 (by decide)).trans ((hFvy27 19 (by decide)).trans (fn rfl (by decide)))))
                have hkpy301 : Fvy33 20 = F 20 := ((hFvy33 20 (by decide)).trans ((hFvy30 20 (by decide)).trans ((hFvy27 20 (by decide)).trans (fn rfl (by decide)))))
                have hkpy302 : Fvy33 21 = F 21 := ((hFvy33 21 (by decide)).trans ((hFvy30 21 (by decide)).trans ((hFvy27 21 (by decide)).trans (fn rfl (by decide)))))
                have hkpy303 : Fvy33 23 = F 23 := ((hFvy33 23 (by decide)).trans ((hFvy30 23 (by decide)).trans ((hFvy27 23 (by decide)).trans (fn rfl (by decide)))))
                have hkpy304 : Fvy33 24 = F 24 := ((hFvy33 24 (by decide)).trans ((hFvy30 24 (by decide)).trans ((hFvy27 24 (by decide)).trans (fn rfl (by decide)))))
                have hkpy305 : Fvy33 25 = F 25 := ((hFvy33 25 (by decide)).trans ((hFvy30 25 (by decide)).trans ((hFvy27 25 (by decide)).trans (fn rfl (by decide)))))
                have hkpy306 : Fvy33 26 = F 26 := ((hFvy33 26 (by decide)).trans ((hFvy30 26 (by decide)).trans ((hFvy27 26 (by decide)).trans (fn rfl (by decide)))))
                have hkpy307 : Fvy33 27 = F 27 := ((hFvy33 27 (by decide)).trans ((hFvy30 27 (by decide)).trans ((hFvy27 27 (by decide)).trans (fn rfl (by decide)))))
                have hkpy308 : Fvy33 29 = F 29 := ((hFvy33 29 (by decide)).trans ((hFvy30 29 (by decide)).trans ((hFvy27 29 (by decide)).trans (fn rfl (by decide)))))
                exact z_iret C hr hlk dX10_then_155 (by decide) (by decide) ⟨vy274, rfl, rfl, rfl, by omega, ⟨_, _, hMy293, ⟨hkpy294, hkpy295, hkpy296, hkpy297, hkpy298, hkpy299, hkpy300, hkpy301, hkpy302, hkpy303, hkpy304⟩, ⟨(hkpy305.trans hp25), (hkpy306.trans hp26), (hkpy307.trans hp27), (hkpy308.trans hp29)⟩, (fun j a9 => (hyvy49 j (by omega)).trans ((fun j a9 => (hyvy39 j a9).trans ((fun j _ => rfl) j a9)) j a9))⟩, fun j j1 => by rw [hfvy49 _ (by omega) (by omega) (by omega)]; rw [hfvy39 _ (by omega)]; rw [hfvy33 _ (by omega)]; rw [hfvy30 _ (by omega)]; rw [hfvy27 _ (by omega)]; rw [egy25, va_up_ne _ _ (by omega)]⟩
              · refine z_tin (off := 88) (tgt := 156) C dX10_then_68 (by omega) (by omega) (by omega) rfl (by decide) ?_
                refine z_iload C 0 dX10_then_156 rfl ?_
                refine z_iconst (z := -1) C dX10_then_158 rfl ?_
                refine z_icmp_ne (tgt := 166) C dX10_then_159 (by decide) (by omega) (by omega) (fun hby309 => ?_) (fun hby309 => ?_)
                · refine z_aload_n C 1 dX10_then_166 rfl ?_
                  refine z_sipush (z := 350) C dX10_then_167 (by decide) ?_
                  refine z_iload_n C 2 dX10_then_170 rfl ?_
                  refine z_iload C 0 dX10_then_171 rfl ?_
                  refine z_bipush (z := 6) C dX10_then_173 (by decide) ?_
                  obtain ⟨ky310, hky310⟩ : ∃ k9 : Nat, (vy89) = (k9 : Int) := ⟨((vy89) : Int).toNat, by omega⟩
                  obtain ⟨qy311, hqy311⟩ : ∃ q9 : Nat, py87 + 2 + 7 * ky310 = q9 := ⟨_, rfl⟩
                  refine z_cV (As := [.int (zI (350)), .int (zI ((n : Int))), .int (zI (vy89)), .int (zI (6))]) (rest := []) (ci := 12) C (c_X10_of l D A cs tt N ad _ i hN _ hgy88 _ hcvy49 350 n py87 hpy87 (by omega) (by omega) (vy89) (6) (qy311 + 6) (by omega) (by omega) (by omega)) (lt_A0 hN rfl) hay1 hgy88 rfl rfl mv_yX10_of q_1749 hd_yX10_of (by decide) (Nat.le_of_ble_eq_true rfl) (by decide) dX10_then_175 rfl (kI0 fun vy312 gvy312 hvy312 => ?_)
                  obtain ⟨rfl, rfl⟩ := hvy312
                  obtain ⟨xy313, exy314, hxy315⟩ := zI_of (zI (rvy49 (qy311 + 6)))
                  rw [exy314]
                  have hFy316 : ∀ f, f ≠ 12 → Fvy33 f = F f := fun f n12 => ((hFvy33 f n12).trans ((hFvy30 f n12).trans ((hFvy27 f n12).trans ((uZ_n _ _ n12).trans rfl))))
                  have hey317 : Fvy33 13 = F 13 := ((hFvy33 13 (by decide)).trans ((hFvy30 13 (by decide)).trans ((hFvy27 13 (by decide)).trans (fn rfl (by decide)))))
                  have hey318 : Fvy33 14 = F 14 := ((hFvy33 14 (by decide)).trans ((hFvy30 14 (by decide)).trans ((hFvy27 14 (by decide)).trans (fn rfl (by decide)))))
                  have hey319 : Fvy33 15 = F 15 := ((hFvy33 15 (by decide)).trans ((hFvy30 15 (by decide)).trans ((hFvy27 15 (by decide)).trans (fn rfl (by decide)))))
                  have hey320 : Fvy33 16 = F 16 := ((hFvy33 16 (by decide)).trans ((hFvy30 16 (by decide)).trans ((hFvy27 16 (by decide)).trans (fn rfl (by decide)))))
                  have hey321 : Fvy33 17 = F 17 := ((hFvy33 17 (by decide)).trans ((hFvy30 17 (by decide)).trans ((hFvy27 17 (by decide)).trans (fn rfl (by decide)))))
                  have hey322 : Fvy33 18 = F 18 := ((hFvy33 18 (by decide)).trans ((hFvy30 18 (by decide)).trans ((hFvy27 18 (by decide)).trans (fn rfl (by decide)))))
                  have hey323 : Fvy33 19 = F 19 := ((hFvy33 19 (by decide)).trans ((hFvy30 19 (by decide)).trans ((hFvy27 19 (by decide)).trans (fn rfl (by decide)))))
                  have hey324 : Fvy33 20 = F 20 := ((hFvy33 20 (by decide)).trans ((hFvy30 20 (by decide)).trans ((hFvy27 20 (by decide)).trans (fn rfl (by decide)))))
                  have hey325 : Fvy33 21 = F 21 := ((hFvy33 21 (by decide)).trans ((hFvy30 21 (by decide)).trans ((hFvy27 21 (by decide)).trans (fn rfl (by decide)))))
                  have hey326 : Fvy33 23 = F 23 := ((hFvy33 23 (by decide)).trans ((hFvy30 23 (by decide)).trans ((hFvy27 23 (by decide)).trans (fn rfl (by decide)))))
                  have hey327 : Fvy33 25 = F 25 := ((hFvy33 25 (by decide)).trans ((hFvy30 25 (by decide)).trans ((hFvy27 25 (by decide)).trans (fn rfl (by decide)))))
                  have hey328 : Fvy33 27 = F 27 := ((hFvy33 27 (by decide)).trans ((hFvy30 27 (by decide)).trans ((hFvy27 27 (by decide)).trans (fn rfl (by decide)))))
                  have hey329 : Fvy33 28 = F 28 := ((hFvy33 28 (by decide)).trans ((hFvy30 28 (by decide)).trans ((hFvy27 28 (by decide)).trans (fn rfl (by decide)))))
                  have hey330 : Fvy33 29 = F 29 := ((hFvy33 29 (by decide)).trans ((hFvy30 29 (by decide)).trans ((hFvy27 29 (by decide)).trans (fn rfl (by decide)))))
                  have hKy331 : okF Fvy33 := okF.mv hM.2.1 hey317 hey318 hey319 hey320 hey321 hey322 hey323 hey324 hey325 hey326 hey327 hey328 hey329 hey330
                  have hMy332 : okMr cs ad gvy49 i (x + 1) Fvy33 rvy49 st op ai fa mu tb tp := okMr.upd hM hgy88 hKy331 (fun f a => hFy316 f (by omega)) hcvy49 (hAy85.mono (by omega)) (fun j a b => by
                      by_cases e0 : j = i + 14
                      · exact Or.inr ⟨14, _, e0, lsP.l (by decide), by rw [e0]; exact h4vy49⟩
                      by_cases e1 : j = i + 15
                      · exact Or.inr ⟨15, _, e1, lsP.l (by decide), by rw [e1]; exact h5vy49⟩
                      exact Or.inl (by rw [hfvy49 _ (by omega) (by omega) (by omega)]; rw [hfvy39 _ (by omega)]; rw [hfvy33 _ (by omega)]; rw [hfvy30 _ (by omega)]; rw [hfvy27 _ (by omega)]; rw [egy25, va_up_ne _ _ (by omega)]))
                  have hkpy333 : Fvy33 13 = F 13 := ((hFvy33 13 (by decide)).trans ((hFvy30 13 (by decide)).trans ((hFvy27 13 (by decide)).trans (fn rfl (by decide)))))
                  have hkpy334 : Fvy33 14 = F 14 := ((hFvy33 14 (by decide)).trans ((hFvy30 14 (by decide)).trans ((hFvy27 14 (by decide)).trans (fn rfl (by decide)))))
                  have hkpy335 : Fvy33 15 = F 15 := ((hFvy33 15 (by decide)).trans ((hFvy30 15 (by decide)).trans ((hFvy27 15 (by decide)).trans (fn rfl (by decide)))))
                  have hkpy336 : Fvy33 16 = F 16 := ((hFvy33 16 (by decide)).trans ((hFvy30 16 (by decide)).trans ((hFvy27 16 (by decide)).trans (fn rfl (by decide)))))
                  have hkpy337 : Fvy33 17 = F 17 := ((hFvy33 17 (by decide)).trans ((hFvy30 17 (by decide)).trans ((hFvy27 17 (by decide)).trans (fn rfl (by decide)))))
                  have hkpy338 : Fvy33 18 = F 18 := ((hFvy33 18 (by decide)).trans ((hFvy30 18 (by decide)).trans ((hFvy27 18 (by decide)).trans (fn rfl (by decide)))))
                  have hkpy339 : Fvy33 19 = F 19 := ((hFvy33 19 (by decide)).trans ((hFvy30 19 (by decide)).trans ((hFvy27 19 (by decide)).trans (fn rfl (by decide)))))
                  have hkpy340 : Fvy33 20 = F 20 := ((hFvy33 20 (by decide)).trans ((hFvy30 20 (by decide)).trans ((hFvy27 20 (by decide)).trans (fn rfl (by decide)))))
                  have hkpy341 : Fvy33 21 = F 21 := ((hFvy33 21 (by decide)).trans ((hFvy30 21 (by decide)).trans ((hFvy27 21 (by decide)).trans (fn rfl (by decide)))))
                  have hkpy342 : Fvy33 23 = F 23 := ((hFvy33 23 (by decide)).trans ((hFvy30 23 (by decide)).trans ((hFvy27 23 (by decide)).trans (fn rfl (by decide)))))
                  have hkpy343 : Fvy33 24 = F 24 := ((hFvy33 24 (by decide)).trans ((hFvy30 24 (by decide)).trans ((hFvy27 24 (by decide)).trans (fn rfl (by decide)))))
                  have hkpy344 : Fvy33 25 = F 25 := ((hFvy33 25 (by decide)).trans ((hFvy30 25 (by decide)).trans ((hFvy27 25 (by decide)).trans (fn rfl (by decide)))))
                  have hkpy345 : Fvy33 26 = F 26 := ((hFvy33 26 (by decide)).trans ((hFvy30 26 (by decide)).trans ((hFvy27 26 (by decide)).trans (fn rfl (by decide)))))
                  have hkpy346 : Fvy33 27 = F 27 := ((hFvy33 27 (by decide)).trans ((hFvy30 27 (by decide)).trans ((hFvy27 27 (by decide)).trans (fn rfl (by decide)))))
                  have hkpy347 : Fvy33 29 = F 29 := ((hFvy33 29 (by decide)).trans ((hFvy30 29 (by decide)).trans ((hFvy27 29 (by decide)).trans (fn rfl (by decide)))))
                  exact z_iret C hr hlk dX10_then_178 (by decide) (by decide) ⟨xy313, rfl, rfl, rfl, by omega, ⟨_, _, hMy332, ⟨hkpy333, hkpy334, hkpy335, hkpy336, hkpy337, hkpy338, hkpy339, hkpy340, hkpy341, hkpy342, hkpy343⟩, ⟨(hkpy344.trans hp25), (hkpy345.trans hp26), (hkpy346.trans hp27), (hkpy347.trans hp29)⟩, (fun j a9 => (hyvy49 j (by omega)).trans ((fun j a9 => (hyvy39 j a9).trans ((fun j _ => rfl) j a9)) j a9))⟩, fun j j1 => by rw [hfvy49 _ (by omega) (by omega) (by omega)]; rw [hfvy39 _ (by omega)]; rw [hfvy33 _ (by omega)]; rw [hfvy30 _ (by omega)]; rw [hfvy27 _ (by omega)]; rw [egy25, va_up_ne _ _ (by omega)]⟩
                · refine z_iconst (z := -1) C dX10_then_162 rfl ?_
                  refine z_goto (tgt := 178) C dX10_then_163 (by decide) ?_
                  have hFy348 : ∀ f, f ≠ 12 → Fvy33 f = F f := fun f n12 => ((hFvy33 f n12).trans ((hFvy30 f n12).trans ((hFvy27 f n12).trans ((uZ_n _ _ n12).trans rfl))))
                  have hey349 : Fvy33 13 = F 13 := ((hFvy33 13 (by decide)).trans ((hFvy30 13 (by decide)).trans ((hFvy27 13 (by decide)).trans (fn rfl (by decide)))))
                  have hey350 : Fvy33 14 = F 14 := ((hFvy33 14 (by decide)).trans ((hFvy30 14 (by decide)).trans ((hFvy27 14 (by decide)).trans (fn rfl (by decide)))))
                  have hey351 : Fvy33 15 = F 15 := ((hFvy33 15 (by decide)).trans ((hFvy30 15 (by decide)).trans ((hFvy27 15 (by decide)).trans (fn rfl (by decide)))))
                  have hey352 : Fvy33 16 = F 16 := ((hFvy33 16 (by decide)).trans ((hFvy30 16 (by decide)).trans ((hFvy27 16 (by decide)).trans (fn rfl (by decide)))))
                  have hey353 : Fvy33 17 = F 17 := ((hFvy33 17 (by decide)).trans ((hFvy30 17 (by decide)).trans ((hFvy27 17 (by decide)).trans (fn rfl (by decide)))))
                  have hey354 : Fvy33 18 = F 18 := ((hFvy33 18 (by decide)).trans ((hFvy30 18 (by decide)).trans ((hFvy27 18 (by decide)).trans (fn rfl (by decide)))))
                  have hey355 : Fvy33 19 = F 19 := ((hFvy33 19 (by decide)).trans ((hFvy30 19 (by decide)).trans ((hFvy27 19 (by decide)).trans (fn rfl (by decide)))))
                  have hey356 : Fvy33 20 = F 20 := ((hFvy33 20 (by decide)).trans ((hFvy30 20 (by decide)).trans ((hFvy27 20 (by decide)).trans (fn rfl (by decide)))))
                  have hey357 : Fvy33 21 = F 21 := ((hFvy33 21 (by decide)).trans ((hFvy30 21 (by decide)).trans ((hFvy27 21 (by decide)).trans (fn rfl (by decide)))))
                  have hey358 : Fvy33 23 = F 23 := ((hFvy33 23 (by decide)).trans ((hFvy30 23 (by decide)).trans ((hFvy27 23 (by decide)).trans (fn rfl (by decide)))))
                  have hey359 : Fvy33 25 = F 25 := ((hFvy33 25 (by decide)).trans ((hFvy30 25 (by decide)).trans ((hFvy27 25 (by decide)).trans (fn rfl (by decide)))))
                  have hey360 : Fvy33 27 = F 27 := ((hFvy33 27 (by decide)).trans ((hFvy30 27 (by decide)).trans ((hFvy27 27 (by decide)).trans (fn rfl (by decide)))))
                  have hey361 : Fvy33 28 = F 28 := ((hFvy33 28 (by decide)).trans ((hFvy30 28 (by decide)).trans ((hFvy27 28 (by decide)).trans (fn rfl (by decide)))))
                  have hey362 : Fvy33 29 = F 29 := ((hFvy33 29 (by decide)).trans ((hFvy30 29 (by decide)).trans ((hFvy27 29 (by decide)).trans (fn rfl (by decide)))))
                  have hKy363 : okF Fvy33 := okF.mv hM.2.1 hey349 hey350 hey351 hey352 hey353 hey354 hey355 hey356 hey357 hey358 hey359 hey360 hey361 hey362
                  have hMy364 : okMr cs ad gvy49 i (x + 1) Fvy33 rvy49 st op ai fa mu tb tp := okMr.upd hM hgy88 hKy363 (fun f a => hFy348 f (by omega)) hcvy49 (hAy85.mono (by omega)) (fun j a b => by
                      by_cases e0 : j = i + 14
                      · exact Or.inr ⟨14, _, e0, lsP.l (by decide), by rw [e0]; exact h4vy49⟩
                      by_cases e1 : j = i + 15
                      · exact Or.inr ⟨15, _, e1, lsP.l (by decide), by rw [e1]; exact h5vy49⟩
                      exact Or.inl (by rw [hfvy49 _ (by omega) (by omega) (by omega)]; rw [hfvy39 _ (by omega)]; rw [hfvy33 _ (by omega)]; rw [hfvy30 _ (by omega)]; rw [hfvy27 _ (by omega)]; rw [egy25, va_up_ne _ _ (by omega)]))
                  have hkpy365 : Fvy33 13 = F 13 := ((hFvy33 13 (by decide)).trans ((hFvy30 13 (by decide)).trans ((hFvy27 13 (by decide)).trans (fn rfl (by decide)))))
                  have hkpy366 : Fvy33 14 = F 14 := ((hFvy33 14 (by decide)).trans ((hFvy30 14 (by decide)).trans ((hFvy27 14 (by decide)).trans (fn rfl (by decide)))))
                  have hkpy367 : Fvy33 15 = F 15 := ((hFvy33 15 (by decide)).trans ((hFvy30 15 (by decide)).trans ((hFvy27 15 (by decide)).trans (fn rfl (by decide)))))
                  have hkpy368 : Fvy33 16 = F 16 := ((hFvy33 16 (by decide)).trans ((hFvy30 16 (by decide)).trans ((hFvy27 16 (by decide)).trans (fn rfl (by decide)))))
                  have hkpy369 : Fvy33 17 = F 17 := ((hFvy33 17 (by decide)).trans ((hFvy30 17 (by decide)).trans ((hFvy27 17 (by decide)).trans (fn rfl (by decide)))))
                  have hkpy370 : Fvy33 18 = F 18 := ((hFvy33 18 (by decide)).trans ((hFvy30 18 (by decide)).trans ((hFvy27 18 (by decide)).trans (fn rfl (by decide)))))
                  have hkpy371 : Fvy33 19 = F 19 := ((hFvy33 19 (by decide)).trans ((hFvy30 19 (by decide)).trans ((hFvy27 19 (by decide)).trans (fn rfl (by decide)))))
                  have hkpy372 : Fvy33 20 = F 20 := ((hFvy33 20 (by decide)).trans ((hFvy30 20 (by decide)).trans ((hFvy27 20 (by decide)).trans (fn rfl (by decide)))))
                  have hkpy373 : Fvy33 21 = F 21 := ((hFvy33 21 (by decide)).trans ((hFvy30 21 (by decide)).trans ((hFvy27 21 (by decide)).trans (fn rfl (by decide)))))
                  have hkpy374 : Fvy33 23 = F 23 := ((hFvy33 23 (by decide)).trans ((hFvy30 23 (by decide)).trans ((hFvy27 23 (by decide)).trans (fn rfl (by decide)))))
                  have hkpy375 : Fvy33 24 = F 24 := ((hFvy33 24 (by decide)).trans ((hFvy30 24 (by decide)).trans ((hFvy27 24 (by decide)).trans (fn rfl (by decide)))))
                  have hkpy376 : Fvy33 25 = F 25 := ((hFvy33 25 (by decide)).trans ((hFvy30 25 (by decide)).trans ((hFvy27 25 (by decide)).trans (fn rfl (by decide)))))
                  have hkpy377 : Fvy33 26 = F 26 := ((hFvy33 26 (by decide)).trans ((hFvy30 26 (by decide)).trans ((hFvy27 26 (by decide)).trans (fn rfl (by decide)))))
                  have hkpy378 : Fvy33 27 = F 27 := ((hFvy33 27 (by decide)).trans ((hFvy30 27 (by decide)).trans ((hFvy27 27 (by decide)).trans (fn rfl (by decide)))))
                  have hkpy379 : Fvy33 29 = F 29 := ((hFvy33 29 (by decide)).trans ((hFvy30 29 (by decide)).trans ((hFvy27 29 (by decide)).trans (fn rfl (by decide)))))
                  exact z_iret C hr hlk dX10_then_178 (by decide) (by decide) ⟨-1, rfl, rfl, rfl, by omega, ⟨_, _, hMy364, ⟨hkpy365, hkpy366, hkpy367, hkpy368, hkpy369, hkpy370, hkpy371, hkpy372, hkpy373, hkpy374, hkpy375⟩, ⟨(hkpy376.trans hp25), (hkpy377.trans hp26), (hkpy378.trans hp27), (hkpy379.trans hp29)⟩, (fun j a9 => (hyvy49 j (by omega)).trans ((fun j a9 => (hyvy39 j a9).trans ((fun j _ => rfl) j a9)) j a9))⟩, fun j j1 => by rw [hfvy49 _ (by omega) (by omega) (by omega)]; rw [hfvy39 _ (by omega)]; rw [hfvy33 _ (by omega)]; rw [hfvy30 _ (by omega)]; rw [hfvy27 _ (by omega)]; rw [egy25, va_up_ne _ _ (by omega)]⟩
          · refine z_if_ne (tgt := 45) C dX10_then_40 (by decide) (by omega) (fun h => absurd h (by omega)) (fun _ => ?_)
            refine z_iconst (z := 0) C dX10_then_43 rfl ?_
            have hgy380 := up_n egy25 ha1 (ne_o (i := i) (c := 1) (d := 0) rfl)
            have hgy381 := (hfvy27 (i + 1) (ne_o (i := i) (c := 1) (d := 0) rfl)).trans hgy380
            have hgy382 := (hfvy30 (i + 1) (ne_o (i := i) (c := 1) (d := 0) rfl)).trans hgy381
            have hgy383 := (hfvy33 (i + 1) (ne_o (i := i) (c := 1) (d := 0) rfl)).trans hgy382
            have hFy384 : ∀ f, f ≠ 12 → Fvy33 f = F f := fun f n12 => ((hFvy33 f n12).trans ((hFvy30 f n12).trans ((hFvy27 f n12).trans ((uZ_n _ _ n12).trans rfl))))
            have hey385 : Fvy33 13 = F 13 := ((hFvy33 13 (by decide)).trans ((hFvy30 13 (by decide)).trans ((hFvy27 13 (by decide)).trans (fn rfl (by decide)))))
            have hey386 : Fvy33 14 = F 14 := ((hFvy33 14 (by decide)).trans ((hFvy30 14 (by decide)).trans ((hFvy27 14 (by decide)).trans (fn rfl (by decide)))))
            have hey387 : Fvy33 15 = F 15 := ((hFvy33 15 (by decide)).trans ((hFvy30 15 (by decide)).trans ((hFvy27 15 (by decide)).trans (fn rfl (by decide)))))
            have hey388 : Fvy33 16 = F 16 := ((hFvy33 16 (by decide)).trans ((hFvy30 16 (by decide)).trans ((hFvy27 16 (by decide)).trans (fn rfl (by decide)))))
            have hey389 : Fvy33 17 = F 17 := ((hFvy33 17 (by decide)).trans ((hFvy30 17 (by decide)).trans ((hFvy27 17 (by decide)).trans (fn rfl (by decide)))))
            have hey390 : Fvy33 18 = F 18 := ((hFvy33 18 (by decide)).trans ((hFvy30 18 (by decide)).trans ((hFvy27 18 (by decide)).trans (fn rfl (by decide)))))
            have hey391 : Fvy33 19 = F 19 := ((hFvy33 19 (by decide)).trans ((hFvy30 19 (by decide)).trans ((hFvy27 19 (by decide)).trans (fn rfl (by decide)))))
            have hey392 : Fvy33 20 = F 20 := ((hFvy33 20 (by decide)).trans ((hFvy30 20 (by decide)).trans ((hFvy27 20 (by decide)).trans (fn rfl (by decide)))))
            have hey393 : Fvy33 21 = F 21 := ((hFvy33 21 (by decide)).trans ((hFvy30 21 (by decide)).trans ((hFvy27 21 (by decide)).trans (fn rfl (by decide)))))
            have hey394 : Fvy33 23 = F 23 := ((hFvy33 23 (by decide)).trans ((hFvy30 23 (by decide)).trans ((hFvy27 23 (by decide)).trans (fn rfl (by decide)))))
            have hey395 : Fvy33 25 = F 25 := ((hFvy33 25 (by decide)).trans ((hFvy30 25 (by decide)).trans ((hFvy27 25 (by decide)).trans (fn rfl (by decide)))))
            have hey396 : Fvy33 27 = F 27 := ((hFvy33 27 (by decide)).trans ((hFvy30 27 (by decide)).trans ((hFvy27 27 (by decide)).trans (fn rfl (by decide)))))
            have hey397 : Fvy33 28 = F 28 := ((hFvy33 28 (by decide)).trans ((hFvy30 28 (by decide)).trans ((hFvy27 28 (by decide)).trans (fn rfl (by decide)))))
            have hey398 : Fvy33 29 = F 29 := ((hFvy33 29 (by decide)).trans ((hFvy30 29 (by decide)).trans ((hFvy27 29 (by decide)).trans (fn rfl (by decide)))))
            have hKy399 : okF Fvy33 := okF.mv hM.2.1 hey385 hey386 hey387 hey388 hey389 hey390 hey391 hey392 hey393 hey394 hey395 hey396 hey397 hey398
            have hMy400 : okMr cs ad gvy33 i (x + 1) Fvy33 r st op ai fa mu tb tp := okMr.upd hM hcvy33 hKy399 (fun f a => hFy384 f (by omega)) hgy383 (hA.mono (by omega)) (fun j a b => by
                exact Or.inl (by rw [hfvy33 _ (by omega)]; rw [hfvy30 _ (by omega)]; rw [hfvy27 _ (by omega)]; rw [egy25, va_up_ne _ _ (by omega)]))
            have hkpy401 : Fvy33 13 = F 13 := ((hFvy33 13 (by decide)).trans ((hFvy30 13 (by decide)).trans ((hFvy27 13 (by decide)).trans (fn rfl (by decide)))))
            have hkpy402 : Fvy33 14 = F 14 := ((hFvy33 14 (by decide)).trans ((hFvy30 14 (by decide)).trans ((hFvy27 14 (by decide)).trans (fn rfl (by decide)))))
            have hkpy403 : Fvy33 15 = F 15 := ((hFvy33 15 (by decide)).trans ((hFvy30 15 (by decide)).trans ((hFvy27 15 (by decide)).trans (fn rfl (by decide)))))
            have hkpy404 : Fvy33 16 = F 16 := ((hFvy33 16 (by decide)).trans ((hFvy30 16 (by decide)).trans ((hFvy27 16 (by decide)).trans (fn rfl (by decide)))))
            have hkpy405 : Fvy33 17 = F 17 := ((hFvy33 17 (by decide)).trans ((hFvy30 17 (by decide)).trans ((hFvy27 17 (by decide)).trans (fn rfl (by decide)))))
            have hkpy406 : Fvy33 18 = F 18 := ((hFvy33 18 (by decide)).trans ((hFvy30 18 (by decide)).trans ((hFvy27 18 (by decide)).trans (fn rfl (by decide)))))
            have hkpy407 : Fvy33 19 = F 19 := ((hFvy33 19 (by decide)).trans ((hFvy30 19 (by decide)).trans ((hFvy27 19 (by decide)).trans (fn rfl (by decide)))))
            have hkpy408 : Fvy33 20 = F 20 := ((hFvy33 20 (by decide)).trans ((hFvy30 20 (by decide)).trans ((hFvy27 20 (by decide)).trans (fn rfl (by decide)))))
            have hkpy409 : Fvy33 21 = F 21 := ((hFvy33 21 (by decide)).trans ((hFvy30 21 (by decide)).trans ((hFvy27 21 (by decide)).trans (fn rfl (by decide)))))
            have hkpy410 : Fvy33 23 = F 23 := ((hFvy33 23 (by decide)).trans ((hFvy30 23 (by decide)).trans ((hFvy27 23 (by decide)).trans (fn rfl (by decide)))))
            have hkpy411 : Fvy33 24 = F 24 := ((hFvy33 24 (by decide)).trans ((hFvy30 24 (by decide)).trans ((hFvy27 24 (by decide)).trans (fn rfl (by decide)))))
            have hkpy412 : Fvy33 25 = F 25 := ((hFvy33 25 (by decide)).trans ((hFvy30 25 (by decide)).trans ((hFvy27 25 (by decide)).trans (fn rfl (by decide)))))
            have hkpy413 : Fvy33 26 = F 26 := ((hFvy33 26 (by decide)).trans ((hFvy30 26 (by decide)).trans ((hFvy27 26 (by decide)).trans (fn rfl (by decide)))))
            have hkpy414 : Fvy33 27 = F 27 := ((hFvy33 27 (by decide)).trans ((hFvy30 27 (by decide)).trans ((hFvy27 27 (by decide)).trans (fn rfl (by decide)))))
            have hkpy415 : Fvy33 29 = F 29 := ((hFvy33 29 (by decide)).trans ((hFvy30 29 (by decide)).trans ((hFvy27 29 (by decide)).trans (fn rfl (by decide)))))
            exact z_iret C hr hlk dX10_then_44 (by decide) (by decide) ⟨0, rfl, rfl, rfl, by omega, ⟨_, _, hMy400, ⟨hkpy401, hkpy402, hkpy403, hkpy404, hkpy405, hkpy406, hkpy407, hkpy408, hkpy409, hkpy410, hkpy411⟩, ⟨(hkpy412.trans hp25), (hkpy413.trans hp26), (hkpy414.trans hp27), (hkpy415.trans hp29)⟩, (fun j _ => rfl)⟩, fun j j1 => by rw [hfvy33 _ (by omega)]; rw [hfvy30 _ (by omega)]; rw [hfvy27 _ (by omega)]; rw [egy25, va_up_ne _ _ (by omega)]⟩
        · refine z_iconst (z := 2) C dX10_then_36 rfl ?_
          have hey417 : Fvy30 12 = Fvy30 12 := rfl
          refine z_cV (As := [.int (zI (0)), .int (zI (2))]) (rest := []) (ci := 12) C (c_X10_right l D A cs tt N ad _ i hN _ hcvy30 (by omega) (0) (by omega) (2) (by omega)) (lt_A0 hN rfl) hay1 hcvy30 rfl rfl mv_yX10_right q_1648 hd_yX10_right (by decide) (Nat.le_of_ble_eq_true rfl) (by decide) dX10_then_37 rfl (kI0 fun vy416 gvy416 hvy416 => ?_)
          obtain ⟨hrvy416, ⟨Fvy416, hcvy416, htvy416, hFvy416⟩, hfvy416⟩ := hvy416
          obtain rfl : vy416 = 0 := by omega
          refine z_if_ne (tgt := 45) C dX10_then_40 (by decide) (by omega) (fun h => absurd h (by omega)) (fun _ => ?_)
          refine z_iconst (z := 0) C dX10_then_43 rfl ?_
          have hgy418 := up_n egy25 ha1 (ne_o (i := i) (c := 1) (d := 0) rfl)
          have hgy419 := (hfvy27 (i + 1) (ne_o (i := i) (c := 1) (d := 0) rfl)).trans hgy418
          have hgy420 := (hfvy30 (i + 1) (ne_o (i := i) (c := 1) (d := 0) rfl)).trans hgy419
          have hgy421 := (hfvy416 (i + 1) (ne_o (i := i) (c := 1) (d := 0) rfl)).trans hgy420
          have hFy422 : ∀ f, f ≠ 12 → Fvy416 f = F f := fun f n12 => ((hFvy416 f n12).trans ((hFvy30 f n12).trans ((hFvy27 f n12).trans ((uZ_n _ _ n12).trans rfl))))
          have hey423 : Fvy416 13 = F 13 := ((hFvy416 13 (by decide)).trans ((hFvy30 13 (by decide)).trans ((hFvy27 13 (by decide)).trans (fn rfl (by decide)))))
          have hey424 : Fvy416 14 = F 14 := ((hFvy416 14 (by decide)).trans ((hFvy30 14 (by decide)).trans ((hFvy27 14 (by decide)).trans (fn rfl (by decide)))))
          have hey425 : Fvy416 15 = F 15 := ((hFvy416 15 (by decide)).trans ((hFvy30 15 (by decide)).trans ((hFvy27 15 (by decide)).trans (fn rfl (by decide)))))
          have hey426 : Fvy416 16 = F 16 := ((hFvy416 16 (by decide)).trans ((hFvy30 16 (by decide)).trans ((hFvy27 16 (by decide)).trans (fn rfl (by decide)))))
          have hey427 : Fvy416 17 = F 17 := ((hFvy416 17 (by decide)).trans ((hFvy30 17 (by decide)).trans ((hFvy27 17 (by decide)).trans (fn rfl (by decide)))))
          have hey428 : Fvy416 18 = F 18 := ((hFvy416 18 (by decide)).trans ((hFvy30 18 (by decide)).trans ((hFvy27 18 (by decide)).trans (fn rfl (by decide)))))
          have hey429 : Fvy416 19 = F 19 := ((hFvy416 19 (by decide)).trans ((hFvy30 19 (by decide)).trans ((hFvy27 19 (by decide)).trans (fn rfl (by decide)))))
          have hey430 : Fvy416 20 = F 20 := ((hFvy416 20 (by decide)).trans ((hFvy30 20 (by decide)).trans ((hFvy27 20 (by decide)).trans (fn rfl (by decide)))))
          have hey431 : Fvy416 21 = F 21 := ((hFvy416 21 (by decide)).trans ((hFvy30 21 (by decide)).trans ((hFvy27 21 (by decide)).trans (fn rfl (by decide)))))
          have hey432 : Fvy416 23 = F 23 := ((hFvy416 23 (by decide)).trans ((hFvy30 23 (by decide)).trans ((hFvy27 23 (by decide)).trans (fn rfl (by decide)))))
          have hey433 : Fvy416 25 = F 25 := ((hFvy416 25 (by decide)).trans ((hFvy30 25 (by decide)).trans ((hFvy27 25 (by decide)).trans (fn rfl (by decide)))))
          have hey434 : Fvy416 27 = F 27 := ((hFvy416 27 (by decide)).trans ((hFvy30 27 (by decide)).trans ((hFvy27 27 (by decide)).trans (fn rfl (by decide)))))
          have hey435 : Fvy416 28 = F 28 := ((hFvy416 28 (by decide)).trans ((hFvy30 28 (by decide)).trans ((hFvy27 28 (by decide)).trans (fn rfl (by decide)))))
          have hey436 : Fvy416 29 = F 29 := ((hFvy416 29 (by decide)).trans ((hFvy30 29 (by decide)).trans ((hFvy27 29 (by decide)).trans (fn rfl (by decide)))))
          have hKy437 : okF Fvy416 := okF.mv hM.2.1 hey423 hey424 hey425 hey426 hey427 hey428 hey429 hey430 hey431 hey432 hey433 hey434 hey435 hey436
          have hMy438 : okMr cs ad gvy416 i (x + 1) Fvy416 r st op ai fa mu tb tp := okMr.upd hM hcvy416 hKy437 (fun f a => hFy422 f (by omega)) hgy421 (hA.mono (by omega)) (fun j a b => by
              exact Or.inl (by rw [hfvy416 _ (by omega)]; rw [hfvy30 _ (by omega)]; rw [hfvy27 _ (by omega)]; rw [egy25, va_up_ne _ _ (by omega)]))
          have hkpy439 : Fvy416 13 = F 13 := ((hFvy416 13 (by decide)).trans ((hFvy30 13 (by decide)).trans ((hFvy27 13 (by decide)).trans (fn rfl (by decide)))))
          have hkpy440 : Fvy416 14 = F 14 := ((hFvy416 14 (by decide)).trans ((hFvy30 14 (by decide)).trans ((hFvy27 14 (by decide)).trans (fn rfl (by decide)))))
          have hkpy441 : Fvy416 15 = F 15 := ((hFvy416 15 (by decide)).trans ((hFvy30 15 (by decide)).trans ((hFvy27 15 (by decide)).trans (fn rfl (by decide)))))
          have hkpy442 : Fvy416 16 = F 16 := ((hFvy416 16 (by decide)).trans ((hFvy30 16 (by decide)).trans ((hFvy27 16 (by decide)).trans (fn rfl (by decide)))))
          have hkpy443 : Fvy416 17 = F 17 := ((hFvy416 17 (by decide)).trans ((hFvy30 17 (by decide)).trans ((hFvy27 17 (by decide)).trans (fn rfl (by decide)))))
          have hkpy444 : Fvy416 18 = F 18 := ((hFvy416 18 (by decide)).trans ((hFvy30 18 (by decide)).trans ((hFvy27 18 (by decide)).trans (fn rfl (by decide)))))
          have hkpy445 : Fvy416 19 = F 19 := ((hFvy416 19 (by decide)).trans ((hFvy30 19 (by decide)).trans ((hFvy27 19 (by decide)).trans (fn rfl (by decide)))))
          have hkpy446 : Fvy416 20 = F 20 := ((hFvy416 20 (by decide)).trans ((hFvy30 20 (by decide)).trans ((hFvy27 20 (by decide)).trans (fn rfl (by decide)))))
          have hkpy447 : Fvy416 21 = F 21 := ((hFvy416 21 (by decide)).trans ((hFvy30 21 (by decide)).trans ((hFvy27 21 (by decide)).trans (fn rfl (by decide)))))
          have hkpy448 : Fvy416 23 = F 23 := ((hFvy416 23 (by decide)).trans ((hFvy30 23 (by decide)).trans ((hFvy27 23 (by decide)).trans (fn rfl (by decide)))))
          have hkpy449 : Fvy416 24 = F 24 := ((hFvy416 24 (by decide)).trans ((hFvy30 24 (by decide)).trans ((hFvy27 24 (by decide)).trans (fn rfl (by decide)))))
          have hkpy450 : Fvy416 25 = F 25 := ((hFvy416 25 (by decide)).trans ((hFvy30 25 (by decide)).trans ((hFvy27 25 (by decide)).trans (fn rfl (by decide)))))
          have hkpy451 : Fvy416 26 = F 26 := ((hFvy416 26 (by decide)).trans ((hFvy30 26 (by decide)).trans ((hFvy27 26 (by decide)).trans (fn rfl (by decide)))))
          have hkpy452 : Fvy416 27 = F 27 := ((hFvy416 27 (by decide)).trans ((hFvy30 27 (by decide)).trans ((hFvy27 27 (by decide)).trans (fn rfl (by decide)))))
          have hkpy453 : Fvy416 29 = F 29 := ((hFvy416 29 (by decide)).trans ((hFvy30 29 (by decide)).trans ((hFvy27 29 (by decide)).trans (fn rfl (by decide)))))
          exact z_iret C hr hlk dX10_then_44 (by decide) (by decide) ⟨0, rfl, rfl, rfl, by omega, ⟨_, _, hMy438, ⟨hkpy439, hkpy440, hkpy441, hkpy442, hkpy443, hkpy444, hkpy445, hkpy446, hkpy447, hkpy448, hkpy449⟩, ⟨(hkpy450.trans hp25), (hkpy451.trans hp26), (hkpy452.trans hp27), (hkpy453.trans hp29)⟩, (fun j _ => rfl)⟩, fun j j1 => by rw [hfvy416 _ (by omega)]; rw [hfvy30 _ (by omega)]; rw [hfvy27 _ (by omega)]; rw [egy25, va_up_ne _ _ (by omega)]⟩
      · refine z_if_eq (tgt := 43) C dX10_then_25 (by decide) (by omega) (fun _ => ?_) (fun h => absurd h (by omega))
        refine z_iconst (z := 0) C dX10_then_43 rfl ?_
        have hgy454 := up_n egy25 ha1 (ne_o (i := i) (c := 1) (d := 0) rfl)
        have hgy455 := (hfvy27 (i + 1) (ne_o (i := i) (c := 1) (d := 0) rfl)).trans hgy454
        have hgy456 := (hfvy30 (i + 1) (ne_o (i := i) (c := 1) (d := 0) rfl)).trans hgy455
        have hFy457 : ∀ f, f ≠ 12 → Fvy30 f = F f := fun f n12 => ((hFvy30 f n12).trans ((hFvy27 f n12).trans ((uZ_n _ _ n12).trans rfl)))
        have hey458 : Fvy30 13 = F 13 := ((hFvy30 13 (by decide)).trans ((hFvy27 13 (by decide)).trans (fn rfl (by decide))))
        have hey459 : Fvy30 14 = F 14 := ((hFvy30 14 (by decide)).trans ((hFvy27 14 (by decide)).trans (fn rfl (by decide))))
        have hey460 : Fvy30 15 = F 15 := ((hFvy30 15 (by decide)).trans ((hFvy27 15 (by decide)).trans (fn rfl (by decide))))
        have hey461 : Fvy30 16 = F 16 := ((hFvy30 16 (by decide)).trans ((hFvy27 16 (by decide)).trans (fn rfl (by decide))))
        have hey462 : Fvy30 17 = F 17 := ((hFvy30 17 (by decide)).trans ((hFvy27 17 (by decide)).trans (fn rfl (by decide))))
        have hey463 : Fvy30 18 = F 18 := ((hFvy30 18 (by decide)).trans ((hFvy27 18 (by decide)).trans (fn rfl (by decide))))
        have hey464 : Fvy30 19 = F 19 := ((hFvy30 19 (by decide)).trans ((hFvy27 19 (by decide)).trans (fn rfl (by decide))))
        have hey465 : Fvy30 20 = F 20 := ((hFvy30 20 (by decide)).trans ((hFvy27 20 (by decide)).trans (fn rfl (by decide))))
        have hey466 : Fvy30 21 = F 21 := ((hFvy30 21 (by decide)).trans ((hFvy27 21 (by decide)).trans (fn rfl (by decide))))
        have hey467 : Fvy30 23 = F 23 := ((hFvy30 23 (by decide)).trans ((hFvy27 23 (by decide)).trans (fn rfl (by decide))))
        have hey468 : Fvy30 25 = F 25 := ((hFvy30 25 (by decide)).trans ((hFvy27 25 (by decide)).trans (fn rfl (by decide))))
        have hey469 : Fvy30 27 = F 27 := ((hFvy30 27 (by decide)).trans ((hFvy27 27 (by decide)).trans (fn rfl (by decide))))
        have hey470 : Fvy30 28 = F 28 := ((hFvy30 28 (by decide)).trans ((hFvy27 28 (by decide)).trans (fn rfl (by decide))))
        have hey471 : Fvy30 29 = F 29 := ((hFvy30 29 (by decide)).trans ((hFvy27 29 (by decide)).trans (fn rfl (by decide))))
        have hKy472 : okF Fvy30 := okF.mv hM.2.1 hey458 hey459 hey460 hey461 hey462 hey463 hey464 hey465 hey466 hey467 hey468 hey469 hey470 hey471
        have hMy473 : okMr cs ad gvy30 i (x + 1) Fvy30 r st op ai fa mu tb tp := okMr.upd hM hcvy30 hKy472 (fun f a => hFy457 f (by omega)) hgy456 (hA.mono (by omega)) (fun j a b => by
            exact Or.inl (by rw [hfvy30 _ (by omega)]; rw [hfvy27 _ (by omega)]; rw [egy25, va_up_ne _ _ (by omega)]))
        have hkpy474 : Fvy30 13 = F 13 := ((hFvy30 13 (by decide)).trans ((hFvy27 13 (by decide)).trans (fn rfl (by decide))))
        have hkpy475 : Fvy30 14 = F 14 := ((hFvy30 14 (by decide)).trans ((hFvy27 14 (by decide)).trans (fn rfl (by decide))))
        have hkpy476 : Fvy30 15 = F 15 := ((hFvy30 15 (by decide)).trans ((hFvy27 15 (by decide)).trans (fn rfl (by decide))))
        have hkpy477 : Fvy30 16 = F 16 := ((hFvy30 16 (by decide)).trans ((hFvy27 16 (by decide)).trans (fn rfl (by decide))))
        have hkpy478 : Fvy30 17 = F 17 := ((hFvy30 17 (by decide)).trans ((hFvy27 17 (by decide)).trans (fn rfl (by decide))))
        have hkpy479 : Fvy30 18 = F 18 := ((hFvy30 18 (by decide)).trans ((hFvy27 18 (by decide)).trans (fn rfl (by decide))))
        have hkpy480 : Fvy30 19 = F 19 := ((hFvy30 19 (by decide)).trans ((hFvy27 19 (by decide)).trans (fn rfl (by decide))))
        have hkpy481 : Fvy30 20 = F 20 := ((hFvy30 20 (by decide)).trans ((hFvy27 20 (by decide)).trans (fn rfl (by decide))))
        have hkpy482 : Fvy30 21 = F 21 := ((hFvy30 21 (by decide)).trans ((hFvy27 21 (by decide)).trans (fn rfl (by decide))))
        have hkpy483 : Fvy30 23 = F 23 := ((hFvy30 23 (by decide)).trans ((hFvy27 23 (by decide)).trans (fn rfl (by decide))))
        have hkpy484 : Fvy30 24 = F 24 := ((hFvy30 24 (by decide)).trans ((hFvy27 24 (by decide)).trans (fn rfl (by decide))))
        have hkpy485 : Fvy30 25 = F 25 := ((hFvy30 25 (by decide)).trans ((hFvy27 25 (by decide)).trans (fn rfl (by decide))))
        have hkpy486 : Fvy30 26 = F 26 := ((hFvy30 26 (by decide)).trans ((hFvy27 26 (by decide)).trans (fn rfl (by decide))))
        have hkpy487 : Fvy30 27 = F 27 := ((hFvy30 27 (by decide)).trans ((hFvy27 27 (by decide)).trans (fn rfl (by decide))))
        have hkpy488 : Fvy30 29 = F 29 := ((hFvy30 29 (by decide)).trans ((hFvy27 29 (by decide)).trans (fn rfl (by decide))))
        exact z_iret C hr hlk dX10_then_44 (by decide) (by decide) ⟨0, rfl, rfl, rfl, by omega, ⟨_, _, hMy473, ⟨hkpy474, hkpy475, hkpy476, hkpy477, hkpy478, hkpy479, hkpy480, hkpy481, hkpy482, hkpy483, hkpy484⟩, ⟨(hkpy485.trans hp25), (hkpy486.trans hp26), (hkpy487.trans hp27), (hkpy488.trans hp29)⟩, (fun j _ => rfl)⟩, fun j j1 => by rw [hfvy30 _ (by omega)]; rw [hfvy27 _ (by omega)]; rw [egy25, va_up_ne _ _ (by omega)]⟩
    · refine z_iconst (z := 1) C dX10_then_21 rfl ?_
      have hey490 : Fvy27 12 = Fvy27 12 := rfl
      refine z_cV (As := [.int (zI (0)), .int (zI (1))]) (rest := []) (ci := 12) C (c_X10_right l D A cs tt N ad _ i hN _ hcvy27 (by omega) (0) (by omega) (1) (by omega)) (lt_A0 hN rfl) hay1 hcvy27 rfl rfl mv_yX10_right q_1648 hd_yX10_right (by decide) (Nat.le_of_ble_eq_true rfl) (by decide) dX10_then_22 rfl (kI0 fun vy489 gvy489 hvy489 => ?_)
      obtain ⟨hrvy489, ⟨Fvy489, hcvy489, htvy489, hFvy489⟩, hfvy489⟩ := hvy489
      obtain rfl : vy489 = 0 := by omega
      refine z_if_eq (tgt := 43) C dX10_then_25 (by decide) (by omega) (fun _ => ?_) (fun h => absurd h (by omega))
      refine z_iconst (z := 0) C dX10_then_43 rfl ?_
      have hgy491 := up_n egy25 ha1 (ne_o (i := i) (c := 1) (d := 0) rfl)
      have hgy492 := (hfvy27 (i + 1) (ne_o (i := i) (c := 1) (d := 0) rfl)).trans hgy491
      have hgy493 := (hfvy489 (i + 1) (ne_o (i := i) (c := 1) (d := 0) rfl)).trans hgy492
      have hFy494 : ∀ f, f ≠ 12 → Fvy489 f = F f := fun f n12 => ((hFvy489 f n12).trans ((hFvy27 f n12).trans ((uZ_n _ _ n12).trans rfl)))
      have hey495 : Fvy489 13 = F 13 := ((hFvy489 13 (by decide)).trans ((hFvy27 13 (by decide)).trans (fn rfl (by decide))))
      have hey496 : Fvy489 14 = F 14 := ((hFvy489 14 (by decide)).trans ((hFvy27 14 (by decide)).trans (fn rfl (by decide))))
      have hey497 : Fvy489 15 = F 15 := ((hFvy489 15 (by decide)).trans ((hFvy27 15 (by decide)).trans (fn rfl (by decide))))
      have hey498 : Fvy489 16 = F 16 := ((hFvy489 16 (by decide)).trans ((hFvy27 16 (by decide)).trans (fn rfl (by decide))))
      have hey499 : Fvy489 17 = F 17 := ((hFvy489 17 (by decide)).trans ((hFvy27 17 (by decide)).trans (fn rfl (by decide))))
      have hey500 : Fvy489 18 = F 18 := ((hFvy489 18 (by decide)).trans ((hFvy27 18 (by decide)).trans (fn rfl (by decide))))
      have hey501 : Fvy489 19 = F 19 := ((hFvy489 19 (by decide)).trans ((hFvy27 19 (by decide)).trans (fn rfl (by decide))))
      have hey502 : Fvy489 20 = F 20 := ((hFvy489 20 (by decide)).trans ((hFvy27 20 (by decide)).trans (fn rfl (by decide))))
      have hey503 : Fvy489 21 = F 21 := ((hFvy489 21 (by decide)).trans ((hFvy27 21 (by decide)).trans (fn rfl (by decide))))
      have hey504 : Fvy489 23 = F 23 := ((hFvy489 23 (by decide)).trans ((hFvy27 23 (by decide)).trans (fn rfl (by decide))))
      have hey505 : Fvy489 25 = F 25 := ((hFvy489 25 (by decide)).trans ((hFvy27 25 (by decide)).trans (fn rfl (by decide))))
      have hey506 : Fvy489 27 = F 27 := ((hFvy489 27 (by decide)).trans ((hFvy27 27 (by decide)).trans (fn rfl (by decide))))
      have hey507 : Fvy489 28 = F 28 := ((hFvy489 28 (by decide)).trans ((hFvy27 28 (by decide)).trans (fn rfl (by decide))))
      have hey508 : Fvy489 29 = F 29 := ((hFvy489 29 (by decide)).trans ((hFvy27 29 (by decide)).trans (fn rfl (by decide))))
      have hKy509 : okF Fvy489 := okF.mv hM.2.1 hey495 hey496 hey497 hey498 hey499 hey500 hey501 hey502 hey503 hey504 hey505 hey506 hey507 hey508
      have hMy510 : okMr cs ad gvy489 i (x + 1) Fvy489 r st op ai fa mu tb tp := okMr.upd hM hcvy489 hKy509 (fun f a => hFy494 f (by omega)) hgy493 (hA.mono (by omega)) (fun j a b => by
          exact Or.inl (by rw [hfvy489 _ (by omega)]; rw [hfvy27 _ (by omega)]; rw [egy25, va_up_ne _ _ (by omega)]))
      have hkpy511 : Fvy489 13 = F 13 := ((hFvy489 13 (by decide)).trans ((hFvy27 13 (by decide)).trans (fn rfl (by decide))))
      have hkpy512 : Fvy489 14 = F 14 := ((hFvy489 14 (by decide)).trans ((hFvy27 14 (by decide)).trans (fn rfl (by decide))))
      have hkpy513 : Fvy489 15 = F 15 := ((hFvy489 15 (by decide)).trans ((hFvy27 15 (by decide)).trans (fn rfl (by decide))))
      have hkpy514 : Fvy489 16 = F 16 := ((hFvy489 16 (by decide)).trans ((hFvy27 16 (by decide)).trans (fn rfl (by decide))))
      have hkpy515 : Fvy489 17 = F 17 := ((hFvy489 17 (by decide)).trans ((hFvy27 17 (by decide)).trans (fn rfl (by decide))))
      have hkpy516 : Fvy489 18 = F 18 := ((hFvy489 18 (by decide)).trans ((hFvy27 18 (by decide)).trans (fn rfl (by decide))))
      have hkpy517 : Fvy489 19 = F 19 := ((hFvy489 19 (by decide)).trans ((hFvy27 19 (by decide)).trans (fn rfl (by decide))))
      have hkpy518 : Fvy489 20 = F 20 := ((hFvy489 20 (by decide)).trans ((hFvy27 20 (by decide)).trans (fn rfl (by decide))))
      have hkpy519 : Fvy489 21 = F 21 := ((hFvy489 21 (by decide)).trans ((hFvy27 21 (by decide)).trans (fn rfl (by decide))))
      have hkpy520 : Fvy489 23 = F 23 := ((hFvy489 23 (by decide)).trans ((hFvy27 23 (by decide)).trans (fn rfl (by decide))))
      have hkpy521 : Fvy489 24 = F 24 := ((hFvy489 24 (by decide)).trans ((hFvy27 24 (by decide)).trans (fn rfl (by decide))))
      have hkpy522 : Fvy489 25 = F 25 := ((hFvy489 25 (by decide)).trans ((hFvy27 25 (by decide)).trans (fn rfl (by decide))))
      have hkpy523 : Fvy489 26 = F 26 := ((hFvy489 26 (by decide)).trans ((hFvy27 26 (by decide)).trans (fn rfl (by decide))))
      have hkpy524 : Fvy489 27 = F 27 := ((hFvy489 27 (by decide)).trans ((hFvy27 27 (by decide)).trans (fn rfl (by decide))))
      have hkpy525 : Fvy489 29 = F 29 := ((hFvy489 29 (by decide)).trans ((hFvy27 29 (by decide)).trans (fn rfl (by decide))))
      exact z_iret C hr hlk dX10_then_44 (by decide) (by decide) ⟨0, rfl, rfl, rfl, by omega, ⟨_, _, hMy510, ⟨hkpy511, hkpy512, hkpy513, hkpy514, hkpy515, hkpy516, hkpy517, hkpy518, hkpy519, hkpy520, hkpy521⟩, ⟨(hkpy522.trans hp25), (hkpy523.trans hp26), (hkpy524.trans hp27), (hkpy525.trans hp29)⟩, (fun j _ => rfl)⟩, fun j j1 => by rw [hfvy489 _ (by omega)]; rw [hfvy27 _ (by omega)]; rw [egy25, va_up_ne _ _ (by omega)]⟩
  · refine z_if_eq (tgt := 43) C dX10_then_10 (by decide) (by omega) (fun _ => ?_) (fun h => absurd h (by omega))
    refine z_iconst (z := 0) C dX10_then_43 rfl ?_
    have hgy526 := up_n egy25 ha1 (ne_o (i := i) (c := 1) (d := 0) rfl)
    have hgy527 := (hfvy27 (i + 1) (ne_o (i := i) (c := 1) (d := 0) rfl)).trans hgy526
    have hFy528 : ∀ f, f ≠ 12 → Fvy27 f = F f := fun f n12 => ((hFvy27 f n12).trans ((uZ_n _ _ n12).trans rfl))
    have hey529 : Fvy27 13 = F 13 := ((hFvy27 13 (by decide)).trans (fn rfl (by decide)))
    have hey530 : Fvy27 14 = F 14 := ((hFvy27 14 (by decide)).trans (fn rfl (by decide)))
    have hey531 : Fvy27 15 = F 15 := ((hFvy27 15 (by decide)).trans (fn rfl (by decide)))
    have hey532 : Fvy27 16 = F 16 := ((hFvy27 16 (by decide)).trans (fn rfl (by decide)))
    have hey533 : Fvy27 17 = F 17 := ((hFvy27 17 (by decide)).trans (fn rfl (by decide)))
    have hey534 : Fvy27 18 = F 18 := ((hFvy27 18 (by decide)).trans (fn rfl (by decide)))
    have hey535 : Fvy27 19 = F 19 := ((hFvy27 19 (by decide)).trans (fn rfl (by decide)))
    have hey536 : Fvy27 20 = F 20 := ((hFvy27 20 (by decide)).trans (fn rfl (by decide)))
    have hey537 : Fvy27 21 = F 21 := ((hFvy27 21 (by decide)).trans (fn rfl (by decide)))
    have hey538 : Fvy27 23 = F 23 := ((hFvy27 23 (by decide)).trans (fn rfl (by decide)))
    have hey539 : Fvy27 25 = F 25 := ((hFvy27 25 (by decide)).trans (fn rfl (by decide)))
    have hey540 : Fvy27 27 = F 27 := ((hFvy27 27 (by decide)).trans (fn rfl (by decide)))
    have hey541 : Fvy27 28 = F 28 := ((hFvy27 28 (by decide)).trans (fn rfl (by decide)))
    have hey542 : Fvy27 29 = F 29 := ((hFvy27 29 (by decide)).trans (fn rfl (by decide)))
    have hKy543 : okF Fvy27 := okF.mv hM.2.1 hey529 hey530 hey531 hey532 hey533 hey534 hey535 hey536 hey537 hey538 hey539 hey540 hey541 hey542
    have hMy544 : okMr cs ad gvy27 i (x + 1) Fvy27 r st op ai fa mu tb tp := okMr.upd hM hcvy27 hKy543 (fun f a => hFy528 f (by omega)) hgy527 (hA.mono (by omega)) (fun j a b => by
        exact Or.inl (by rw [hfvy27 _ (by omega)]; rw [egy25, va_up_ne _ _ (by omega)]))
    have hkpy545 : Fvy27 13 = F 13 := ((hFvy27 13 (by decide)).trans (fn rfl (by decide)))
    have hkpy546 : Fvy27 14 = F 14 := ((hFvy27 14 (by decide)).trans (fn rfl (by decide)))
    have hkpy547 : Fvy27 15 = F 15 := ((hFvy27 15 (by decide)).trans (fn rfl (by decide)))
    have hkpy548 : Fvy27 16 = F 16 := ((hFvy27 16 (by decide)).trans (fn rfl (by decide)))
    have hkpy549 : Fvy27 17 = F 17 := ((hFvy27 17 (by decide)).trans (fn rfl (by decide)))
    have hkpy550 : Fvy27 18 = F 18 := ((hFvy27 18 (by decide)).trans (fn rfl (by decide)))
    have hkpy551 : Fvy27 19 = F 19 := ((hFvy27 19 (by decide)).trans (fn rfl (by decide)))
    have hkpy552 : Fvy27 20 = F 20 := ((hFvy27 20 (by decide)).trans (fn rfl (by decide)))
    have hkpy553 : Fvy27 21 = F 21 := ((hFvy27 21 (by decide)).trans (fn rfl (by decide)))
    have hkpy554 : Fvy27 23 = F 23 := ((hFvy27 23 (by decide)).trans (fn rfl (by decide)))
    have hkpy555 : Fvy27 24 = F 24 := ((hFvy27 24 (by decide)).trans (fn rfl (by decide)))
    have hkpy556 : Fvy27 25 = F 25 := ((hFvy27 25 (by decide)).trans (fn rfl (by decide)))
    have hkpy557 : Fvy27 26 = F 26 := ((hFvy27 26 (by decide)).trans (fn rfl (by decide)))
    have hkpy558 : Fvy27 27 = F 27 := ((hFvy27 27 (by decide)).trans (fn rfl (by decide)))
    have hkpy559 : Fvy27 29 = F 29 := ((hFvy27 29 (by decide)).trans (fn rfl (by decide)))
    exact z_iret C hr hlk dX10_then_44 (by decide) (by decide) ⟨0, rfl, rfl, rfl, by omega, ⟨_, _, hMy544, ⟨hkpy545, hkpy546, hkpy547, hkpy548, hkpy549, hkpy550, hkpy551, hkpy552, hkpy553, hkpy554, hkpy555⟩, ⟨(hkpy556.trans hp25), (hkpy557.trans hp26), (hkpy558.trans hp27), (hkpy559.trans hp29)⟩, (fun j _ => rfl)⟩, fun j j1 => by rw [hfvy27 _ (by omega)]; rw [egy25, va_up_ne _ _ (by omega)]⟩

set_option maxRecDepth 100000 in
set_option maxHeartbeats 4000000 in
theorem c_X10_then_b (l : Launch) (D : va_G) (A : Nat → Prop) (cs : Nat → ClassId) (tt : Nat) (N : Nat) (ad : Nat → Nat) (g : Nat → va_E) (i : Nat) (hN : i + 30 ≤ N) (x : Int) (hx : 0 ≤ x ∧ x ≤ 512) (F r : Nat → Int) {st op ai fa mu tb tp : Nat → Int} (hM : okMr cs ad g i x F r st op ai fa mu tb tp) (hPl : F 25 = 0 ∧ F 26 = -1 ∧ F 27 = -1 ∧ F 29 = 0) (z : Int) (hz : -2147483648 ≤ z ∧ z ≤ 2147483647) (hzo : z < 0 ∨ 3 < z) (z1 : Int) (hz1 : -2147483648 ≤ z1 ∧ z1 ≤ 2147483647) (z2 : Int) (hz2 : -2147483648 ≤ z2 ∧ z2 ≤ 2147483647) : zM l yX10_then cX10_then 5 (some .int) ({ frames := 10, cells := 0, slots := 0, locals := 600 } : Room) D A cs tt N ad g [.ref (ad i), .int (zI (z)), .int (zI (z1)), .int (zI (z2))] (rI0 N ad fun q g' => (-2147483648 ≤ q ∧ q ≤ 2147483647) ∧ (∃ F' r' : Nat → Int, okMr cs ad g' i (x + 1) F' r' st op ai fa mu tb tp ∧ (F' 13 = F 13 ∧ F' 14 = F 14 ∧ F' 15 = F 15 ∧ F' 16 = F 16 ∧ F' 17 = F 17 ∧ F' 18 = F 18 ∧ F' 19 = F 19 ∧ F' 20 = F 20 ∧ F' 21 = F 21 ∧ F' 23 = F 23 ∧ F' 24 = F 24) ∧ (F' 25 = 0 ∧ F' 26 = -1 ∧ F' 27 = -1 ∧ F' 29 = 0) ∧ (∀ j, j < 350 ∨ 700 ≤ j → r' j = r j)) ∧ ∀ j, j < i ∨ i + 30 ≤ j ∨ (i + 8 ≤ j ∧ j ≤ i + 12) → g' j = g j) := by
  obtain ⟨hg, ⟨⟨e13, e14, e25, e27, e29⟩, k15, k16, k17, k18, k19, k20, k23, k21⟩, hRD, hTx, hA, ns, nh, nd, rf, pi, te, ki, li, ok1, ok2, fo, dd, dps, ⟨ha1, ha2, ha3, ha4, ha5, ha6, ha7, ha8, ha9, ha10, ha11, ha12, ha13, ha14, ha15, ha24, ha25, ha26, ha27, ha28, ha29⟩, hEv, hPt, hns, htp⟩ := id hM
  obtain ⟨-, hop, hai, hfa, hT, hT1⟩ := id hEv
  have hay1 : zAt ad (i) (ad i) := rfl
  have hay2 : zAt ad (i + 1) (ad (i + 1)) := rfl
  have hay3 : zAt ad (i + 2) (ad (i + 2)) := rfl
  have hay4 : zAt ad (i + 3) (ad (i + 3)) := rfl
  have hay5 : zAt ad (i + 4) (ad (i + 4)) := rfl
  have hay6 : zAt ad (i + 5) (ad (i + 5)) := rfl
  have hay7 : zAt ad (i + 6) (ad (i + 6)) := rfl
  have hay8 : zAt ad (i + 7) (ad (i + 7)) := rfl
  have hay9 : zAt ad (i + 8) (ad (i + 8)) := rfl
  have hay10 : zAt ad (i + 9) (ad (i + 9)) := rfl
  have hay11 : zAt ad (i + 10) (ad (i + 10)) := rfl
  have hay12 : zAt ad (i + 11) (ad (i + 11)) := rfl
  have hay13 : zAt ad (i + 12) (ad (i + 12)) := rfl
  have hay14 : zAt ad (i + 13) (ad (i + 13)) := rfl
  have hay15 : zAt ad (i + 14) (ad (i + 14)) := rfl
  have hay16 : zAt ad (i + 15) (ad (i + 15)) := rfl
  have hay17 : zAt ad (i + 24) (ad (i + 24)) := rfl
  have hay18 : zAt ad (i + 25) (ad (i + 25)) := rfl
  have hay19 : zAt ad (i + 26) (ad (i + 26)) := rfl
  have hay20 : zAt ad (i + 27) (ad (i + 27)) := rfl
  have hay21 : zAt ad (i + 28) (ad (i + 28)) := rfl
  have hay22 : zAt ad (i + 29) (ad (i + 29)) := rfl
  obtain ⟨⟨hsyy23, htyy23, hnyy23, hpyy23⟩, hlyy23⟩ := okA.at0 hA
  simp only [Nat.zero_add] at hsyy23 hnyy23 hpyy23
  have hmn : ∀ s, s < 4 → 0 ≤ r (6 + 86 * s) ∧ r (6 + 86 * s) ≤ 12 := fun s hs => (hsyy23 s hs).1
  have h5 : 0 ≤ r 5 ∧ r 5 ≤ 6 := hpyy23
  obtain ⟨hp25, hp26, hp27, hp29⟩ := id hPl
  refine z_of (by decide) (Nat.le_of_ble_eq_true rfl) ?_
  intro pZ eZ sZ mZ below meth cZ C hr hlk hnm
  refine z_lv (lv' := [(0, .ref (ad i)), (1, .int (zI (z))), (2, .int (zI (z1))), (3, .int (zI (z2)))]) [0, 1, 2, 3] rfl ?_
  refine z_aload_n C 0 dX10_then_0 rfl ?_
  refine z_iconst (z := 0) C dX10_then_1 rfl ?_
  refine z_put (fs' := mF ad (i) (uZ F 12 (0))) C (lt_A0 hN rfl) hay1 hg tyX10 tyX10_ok nmX10 rfl inA_X10 12 (by decide) q_1471 rfl rfl rfl rfl (Nat.le_of_ble_eq_true rfl) rfl dX10_then_2 (fun gy24 egy25 => ?_)
  have hgy26 := up_s egy25
  refine z_aload_n C 0 dX10_then_5 rfl ?_
  refine z_iload_n C 1 dX10_then_6 rfl ?_
  have h13vy27 : (uZ F 12 (0)) 13 = F 13 := (fn rfl (by decide))
  have hey28 : (uZ F 12 (0)) 12 = 0 := (uZ_s _ _ _)
  refine z_cV (As := [.int (zI (z))]) (rest := []) (ci := 12) C (c_X10_isSlope l D A cs tt N ad _ i hN _ hgy26 (by omega) (by omega) (z) (by omega)) (lt_A0 hN rfl) hay1 hgy26 rfl rfl mv_yX10_isSlope q_1803 hd_yX10_isSlope (by decide) (Nat.le_of_ble_eq_true rfl) (by decide) dX10_then_7 rfl (kI0 fun vy27 gvy27 hvy27 => ?_)
  rw [h13vy27] at hvy27
  obtain ⟨hrvy27, ⟨Fvy27, hcvy27, htvy27, hFvy27⟩, hfvy27⟩ := hvy27
  obtain rfl : vy27 = 0 := by omega
  refine z_if_eq (tgt := 43) C dX10_then_10 (by decide) (by omega) (fun _ => ?_) (fun h => absurd h (by omega))
  refine z_iconst (z := 0) C dX10_then_43 rfl ?_
  have hgy29 := up_n egy25 ha1 (ne_o (i := i) (c := 1) (d := 0) rfl)
  have hgy30 := (hfvy27 (i + 1) (ne_o (i := i) (c := 1) (d := 0) rfl)).trans hgy29
  have hFy31 : ∀ f, f ≠ 12 → Fvy27 f = F f := fun f n12 => ((hFvy27 f n12).trans ((uZ_n _ _ n12).trans rfl))
  have hey32 : Fvy27 13 = F 13 := ((hFvy27 13 (by decide)).trans (fn rfl (by decide)))
  have hey33 : Fvy27 14 = F 14 := ((hFvy27 14 (by decide)).trans (fn rfl (by decide)))
  have hey34 : Fvy27 15 = F 15 := ((hFvy27 15 (by decide)).trans (fn rfl (by decide)))
  have hey35 : Fvy27 16 = F 16 := ((hFvy27 16 (by decide)).trans (fn rfl (by decide)))
  have hey36 : Fvy27 17 = F 17 := ((hFvy27 17 (by decide)).trans (fn rfl (by decide)))
  have hey37 : Fvy27 18 = F 18 := ((hFvy27 18 (by decide)).trans (fn rfl (by decide)))
  have hey38 : Fvy27 19 = F 19 := ((hFvy27 19 (by decide)).trans (fn rfl (by decide)))
  have hey39 : Fvy27 20 = F 20 := ((hFvy27 20 (by decide)).trans (fn rfl (by decide)))
  have hey40 : Fvy27 21 = F 21 := ((hFvy27 21 (by decide)).trans (fn rfl (by decide)))
  have hey41 : Fvy27 23 = F 23 := ((hFvy27 23 (by decide)).trans (fn rfl (by decide)))
  have hey42 : Fvy27 25 = F 25 := ((hFvy27 25 (by decide)).trans (fn rfl (by decide)))
  have hey43 : Fvy27 27 = F 27 := ((hFvy27 27 (by decide)).trans (fn rfl (by decide)))
  have hey44 : Fvy27 28 = F 28 := ((hFvy27 28 (by decide)).trans (fn rfl (by decide)))
  have hey45 : Fvy27 29 = F 29 := ((hFvy27 29 (by decide)).trans (fn rfl (by decide)))
  have hKy46 : okF Fvy27 := okF.mv hM.2.1 hey32 hey33 hey34 hey35 hey36 hey37 hey38 hey39 hey40 hey41 hey42 hey43 hey44 hey45
  have hMy47 : okMr cs ad gvy27 i (x + 1) Fvy27 r st op ai fa mu tb tp := okMr.upd hM hcvy27 hKy46 (fun f a => hFy31 f (by omega)) hgy30 (hA.mono (by omega)) (fun j a b => by
      exact Or.inl (by rw [hfvy27 _ (by omega)]; rw [egy25, va_up_ne _ _ (by omega)]))
  have hkpy48 : Fvy27 13 = F 13 := ((hFvy27 13 (by decide)).trans (fn rfl (by decide)))
  have hkpy49 : Fvy27 14 = F 14 := ((hFvy27 14 (by decide)).trans (fn rfl (by decide)))
  have hkpy50 : Fvy27 15 = F 15 := ((hFvy27 15 (by decide)).trans (fn rfl (by decide)))
  have hkpy51 : Fvy27 16 = F 16 := ((hFvy27 16 (by decide)).trans (fn rfl (by decide)))
  have hkpy52 : Fvy27 17 = F 17 := ((hFvy27 17 (by decide)).trans (fn rfl (by decide)))
  have hkpy53 : Fvy27 18 = F 18 := ((hFvy27 18 (by decide)).trans (fn rfl (by decide)))
  have hkpy54 : Fvy27 19 = F 19 := ((hFvy27 19 (by decide)).trans (fn rfl (by decide)))
  have hkpy55 : Fvy27 20 = F 20 := ((hFvy27 20 (by decide)).trans (fn rfl (by decide)))
  have hkpy56 : Fvy27 21 = F 21 := ((hFvy27 21 (by decide)).trans (fn rfl (by decide)))
  have hkpy57 : Fvy27 23 = F 23 := ((hFvy27 23 (by decide)).trans (fn rfl (by decide)))
  have hkpy58 : Fvy27 24 = F 24 := ((hFvy27 24 (by decide)).trans (fn rfl (by decide)))
  have hkpy59 : Fvy27 25 = F 25 := ((hFvy27 25 (by decide)).trans (fn rfl (by decide)))
  have hkpy60 : Fvy27 26 = F 26 := ((hFvy27 26 (by decide)).trans (fn rfl (by decide)))
  have hkpy61 : Fvy27 27 = F 27 := ((hFvy27 27 (by decide)).trans (fn rfl (by decide)))
  have hkpy62 : Fvy27 29 = F 29 := ((hFvy27 29 (by decide)).trans (fn rfl (by decide)))
  exact z_iret C hr hlk dX10_then_44 (by decide) (by decide) ⟨0, rfl, rfl, rfl, by omega, ⟨_, _, hMy47, ⟨hkpy48, hkpy49, hkpy50, hkpy51, hkpy52, hkpy53, hkpy54, hkpy55, hkpy56, hkpy57, hkpy58⟩, ⟨(hkpy59.trans hp25), (hkpy60.trans hp26), (hkpy61.trans hp27), (hkpy62.trans hp29)⟩, (fun j _ => rfl)⟩, fun j j1 => by rw [hfvy27 _ (by omega)]; rw [egy25, va_up_ne _ _ (by omega)]⟩

set_option maxRecDepth 100000 in
set_option maxHeartbeats 4000000 in
theorem c_X10_then (l : Launch) (D : va_G) (A : Nat → Prop) (cs : Nat → ClassId) (tt : Nat) (N : Nat) (ad : Nat → Nat) (g : Nat → va_E) (i : Nat) (hN : i + 30 ≤ N) (x : Int) (hx : 0 ≤ x ∧ x ≤ 512) (F r : Nat → Int) {st op ai fa mu tb tp : Nat → Int} (hM : okMr cs ad g i x F r st op ai fa mu tb tp) (hPl : F 25 = 0 ∧ F 26 = -1 ∧ F 27 = -1 ∧ F 29 = 0) (z : Int) (hz : -2147483648 ≤ z ∧ z ≤ 2147483647) (z1 : Int) (hz1 : -2147483648 ≤ z1 ∧ z1 ≤ 2147483647) (z2 : Int) (hz2 : -2147483648 ≤ z2 ∧ z2 ≤ 2147483647) : zM l yX10_then cX10_then 5 (some .int) ({ frames := 10, cells := 0, slots := 0, locals := 600 } : Room) D A cs tt N ad g [.ref (ad i), .int (zI (z)), .int (zI (z1)), .int (zI (z2))] (rI0 N ad fun q g' => (-2147483648 ≤ q ∧ q ≤ 2147483647) ∧ (∃ F' r' : Nat → Int, okMr cs ad g' i (x + 1) F' r' st op ai fa mu tb tp ∧ (F' 13 = F 13 ∧ F' 14 = F 14 ∧ F' 15 = F 15 ∧ F' 16 = F 16 ∧ F' 17 = F 17 ∧ F' 18 = F 18 ∧ F' 19 = F 19 ∧ F' 20 = F 20 ∧ F' 21 = F 21 ∧ F' 23 = F 23 ∧ F' 24 = F 24) ∧ (F' 25 = 0 ∧ F' 26 = -1 ∧ F' 27 = -1 ∧ F' 29 = 0) ∧ (∀ j, j < 350 ∨ 700 ≤ j → r' j = r j)) ∧ ∀ j, j < i ∨ i + 30 ≤ j ∨ (i + 8 ≤ j ∧ j ≤ i + 12) → g' j = g j) := by
  by_cases h9 : 0 ≤ z ∧ z ≤ 3
  · obtain ⟨n, rfl⟩ : ∃ n : Nat, z = (n : Int) := ⟨z.toNat, by omega⟩
    exact c_X10_then_a l D A cs tt N ad g i hN x hx F r hM hPl n (by omega) z1 hz1 z2 hz2
  · exact c_X10_then_b l D A cs tt N ad g i hN x hx F r hM hPl z hz (by omega) z1 hz1 z2 hz2
end
section
-- 96.words.lean.txt
-- words of refsay
theorem q_1510 : (Jvm.Cond.fieldLink "SnowRecorderModel" (373 : Nat) "SnowRecorderModel" "lined" "I") ∈ AW := AW_m7 70 (by decide +kernel) (by decide +kernel)
theorem q_1850 : (Jvm.Cond.methodLink "SnowRecorderModel" (376 : Nat) ({ cls := "SnowRecorderModel", name := "says", desc := "(I)V" } : Jvm.MethodName)) ∈ AW := AW_m8 170 (by decide +kernel) (by decide +kernel)
theorem q_1852 : (Jvm.Cond.instanceMethod ({ cls := "SnowRecorderModel", name := "says", desc := "(I)V" } : Jvm.MethodName)) ∈ AW := AW_m8 172 (by decide +kernel) (by decide +kernel)
theorem q_1853 : (Jvm.Cond.code ({ cls := "SnowRecorderModel", name := "says", desc := "(I)V" } : Jvm.MethodName) prog_12_method_73_code (2 : Nat) (Option.none : Option Jvm.ClassFile.FieldType)) ∈ AW := AW_m8 173 (by decide +kernel) (by decide +kernel)
theorem s_80 : Cond.selects "SnowRecorderModel" ({ cls := "SnowRecorderModel", name := "says", desc := "(I)V" } : Jvm.MethodName) ({ cls := "SnowRecorderModel", name := "says", desc := "(I)V" } : Jvm.MethodName) ∈ AW := AW_m 80 (by decide +kernel) (by decide +kernel)
theorem hd_yX10_says : yX10_says.cls ≠ "java/lang/invoke/MethodHandle" ∧ yX10_says.cls ≠ "java/lang/invoke/VarHandle" ∧ (parseMethodDescriptor yX10_says.desc).map (fun d => d.parameters.length) = some 1 := by decide +kernel
theorem mv_yX10_says : zWv yX10_says cX10_says 2 none := ⟨q_1852, s_80, q_15, q_1853⟩
end
section
-- 97.dec.lean.txt
-- decode rows of refsay
theorem dX10_says_0 : decode cX10_says 0 = .ok (.aload_n 0, 1) := by decide +kernel
theorem dX10_says_1 : decode cX10_says 1 = .ok (.getfield 89, 3) := by decide +kernel
theorem dX10_says_4 : decode cX10_says 4 = .ok (.aload_n 0, 1) := by decide +kernel
theorem dX10_says_5 : decode cX10_says 5 = .ok (.getfield 373, 3) := by decide +kernel
theorem dX10_says_8 : decode cX10_says 8 = .ok (.iload_n 1, 1) := by decide +kernel
theorem dX10_says_9 : decode cX10_says 9 = .ok (.iastore, 1) := by decide +kernel
theorem dX10_says_10 : decode cX10_says 10 = .ok (.aload_n 0, 1) := by decide +kernel
theorem dX10_says_11 : decode cX10_says 11 = .ok (.dup, 1) := by decide +kernel
theorem dX10_says_12 : decode cX10_says 12 = .ok (.getfield 373, 3) := by decide +kernel
theorem dX10_says_15 : decode cX10_says 15 = .ok (.iconst 1, 1) := by decide +kernel
theorem dX10_says_16 : decode cX10_says 16 = .ok (.iadd, 1) := by decide +kernel
theorem dX10_says_17 : decode cX10_says 17 = .ok (.putfield 373, 3) := by decide +kernel
theorem dX10_says_20 : decode cX10_says 20 = .ok (.return_, 1) := by decide +kernel
theorem dX10_saysNumber_0 : decode cX10_saysNumber 0 = .ok (.iload_n 1, 1) := by decide +kernel
theorem dX10_saysNumber_1 : decode cX10_saysNumber 1 = .ok (.ifCond .ge 9, 3) := by decide +kernel
theorem dX10_saysNumber_10 : decode cX10_saysNumber 10 = .ok (.iload_n 1, 1) := by decide +kernel
theorem dX10_saysNumber_11 : decode cX10_saysNumber 11 = .ok (.invokestatic 186, 3) := by decide +kernel
theorem dX10_saysNumber_14 : decode cX10_saysNumber 14 = .ok (.istore_n 2, 1) := by decide +kernel
theorem dX10_saysNumber_15 : decode cX10_saysNumber 15 = .ok (.iconst 1, 1) := by decide +kernel
theorem dX10_saysNumber_16 : decode cX10_saysNumber 16 = .ok (.istore_n 3, 1) := by decide +kernel
theorem dX10_saysNumber_17 : decode cX10_saysNumber 17 = .ok (.iload_n 2, 1) := by decide +kernel
theorem dX10_saysNumber_18 : decode cX10_saysNumber 18 = .ok (.iload_n 3, 1) := by decide +kernel
theorem dX10_saysNumber_19 : decode cX10_saysNumber 19 = .ok (.idiv, 1) := by decide +kernel
theorem dX10_saysNumber_20 : decode cX10_saysNumber 20 = .ok (.bipush 9, 2) := by decide +kernel
theorem dX10_saysNumber_22 : decode cX10_saysNumber 22 = .ok (.if_icmp .le 11, 3) := by decide +kernel
theorem dX10_saysNumber_33 : decode cX10_saysNumber 33 = .ok (.iload_n 3, 1) := by decide +kernel
theorem dX10_saysNumber_34 : decode cX10_saysNumber 34 = .ok (.ifCond .le 24, 3) := by decide +kernel
theorem dX10_saysNumber_37 : decode cX10_saysNumber 37 = .ok (.aload_n 0, 1) := by decide +kernel
theorem dX10_saysNumber_38 : decode cX10_saysNumber 38 = .ok (.bipush 48, 2) := by decide +kernel
theorem dX10_saysNumber_40 : decode cX10_saysNumber 40 = .ok (.iload_n 2, 1) := by decide +kernel
theorem dX10_saysNumber_41 : decode cX10_saysNumber 41 = .ok (.iload_n 3, 1) := by decide +kernel
theorem dX10_saysNumber_42 : decode cX10_saysNumber 42 = .ok (.idiv, 1) := by decide +kernel
theorem dX10_saysNumber_43 : decode cX10_saysNumber 43 = .ok (.bipush 10, 2) := by decide +kernel
theorem dX10_saysNumber_45 : decode cX10_saysNumber 45 = .ok (.irem, 1) := by decide +kernel
theorem dX10_saysNumber_46 : decode cX10_saysNumber 46 = .ok (.iadd, 1) := by decide +kernel
theorem dX10_saysNumber_47 : decode cX10_saysNumber 47 = .ok (.invokevirtual 376, 3) := by decide +kernel
theorem dX10_saysNumber_50 : decode cX10_saysNumber 50 = .ok (.iload_n 3, 1) := by decide +kernel
theorem dX10_saysNumber_51 : decode cX10_saysNumber 51 = .ok (.bipush 10, 2) := by decide +kernel
theorem dX10_saysNumber_53 : decode cX10_saysNumber 53 = .ok (.idiv, 1) := by decide +kernel
theorem dX10_saysNumber_54 : decode cX10_saysNumber 54 = .ok (.istore_n 3, 1) := by decide +kernel
theorem dX10_saysNumber_55 : decode cX10_saysNumber 55 = .ok (.goto (-22), 3) := by decide +kernel
theorem dX10_saysNumber_58 : decode cX10_saysNumber 58 = .ok (.return_, 1) := by decide +kernel
theorem dX10_saysNumber_25 : decode cX10_saysNumber 25 = .ok (.iload_n 3, 1) := by decide +kernel
theorem dX10_saysNumber_26 : decode cX10_saysNumber 26 = .ok (.bipush 10, 2) := by decide +kernel
theorem dX10_saysNumber_28 : decode cX10_saysNumber 28 = .ok (.imul, 1) := by decide +kernel
theorem dX10_saysNumber_29 : decode cX10_saysNumber 29 = .ok (.istore_n 3, 1) := by decide +kernel
theorem dX10_saysNumber_30 : decode cX10_saysNumber 30 = .ok (.goto (-13), 3) := by decide +kernel
theorem dX10_saysNumber_4 : decode cX10_saysNumber 4 = .ok (.aload_n 0, 1) := by decide +kernel
theorem dX10_saysNumber_5 : decode cX10_saysNumber 5 = .ok (.bipush 45, 2) := by decide +kernel
theorem dX10_saysNumber_7 : decode cX10_saysNumber 7 = .ok (.invokevirtual 376, 3) := by decide +kernel
theorem dX10_saysWord_0 : decode cX10_saysWord 0 = .ok (.aload_n 0, 1) := by decide +kernel
theorem dX10_saysWord_1 : decode cX10_saysWord 1 = .ok (.bipush 32, 2) := by decide +kernel
theorem dX10_saysWord_3 : decode cX10_saysWord 3 = .ok (.invokevirtual 376, 3) := by decide +kernel
theorem dX10_saysWord_6 : decode cX10_saysWord 6 = .ok (.aload_n 0, 1) := by decide +kernel
theorem dX10_saysWord_7 : decode cX10_saysWord 7 = .ok (.iload_n 1, 1) := by decide +kernel
theorem dX10_saysWord_8 : decode cX10_saysWord 8 = .ok (.invokevirtual 376, 3) := by decide +kernel
theorem dX10_saysWord_11 : decode cX10_saysWord 11 = .ok (.aload_n 0, 1) := by decide +kernel
theorem dX10_saysWord_12 : decode cX10_saysWord 12 = .ok (.iload_n 2, 1) := by decide +kernel
theorem dX10_saysWord_13 : decode cX10_saysWord 13 = .ok (.invokevirtual 376, 3) := by decide +kernel
theorem dX10_saysWord_16 : decode cX10_saysWord 16 = .ok (.aload_n 0, 1) := by decide +kernel
theorem dX10_saysWord_17 : decode cX10_saysWord 17 = .ok (.bipush 32, 2) := by decide +kernel
theorem dX10_saysWord_19 : decode cX10_saysWord 19 = .ok (.invokevirtual 376, 3) := by decide +kernel
theorem dX10_saysWord_22 : decode cX10_saysWord 22 = .ok (.return_, 1) := by decide +kernel
end
