section
-- 99g.words.lean.txt
-- words of refpit
theorem q_1514 : (Jvm.Cond.fieldLink "SnowRecorderModel" (430 : Nat) "SnowRecorderModel" "ones" "I") ∈ AW := AW_m7 74 (by decide +kernel) (by decide +kernel)
theorem q_1515 : (Jvm.Cond.fieldLink "SnowRecorderModel" (433 : Nat) "SnowRecorderModel" "others" "I") ∈ AW := AW_m7 75 (by decide +kernel) (by decide +kernel)
theorem q_2027 : (Jvm.Cond.methodLink "SnowRecorderModel" (421 : Nat) ({ cls := "SnowRecorderModel", name := "isPit", desc := "(I)Z" } : Jvm.MethodName)) ∈ AW := AW_m9 107 (by decide +kernel) (by decide +kernel)
theorem q_2029 : (Jvm.Cond.instanceMethod ({ cls := "SnowRecorderModel", name := "isPit", desc := "(I)Z" } : Jvm.MethodName)) ∈ AW := AW_m9 109 (by decide +kernel) (by decide +kernel)
theorem q_2030 : (Jvm.Cond.code ({ cls := "SnowRecorderModel", name := "isPit", desc := "(I)Z" } : Jvm.MethodName) prog_12_method_101_code (2 : Nat) (Option.some Jvm.ClassFile.FieldType.boolean)) ∈ AW := AW_m9 110 (by decide +kernel) (by decide +kernel)
theorem q_2031 : (Jvm.Cond.methodLink "SnowRecorderModel" (424 : Nat) ({ cls := "SnowRecorderModel", name := "pitMany", desc := "(I)I" } : Jvm.MethodName)) ∈ AW := AW_m9 111 (by decide +kernel) (by decide +kernel)
theorem q_2033 : (Jvm.Cond.instanceMethod ({ cls := "SnowRecorderModel", name := "pitMany", desc := "(I)I" } : Jvm.MethodName)) ∈ AW := AW_m9 113 (by decide +kernel) (by decide +kernel)
theorem q_2034 : (Jvm.Cond.code ({ cls := "SnowRecorderModel", name := "pitMany", desc := "(I)I" } : Jvm.MethodName) prog_12_method_102_code (2 : Nat) (Option.some Jvm.ClassFile.FieldType.int)) ∈ AW := AW_m9 114 (by decide +kernel) (by decide +kernel)
theorem q_2043 : (Jvm.Cond.methodLink "SnowRecorderModel" (427 : Nat) ({ cls := "SnowRecorderModel", name := "inPit", desc := "(III)I" } : Jvm.MethodName)) ∈ AW := AW_m9 123 (by decide +kernel) (by decide +kernel)
theorem q_2045 : (Jvm.Cond.instanceMethod ({ cls := "SnowRecorderModel", name := "inPit", desc := "(III)I" } : Jvm.MethodName)) ∈ AW := AW_m9 125 (by decide +kernel) (by decide +kernel)
theorem q_2046 : (Jvm.Cond.code ({ cls := "SnowRecorderModel", name := "inPit", desc := "(III)I" } : Jvm.MethodName) prog_12_method_103_code (4 : Nat) (Option.some Jvm.ClassFile.FieldType.int)) ∈ AW := AW_m9 126 (by decide +kernel) (by decide +kernel)
theorem s_107 : Cond.selects "SnowRecorderModel" ({ cls := "SnowRecorderModel", name := "isPit", desc := "(I)Z" } : Jvm.MethodName) ({ cls := "SnowRecorderModel", name := "isPit", desc := "(I)Z" } : Jvm.MethodName) ∈ AW := AW_m 107 (by decide +kernel) (by decide +kernel)
theorem s_108 : Cond.selects "SnowRecorderModel" ({ cls := "SnowRecorderModel", name := "pitMany", desc := "(I)I" } : Jvm.MethodName) ({ cls := "SnowRecorderModel", name := "pitMany", desc := "(I)I" } : Jvm.MethodName) ∈ AW := AW_m 108 (by decide +kernel) (by decide +kernel)
theorem s_110 : Cond.selects "SnowRecorderModel" ({ cls := "SnowRecorderModel", name := "inPit", desc := "(III)I" } : Jvm.MethodName) ({ cls := "SnowRecorderModel", name := "inPit", desc := "(III)I" } : Jvm.MethodName) ∈ AW := AW_m 110 (by decide +kernel) (by decide +kernel)
theorem hd_yX10_isPit : yX10_isPit.cls ≠ "java/lang/invoke/MethodHandle" ∧ yX10_isPit.cls ≠ "java/lang/invoke/VarHandle" ∧ (parseMethodDescriptor yX10_isPit.desc).map (fun d => d.parameters.length) = some 1 := by decide +kernel
theorem hd_yX10_pitMany : yX10_pitMany.cls ≠ "java/lang/invoke/MethodHandle" ∧ yX10_pitMany.cls ≠ "java/lang/invoke/VarHandle" ∧ (parseMethodDescriptor yX10_pitMany.desc).map (fun d => d.parameters.length) = some 1 := by decide +kernel
theorem hd_yX10_inPit : yX10_inPit.cls ≠ "java/lang/invoke/MethodHandle" ∧ yX10_inPit.cls ≠ "java/lang/invoke/VarHandle" ∧ (parseMethodDescriptor yX10_inPit.desc).map (fun d => d.parameters.length) = some 3 := by decide +kernel
theorem mv_yX10_isPit : zWv yX10_isPit cX10_isPit 2 (some .boolean) := ⟨q_2029, s_107, q_15, q_2030⟩
theorem mv_yX10_pitMany : zWv yX10_pitMany cX10_pitMany 2 (some .int) := ⟨q_2033, s_108, q_15, q_2034⟩
theorem mv_yX10_inPit : zWv yX10_inPit cX10_inPit 4 (some .int) := ⟨q_2045, s_110, q_15, q_2046⟩
end
section
-- 99h.dec.lean.txt
-- decode rows of refpit
theorem dX10_pitMany_0 : decode cX10_pitMany 0 = .ok (.aload_n 0, 1) := by decide +kernel
theorem dX10_pitMany_1 : decode cX10_pitMany 1 = .ok (.getfield 43, 3) := by decide +kernel
theorem dX10_pitMany_4 : decode cX10_pitMany 4 = .ok (.bipush 90, 2) := by decide +kernel
theorem dX10_pitMany_6 : decode cX10_pitMany 6 = .ok (.iload_n 1, 1) := by decide +kernel
theorem dX10_pitMany_7 : decode cX10_pitMany 7 = .ok (.imul, 1) := by decide +kernel
theorem dX10_pitMany_8 : decode cX10_pitMany 8 = .ok (.iconst 2, 1) := by decide +kernel
theorem dX10_pitMany_9 : decode cX10_pitMany 9 = .ok (.iadd, 1) := by decide +kernel
theorem dX10_pitMany_10 : decode cX10_pitMany 10 = .ok (.iaload, 1) := by decide +kernel
theorem dX10_pitMany_11 : decode cX10_pitMany 11 = .ok (.ireturn, 1) := by decide +kernel
theorem dX10_inPit_0 : decode cX10_inPit 0 = .ok (.aload_n 0, 1) := by decide +kernel
theorem dX10_inPit_1 : decode cX10_inPit 1 = .ok (.getfield 43, 3) := by decide +kernel
theorem dX10_inPit_4 : decode cX10_inPit 4 = .ok (.bipush 90, 2) := by decide +kernel
theorem dX10_inPit_6 : decode cX10_inPit 6 = .ok (.iload_n 1, 1) := by decide +kernel
theorem dX10_inPit_7 : decode cX10_inPit 7 = .ok (.imul, 1) := by decide +kernel
theorem dX10_inPit_8 : decode cX10_inPit 8 = .ok (.iconst 3, 1) := by decide +kernel
theorem dX10_inPit_9 : decode cX10_inPit 9 = .ok (.iadd, 1) := by decide +kernel
theorem dX10_inPit_10 : decode cX10_inPit 10 = .ok (.bipush 7, 2) := by decide +kernel
theorem dX10_inPit_12 : decode cX10_inPit 12 = .ok (.iload_n 2, 1) := by decide +kernel
theorem dX10_inPit_13 : decode cX10_inPit 13 = .ok (.imul, 1) := by decide +kernel
theorem dX10_inPit_14 : decode cX10_inPit 14 = .ok (.iadd, 1) := by decide +kernel
theorem dX10_inPit_15 : decode cX10_inPit 15 = .ok (.iload_n 3, 1) := by decide +kernel
theorem dX10_inPit_16 : decode cX10_inPit 16 = .ok (.iadd, 1) := by decide +kernel
theorem dX10_inPit_17 : decode cX10_inPit 17 = .ok (.iaload, 1) := by decide +kernel
theorem dX10_inPit_18 : decode cX10_inPit 18 = .ok (.ireturn, 1) := by decide +kernel
theorem dX10_pitOf_0 : decode cX10_pitOf 0 = .ok (.aload_n 0, 1) := by decide +kernel
theorem dX10_pitOf_1 : decode cX10_pitOf 1 = .ok (.iconst 0, 1) := by decide +kernel
theorem dX10_pitOf_2 : decode cX10_pitOf 2 = .ok (.putfield 110, 3) := by decide +kernel
theorem dX10_pitOf_5 : decode cX10_pitOf 5 = .ok (.aload_n 0, 1) := by decide +kernel
theorem dX10_pitOf_6 : decode cX10_pitOf 6 = .ok (.iload_n 1, 1) := by decide +kernel
theorem dX10_pitOf_7 : decode cX10_pitOf 7 = .ok (.invokevirtual 421, 3) := by decide +kernel
theorem dX10_pitOf_10 : decode cX10_pitOf 10 = .ok (.ifCond .eq 17, 3) := by decide +kernel
theorem dX10_pitOf_13 : decode cX10_pitOf 13 = .ok (.aload_n 0, 1) := by decide +kernel
theorem dX10_pitOf_14 : decode cX10_pitOf 14 = .ok (.iload_n 2, 1) := by decide +kernel
theorem dX10_pitOf_15 : decode cX10_pitOf 15 = .ok (.iconst 0, 1) := by decide +kernel
theorem dX10_pitOf_16 : decode cX10_pitOf 16 = .ok (.iconst 2, 1) := by decide +kernel
theorem dX10_pitOf_17 : decode cX10_pitOf 17 = .ok (.invokestatic 281, 3) := by decide +kernel
theorem dX10_pitOf_20 : decode cX10_pitOf 20 = .ok (.iconst 1, 1) := by decide +kernel
theorem dX10_pitOf_21 : decode cX10_pitOf 21 = .ok (.invokevirtual 324, 3) := by decide +kernel
theorem dX10_pitOf_24 : decode cX10_pitOf 24 = .ok (.ifCond .ne 5, 3) := by decide +kernel
theorem dX10_pitOf_29 : decode cX10_pitOf 29 = .ok (.iload_n 2, 1) := by decide +kernel
theorem dX10_pitOf_30 : decode cX10_pitOf 30 = .ok (.ifCond .ne 15, 3) := by decide +kernel
theorem dX10_pitOf_45 : decode cX10_pitOf 45 = .ok (.iload_n 2, 1) := by decide +kernel
theorem dX10_pitOf_46 : decode cX10_pitOf 46 = .ok (.iconst 1, 1) := by decide +kernel
theorem dX10_pitOf_47 : decode cX10_pitOf 47 = .ok (.if_icmp .ne 11, 3) := by decide +kernel
theorem dX10_pitOf_58 : decode cX10_pitOf 58 = .ok (.aload_n 0, 1) := by decide +kernel
theorem dX10_pitOf_59 : decode cX10_pitOf 59 = .ok (.getfield 43, 3) := by decide +kernel
theorem dX10_pitOf_62 : decode cX10_pitOf 62 = .ok (.bipush 90, 2) := by decide +kernel
theorem dX10_pitOf_64 : decode cX10_pitOf 64 = .ok (.iload_n 1, 1) := by decide +kernel
theorem dX10_pitOf_65 : decode cX10_pitOf 65 = .ok (.imul, 1) := by decide +kernel
theorem dX10_pitOf_66 : decode cX10_pitOf 66 = .ok (.iconst 1, 1) := by decide +kernel
theorem dX10_pitOf_67 : decode cX10_pitOf 67 = .ok (.iadd, 1) := by decide +kernel
theorem dX10_pitOf_68 : decode cX10_pitOf 68 = .ok (.iaload, 1) := by decide +kernel
theorem dX10_pitOf_69 : decode cX10_pitOf 69 = .ok (.ireturn, 1) := by decide +kernel
theorem dX10_pitOf_50 : decode cX10_pitOf 50 = .ok (.aload_n 0, 1) := by decide +kernel
theorem dX10_pitOf_51 : decode cX10_pitOf 51 = .ok (.iload_n 1, 1) := by decide +kernel
theorem dX10_pitOf_52 : decode cX10_pitOf 52 = .ok (.invokevirtual 424, 3) := by decide +kernel
theorem dX10_pitOf_55 : decode cX10_pitOf 55 = .ok (.goto 14, 3) := by decide +kernel
theorem dX10_pitOf_33 : decode cX10_pitOf 33 = .ok (.aload_n 0, 1) := by decide +kernel
theorem dX10_pitOf_34 : decode cX10_pitOf 34 = .ok (.getfield 43, 3) := by decide +kernel
theorem dX10_pitOf_37 : decode cX10_pitOf 37 = .ok (.bipush 90, 2) := by decide +kernel
theorem dX10_pitOf_39 : decode cX10_pitOf 39 = .ok (.iload_n 1, 1) := by decide +kernel
theorem dX10_pitOf_40 : decode cX10_pitOf 40 = .ok (.imul, 1) := by decide +kernel
theorem dX10_pitOf_41 : decode cX10_pitOf 41 = .ok (.iaload, 1) := by decide +kernel
theorem dX10_pitOf_42 : decode cX10_pitOf 42 = .ok (.goto 27, 3) := by decide +kernel
theorem dX10_pitOf_27 : decode cX10_pitOf 27 = .ok (.iconst 0, 1) := by decide +kernel
theorem dX10_pitOf_28 : decode cX10_pitOf 28 = .ok (.ireturn, 1) := by decide +kernel
theorem dX10_namesInBoth_5 : decode cX10_namesInBoth 5 = .ok (.iload 4, 2) := by decide +kernel
theorem dX10_namesInBoth_7 : decode cX10_namesInBoth 7 = .ok (.aload_n 0, 1) := by decide +kernel
theorem dX10_namesInBoth_8 : decode cX10_namesInBoth 8 = .ok (.iload_n 1, 1) := by decide +kernel
theorem dX10_namesInBoth_9 : decode cX10_namesInBoth 9 = .ok (.invokevirtual 424, 3) := by decide +kernel
theorem dX10_namesInBoth_12 : decode cX10_namesInBoth 12 = .ok (.if_icmp .ge 57, 3) := by decide +kernel
theorem dX10_namesInBoth_69 : decode cX10_namesInBoth 69 = .ok (.iload_n 3, 1) := by decide +kernel
theorem dX10_namesInBoth_70 : decode cX10_namesInBoth 70 = .ok (.ireturn, 1) := by decide +kernel
theorem dX10_namesInBoth_15 : decode cX10_namesInBoth 15 = .ok (.iconst 0, 1) := by decide +kernel
theorem dX10_namesInBoth_16 : decode cX10_namesInBoth 16 = .ok (.istore 5, 2) := by decide +kernel
theorem dX10_namesInBoth_18 : decode cX10_namesInBoth 18 = .ok (.iload 5, 2) := by decide +kernel
theorem dX10_namesInBoth_20 : decode cX10_namesInBoth 20 = .ok (.aload_n 0, 1) := by decide +kernel
theorem dX10_namesInBoth_21 : decode cX10_namesInBoth 21 = .ok (.iload_n 2, 1) := by decide +kernel
theorem dX10_namesInBoth_22 : decode cX10_namesInBoth 22 = .ok (.invokevirtual 424, 3) := by decide +kernel
theorem dX10_namesInBoth_25 : decode cX10_namesInBoth 25 = .ok (.if_icmp .ge 38, 3) := by decide +kernel
theorem dX10_namesInBoth_63 : decode cX10_namesInBoth 63 = .ok (.iinc 4 1, 3) := by decide +kernel
theorem dX10_namesInBoth_66 : decode cX10_namesInBoth 66 = .ok (.goto (-61), 3) := by decide +kernel
theorem dX10_namesInBoth_28 : decode cX10_namesInBoth 28 = .ok (.iload_n 3, 1) := by decide +kernel
theorem dX10_namesInBoth_29 : decode cX10_namesInBoth 29 = .ok (.aload_n 0, 1) := by decide +kernel
theorem dX10_namesInBoth_30 : decode cX10_namesInBoth 30 = .ok (.iload_n 1, 1) := by decide +kernel
theorem dX10_namesInBoth_31 : decode cX10_namesInBoth 31 = .ok (.iload 4, 2) := by decide +kernel
theorem dX10_namesInBoth_33 : decode cX10_namesInBoth 33 = .ok (.bipush 6, 2) := by decide +kernel
theorem dX10_namesInBoth_35 : decode cX10_namesInBoth 35 = .ok (.invokevirtual 427, 3) := by decide +kernel
theorem dX10_namesInBoth_38 : decode cX10_namesInBoth 38 = .ok (.aload_n 0, 1) := by decide +kernel
theorem dX10_namesInBoth_39 : decode cX10_namesInBoth 39 = .ok (.iload_n 2, 1) := by decide +kernel
theorem dX10_namesInBoth_40 : decode cX10_namesInBoth 40 = .ok (.iload 5, 2) := by decide +kernel
theorem dX10_namesInBoth_42 : decode cX10_namesInBoth 42 = .ok (.bipush 6, 2) := by decide +kernel
theorem dX10_namesInBoth_44 : decode cX10_namesInBoth 44 = .ok (.invokevirtual 427, 3) := by decide +kernel
theorem dX10_namesInBoth_47 : decode cX10_namesInBoth 47 = .ok (.if_icmp .ne 7, 3) := by decide +kernel
theorem dX10_namesInBoth_54 : decode cX10_namesInBoth 54 = .ok (.iconst 0, 1) := by decide +kernel
theorem dX10_namesInBoth_55 : decode cX10_namesInBoth 55 = .ok (.iadd, 1) := by decide +kernel
theorem dX10_namesInBoth_56 : decode cX10_namesInBoth 56 = .ok (.istore_n 3, 1) := by decide +kernel
theorem dX10_namesInBoth_57 : decode cX10_namesInBoth 57 = .ok (.iinc 5 1, 3) := by decide +kernel
theorem dX10_namesInBoth_60 : decode cX10_namesInBoth 60 = .ok (.goto (-42), 3) := by decide +kernel
theorem dX10_namesInBoth_50 : decode cX10_namesInBoth 50 = .ok (.iconst 1, 1) := by decide +kernel
theorem dX10_namesInBoth_51 : decode cX10_namesInBoth 51 = .ok (.goto 4, 3) := by decide +kernel
theorem dX10_namesInBoth_0 : decode cX10_namesInBoth 0 = .ok (.iconst 0, 1) := by decide +kernel
theorem dX10_namesInBoth_1 : decode cX10_namesInBoth 1 = .ok (.istore_n 3, 1) := by decide +kernel
theorem dX10_namesInBoth_2 : decode cX10_namesInBoth 2 = .ok (.iconst 0, 1) := by decide +kernel
theorem dX10_namesInBoth_3 : decode cX10_namesInBoth 3 = .ok (.istore 4, 2) := by decide +kernel
theorem dX10_laysPit_2 : decode cX10_laysPit 2 = .ok (.iload_n 3, 1) := by decide +kernel
theorem dX10_laysPit_3 : decode cX10_laysPit 3 = .ok (.aload_n 0, 1) := by decide +kernel
theorem dX10_laysPit_4 : decode cX10_laysPit 4 = .ok (.iload_n 1, 1) := by decide +kernel
theorem dX10_laysPit_5 : decode cX10_laysPit 5 = .ok (.invokevirtual 424, 3) := by decide +kernel
theorem dX10_laysPit_8 : decode cX10_laysPit 8 = .ok (.if_icmp .ge 19, 3) := by decide +kernel
theorem dX10_laysPit_27 : decode cX10_laysPit 27 = .ok (.return_, 1) := by decide +kernel
theorem dX10_laysPit_11 : decode cX10_laysPit 11 = .ok (.aload_n 2, 1) := by decide +kernel
theorem dX10_laysPit_12 : decode cX10_laysPit 12 = .ok (.iload_n 3, 1) := by decide +kernel
theorem dX10_laysPit_13 : decode cX10_laysPit 13 = .ok (.aload_n 0, 1) := by decide +kernel
theorem dX10_laysPit_14 : decode cX10_laysPit 14 = .ok (.iload_n 1, 1) := by decide +kernel
theorem dX10_laysPit_15 : decode cX10_laysPit 15 = .ok (.iload_n 3, 1) := by decide +kernel
theorem dX10_laysPit_16 : decode cX10_laysPit 16 = .ok (.iconst 0, 1) := by decide +kernel
theorem dX10_laysPit_17 : decode cX10_laysPit 17 = .ok (.invokevirtual 427, 3) := by decide +kernel
theorem dX10_laysPit_20 : decode cX10_laysPit 20 = .ok (.iastore, 1) := by decide +kernel
theorem dX10_laysPit_21 : decode cX10_laysPit 21 = .ok (.iinc 3 1, 3) := by decide +kernel
theorem dX10_laysPit_24 : decode cX10_laysPit 24 = .ok (.goto (-22), 3) := by decide +kernel
theorem dX10_laysPit_0 : decode cX10_laysPit 0 = .ok (.iconst 0, 1) := by decide +kernel
theorem dX10_laysPit_1 : decode cX10_laysPit 1 = .ok (.istore_n 3, 1) := by decide +kernel
theorem dX10_folds_2 : decode cX10_folds 2 = .ok (.iload_n 2, 1) := by decide +kernel
theorem dX10_folds_3 : decode cX10_folds 3 = .ok (.aload_n 0, 1) := by decide +kernel
theorem dX10_folds_4 : decode cX10_folds 4 = .ok (.getfield 430, 3) := by decide +kernel
theorem dX10_folds_7 : decode cX10_folds 7 = .ok (.if_icmp .gt 203, 3) := by decide +kernel
theorem dX10_folds_210 : decode cX10_folds 210 = .ok (.aload_n 0, 1) := by decide +kernel
theorem dX10_folds_211 : decode cX10_folds 211 = .ok (.getfield 98, 3) := by decide +kernel
theorem dX10_folds_214 : decode cX10_folds 214 = .ok (.bipush 13, 2) := by decide +kernel
theorem dX10_folds_216 : decode cX10_folds 216 = .ok (.aload_n 0, 1) := by decide +kernel
theorem dX10_folds_217 : decode cX10_folds 217 = .ok (.getfield 430, 3) := by decide +kernel
theorem dX10_folds_220 : decode cX10_folds 220 = .ok (.imul, 1) := by decide +kernel
theorem dX10_folds_221 : decode cX10_folds 221 = .ok (.aload_n 0, 1) := by decide +kernel
theorem dX10_folds_222 : decode cX10_folds 222 = .ok (.getfield 433, 3) := by decide +kernel
theorem dX10_folds_225 : decode cX10_folds 225 = .ok (.iadd, 1) := by decide +kernel
theorem dX10_folds_226 : decode cX10_folds 226 = .ok (.iaload, 1) := by decide +kernel
theorem dX10_folds_227 : decode cX10_folds 227 = .ok (.ireturn, 1) := by decide +kernel
theorem dX10_folds_10 : decode cX10_folds 10 = .ok (.iconst 0, 1) := by decide +kernel
theorem dX10_folds_11 : decode cX10_folds 11 = .ok (.istore_n 3, 1) := by decide +kernel
theorem dX10_folds_12 : decode cX10_folds 12 = .ok (.iload_n 3, 1) := by decide +kernel
theorem dX10_folds_13 : decode cX10_folds 13 = .ok (.aload_n 0, 1) := by decide +kernel
theorem dX10_folds_14 : decode cX10_folds 14 = .ok (.getfield 433, 3) := by decide +kernel
theorem dX10_folds_17 : decode cX10_folds 17 = .ok (.if_icmp .gt 187, 3) := by decide +kernel
theorem dX10_folds_204 : decode cX10_folds 204 = .ok (.iinc 2 1, 3) := by decide +kernel
theorem dX10_folds_207 : decode cX10_folds 207 = .ok (.goto (-205), 3) := by decide +kernel
theorem dX10_folds_20 : decode cX10_folds 20 = .ok (.bipush 13, 2) := by decide +kernel
theorem dX10_folds_22 : decode cX10_folds 22 = .ok (.iload_n 2, 1) := by decide +kernel
theorem dX10_folds_23 : decode cX10_folds 23 = .ok (.imul, 1) := by decide +kernel
theorem dX10_folds_24 : decode cX10_folds 24 = .ok (.iload_n 3, 1) := by decide +kernel
theorem dX10_folds_25 : decode cX10_folds 25 = .ok (.iadd, 1) := by decide +kernel
theorem dX10_folds_26 : decode cX10_folds 26 = .ok (.istore 4, 2) := by decide +kernel
theorem dX10_folds_28 : decode cX10_folds 28 = .ok (.iload_n 2, 1) := by decide +kernel
theorem dX10_folds_29 : decode cX10_folds 29 = .ok (.ifCond .eq 7, 3) := by decide +kernel
theorem dX10_folds_36 : decode cX10_folds 36 = .ok (.aload_n 0, 1) := by decide +kernel
theorem dX10_folds_37 : decode cX10_folds 37 = .ok (.getfield 98, 3) := by decide +kernel
theorem dX10_folds_40 : decode cX10_folds 40 = .ok (.iload 4, 2) := by decide +kernel
theorem dX10_folds_42 : decode cX10_folds 42 = .ok (.iload_n 1, 1) := by decide +kernel
theorem dX10_folds_43 : decode cX10_folds 43 = .ok (.ifCond .eq 7, 3) := by decide +kernel
theorem dX10_folds_50 : decode cX10_folds 50 = .ok (.iload_n 2, 1) := by decide +kernel
theorem dX10_folds_51 : decode cX10_folds 51 = .ok (.iload_n 3, 1) := by decide +kernel
theorem dX10_folds_52 : decode cX10_folds 52 = .ok (.iadd, 1) := by decide +kernel
theorem dX10_folds_53 : decode cX10_folds 53 = .ok (.iastore, 1) := by decide +kernel
theorem dX10_folds_54 : decode cX10_folds 54 = .ok (.goto 144, 3) := by decide +kernel
theorem dX10_folds_198 : decode cX10_folds 198 = .ok (.iinc 3 1, 3) := by decide +kernel
theorem dX10_folds_201 : decode cX10_folds 201 = .ok (.goto (-189), 3) := by decide +kernel
theorem dX10_folds_46 : decode cX10_folds 46 = .ok (.iconst 0, 1) := by decide +kernel
theorem dX10_folds_47 : decode cX10_folds 47 = .ok (.goto 6, 3) := by decide +kernel
theorem dX10_folds_32 : decode cX10_folds 32 = .ok (.iload_n 3, 1) := by decide +kernel
theorem dX10_folds_33 : decode cX10_folds 33 = .ok (.ifCond .ne 24, 3) := by decide +kernel
theorem dX10_folds_57 : decode cX10_folds 57 = .ok (.aload_n 0, 1) := by decide +kernel
theorem dX10_folds_58 : decode cX10_folds 58 = .ok (.getfield 92, 3) := by decide +kernel
theorem dX10_folds_61 : decode cX10_folds 61 = .ok (.iload_n 2, 1) := by decide +kernel
theorem dX10_folds_62 : decode cX10_folds 62 = .ok (.iconst 1, 1) := by decide +kernel
theorem dX10_folds_63 : decode cX10_folds 63 = .ok (.isub, 1) := by decide +kernel
theorem dX10_folds_64 : decode cX10_folds 64 = .ok (.iaload, 1) := by decide +kernel
theorem dX10_folds_65 : decode cX10_folds 65 = .ok (.aload_n 0, 1) := by decide +kernel
theorem dX10_folds_66 : decode cX10_folds 66 = .ok (.getfield 95, 3) := by decide +kernel
theorem dX10_folds_69 : decode cX10_folds 69 = .ok (.iload_n 3, 1) := by decide +kernel
theorem dX10_folds_70 : decode cX10_folds 70 = .ok (.iconst 1, 1) := by decide +kernel
theorem dX10_folds_71 : decode cX10_folds 71 = .ok (.isub, 1) := by decide +kernel
theorem dX10_folds_72 : decode cX10_folds 72 = .ok (.iaload, 1) := by decide +kernel
theorem dX10_folds_73 : decode cX10_folds 73 = .ok (.if_icmp .ne 7, 3) := by decide +kernel
theorem dX10_folds_80 : decode cX10_folds 80 = .ok (.iconst 0, 1) := by decide +kernel
theorem dX10_folds_81 : decode cX10_folds 81 = .ok (.istore 5, 2) := by decide +kernel
theorem dX10_folds_83 : decode cX10_folds 83 = .ok (.iload_n 1, 1) := by decide +kernel
theorem dX10_folds_84 : decode cX10_folds 84 = .ok (.ifCond .eq 59, 3) := by decide +kernel
theorem dX10_folds_143 : decode cX10_folds 143 = .ok (.aload_n 0, 1) := by decide +kernel
theorem dX10_folds_144 : decode cX10_folds 144 = .ok (.getfield 98, 3) := by decide +kernel
theorem dX10_folds_147 : decode cX10_folds 147 = .ok (.iload 4, 2) := by decide +kernel
theorem dX10_folds_149 : decode cX10_folds 149 = .ok (.aload_n 0, 1) := by decide +kernel
theorem dX10_folds_150 : decode cX10_folds 150 = .ok (.getfield 98, 3) := by decide +kernel
theorem dX10_folds_153 : decode cX10_folds 153 = .ok (.iload 4, 2) := by decide +kernel
theorem dX10_folds_155 : decode cX10_folds 155 = .ok (.bipush 13, 2) := by decide +kernel
theorem dX10_folds_157 : decode cX10_folds 157 = .ok (.isub, 1) := by decide +kernel
theorem dX10_folds_158 : decode cX10_folds 158 = .ok (.iaload, 1) := by decide +kernel
theorem dX10_folds_159 : decode cX10_folds 159 = .ok (.aload_n 0, 1) := by decide +kernel
theorem dX10_folds_160 : decode cX10_folds 160 = .ok (.getfield 98, 3) := by decide +kernel
theorem dX10_folds_163 : decode cX10_folds 163 = .ok (.iload 4, 2) := by decide +kernel
theorem dX10_folds_165 : decode cX10_folds 165 = .ok (.iconst 1, 1) := by decide +kernel
theorem dX10_folds_166 : decode cX10_folds 166 = .ok (.isub, 1) := by decide +kernel
theorem dX10_folds_167 : decode cX10_folds 167 = .ok (.iaload, 1) := by decide +kernel
theorem dX10_folds_168 : decode cX10_folds 168 = .ok (.invokestatic 143, 3) := by decide +kernel
theorem dX10_folds_171 : decode cX10_folds 171 = .ok (.iconst 1, 1) := by decide +kernel
theorem dX10_folds_172 : decode cX10_folds 172 = .ok (.iadd, 1) := by decide +kernel
theorem dX10_folds_173 : decode cX10_folds 173 = .ok (.aload_n 0, 1) := by decide +kernel
theorem dX10_folds_174 : decode cX10_folds 174 = .ok (.getfield 98, 3) := by decide +kernel
theorem dX10_folds_177 : decode cX10_folds 177 = .ok (.iload 4, 2) := by decide +kernel
theorem dX10_folds_179 : decode cX10_folds 179 = .ok (.bipush 14, 2) := by decide +kernel
theorem dX10_folds_181 : decode cX10_folds 181 = .ok (.isub, 1) := by decide +kernel
theorem dX10_folds_182 : decode cX10_folds 182 = .ok (.iaload, 1) := by decide +kernel
theorem dX10_folds_183 : decode cX10_folds 183 = .ok (.iload 5, 2) := by decide +kernel
theorem dX10_folds_185 : decode cX10_folds 185 = .ok (.ifCond .eq 7, 3) := by decide +kernel
theorem dX10_folds_192 : decode cX10_folds 192 = .ok (.iconst 1, 1) := by decide +kernel
theorem dX10_folds_193 : decode cX10_folds 193 = .ok (.iadd, 1) := by decide +kernel
theorem dX10_folds_194 : decode cX10_folds 194 = .ok (.invokestatic 143, 3) := by decide +kernel
theorem dX10_folds_197 : decode cX10_folds 197 = .ok (.iastore, 1) := by decide +kernel
theorem dX10_folds_87 : decode cX10_folds 87 = .ok (.aload_n 0, 1) := by decide +kernel
theorem dX10_folds_88 : decode cX10_folds 88 = .ok (.getfield 98, 3) := by decide +kernel
theorem dX10_folds_91 : decode cX10_folds 91 = .ok (.iload 4, 2) := by decide +kernel
theorem dX10_folds_93 : decode cX10_folds 93 = .ok (.aload_n 0, 1) := by decide +kernel
theorem dX10_folds_94 : decode cX10_folds 94 = .ok (.getfield 98, 3) := by decide +kernel
theorem dX10_folds_97 : decode cX10_folds 97 = .ok (.iload 4, 2) := by decide +kernel
theorem dX10_folds_99 : decode cX10_folds 99 = .ok (.bipush 13, 2) := by decide +kernel
theorem dX10_folds_101 : decode cX10_folds 101 = .ok (.isub, 1) := by decide +kernel
theorem dX10_folds_102 : decode cX10_folds 102 = .ok (.iaload, 1) := by decide +kernel
theorem dX10_folds_103 : decode cX10_folds 103 = .ok (.aload_n 0, 1) := by decide +kernel
theorem dX10_folds_104 : decode cX10_folds 104 = .ok (.getfield 98, 3) := by decide +kernel
theorem dX10_folds_107 : decode cX10_folds 107 = .ok (.iload 4, 2) := by decide +kernel
theorem dX10_folds_109 : decode cX10_folds 109 = .ok (.iconst 1, 1) := by decide +kernel
theorem dX10_folds_110 : decode cX10_folds 110 = .ok (.isub, 1) := by decide +kernel
theorem dX10_folds_111 : decode cX10_folds 111 = .ok (.iaload, 1) := by decide +kernel
theorem dX10_folds_112 : decode cX10_folds 112 = .ok (.invokestatic 128, 3) := by decide +kernel
theorem dX10_folds_115 : decode cX10_folds 115 = .ok (.aload_n 0, 1) := by decide +kernel
theorem dX10_folds_116 : decode cX10_folds 116 = .ok (.getfield 98, 3) := by decide +kernel
theorem dX10_folds_119 : decode cX10_folds 119 = .ok (.iload 4, 2) := by decide +kernel
theorem dX10_folds_121 : decode cX10_folds 121 = .ok (.bipush 14, 2) := by decide +kernel
theorem dX10_folds_123 : decode cX10_folds 123 = .ok (.isub, 1) := by decide +kernel
theorem dX10_folds_124 : decode cX10_folds 124 = .ok (.iaload, 1) := by decide +kernel
theorem dX10_folds_125 : decode cX10_folds 125 = .ok (.iload 5, 2) := by decide +kernel
theorem dX10_folds_127 : decode cX10_folds 127 = .ok (.ifCond .eq 7, 3) := by decide +kernel
theorem dX10_folds_134 : decode cX10_folds 134 = .ok (.iconst 0, 1) := by decide +kernel
theorem dX10_folds_135 : decode cX10_folds 135 = .ok (.iadd, 1) := by decide +kernel
theorem dX10_folds_136 : decode cX10_folds 136 = .ok (.invokestatic 128, 3) := by decide +kernel
theorem dX10_folds_139 : decode cX10_folds 139 = .ok (.iastore, 1) := by decide +kernel
theorem dX10_folds_140 : decode cX10_folds 140 = .ok (.goto 58, 3) := by decide +kernel
theorem dX10_folds_76 : decode cX10_folds 76 = .ok (.iconst 1, 1) := by decide +kernel
theorem dX10_folds_77 : decode cX10_folds 77 = .ok (.goto 4, 3) := by decide +kernel
theorem dX10_folds_188 : decode cX10_folds 188 = .ok (.iconst 0, 1) := by decide +kernel
theorem dX10_folds_189 : decode cX10_folds 189 = .ok (.goto 4, 3) := by decide +kernel
theorem dX10_folds_130 : decode cX10_folds 130 = .ok (.iconst 1, 1) := by decide +kernel
theorem dX10_folds_131 : decode cX10_folds 131 = .ok (.goto 4, 3) := by decide +kernel
theorem dX10_folds_0 : decode cX10_folds 0 = .ok (.iconst 0, 1) := by decide +kernel
theorem dX10_folds_1 : decode cX10_folds 1 = .ok (.istore_n 2, 1) := by decide +kernel
theorem dX10_feed_23 : decode cX10_feed 23 = .ok (.iload 6, 2) := by decide +kernel
theorem dX10_feed_25 : decode cX10_feed 25 = .ok (.bipush 20, 2) := by decide +kernel
theorem dX10_feed_27 : decode cX10_feed 27 = .ok (.if_icmp .ge 86, 3) := by decide +kernel
theorem dX10_feed_113 : decode cX10_feed 113 = .ok (.aload_n 0, 1) := by decide +kernel
theorem dX10_feed_114 : decode cX10_feed 114 = .ok (.dup, 1) := by decide +kernel
theorem dX10_feed_115 : decode cX10_feed 115 = .ok (.getfield 321, 3) := by decide +kernel
theorem dX10_feed_118 : decode cX10_feed 118 = .ok (.bipush 20, 2) := by decide +kernel
theorem dX10_feed_120 : decode cX10_feed 120 = .ok (.iadd, 1) := by decide +kernel
theorem dX10_feed_121 : decode cX10_feed 121 = .ok (.putfield 321, 3) := by decide +kernel
theorem dX10_feed_124 : decode cX10_feed 124 = .ok (.aload_n 0, 1) := by decide +kernel
theorem dX10_feed_125 : decode cX10_feed 125 = .ok (.getfield 321, 3) := by decide +kernel
theorem dX10_feed_128 : decode cX10_feed 128 = .ok (.ireturn, 1) := by decide +kernel
theorem dX10_feed_30 : decode cX10_feed 30 = .ok (.iload 6, 2) := by decide +kernel
theorem dX10_feed_32 : decode cX10_feed 32 = .ok (.iconst 4, 1) := by decide +kernel
theorem dX10_feed_33 : decode cX10_feed 33 = .ok (.if_icmp .ge 7, 3) := by decide +kernel
theorem dX10_feed_40 : decode cX10_feed 40 = .ok (.iload 6, 2) := by decide +kernel
theorem dX10_feed_42 : decode cX10_feed 42 = .ok (.bipush 8, 2) := by decide +kernel
theorem dX10_feed_44 : decode cX10_feed 44 = .ok (.if_icmp .ge 7, 3) := by decide +kernel
theorem dX10_feed_51 : decode cX10_feed 51 = .ok (.iload 6, 2) := by decide +kernel
theorem dX10_feed_53 : decode cX10_feed 53 = .ok (.bipush 12, 2) := by decide +kernel
theorem dX10_feed_55 : decode cX10_feed 55 = .ok (.if_icmp .ge 7, 3) := by decide +kernel
theorem dX10_feed_62 : decode cX10_feed 62 = .ok (.iload 6, 2) := by decide +kernel
theorem dX10_feed_64 : decode cX10_feed 64 = .ok (.bipush 16, 2) := by decide +kernel
theorem dX10_feed_66 : decode cX10_feed 66 = .ok (.if_icmp .ge 8, 3) := by decide +kernel
theorem dX10_feed_74 : decode cX10_feed 74 = .ok (.iload 5, 2) := by decide +kernel
theorem dX10_feed_76 : decode cX10_feed 76 = .ok (.istore 7, 2) := by decide +kernel
theorem dX10_feed_78 : decode cX10_feed 78 = .ok (.aload_n 0, 1) := by decide +kernel
theorem dX10_feed_79 : decode cX10_feed 79 = .ok (.getfield 46, 3) := by decide +kernel
theorem dX10_feed_82 : decode cX10_feed 82 = .ok (.aload_n 0, 1) := by decide +kernel
theorem dX10_feed_83 : decode cX10_feed 83 = .ok (.getfield 321, 3) := by decide +kernel
theorem dX10_feed_86 : decode cX10_feed 86 = .ok (.iload 6, 2) := by decide +kernel
theorem dX10_feed_88 : decode cX10_feed 88 = .ok (.iadd, 1) := by decide +kernel
theorem dX10_feed_89 : decode cX10_feed 89 = .ok (.iload 7, 2) := by decide +kernel
theorem dX10_feed_91 : decode cX10_feed 91 = .ok (.bipush 24, 2) := by decide +kernel
theorem dX10_feed_93 : decode cX10_feed 93 = .ok (.bipush 8, 2) := by decide +kernel
theorem dX10_feed_95 : decode cX10_feed 95 = .ok (.iload 6, 2) := by decide +kernel
theorem dX10_feed_97 : decode cX10_feed 97 = .ok (.iconst 4, 1) := by decide +kernel
theorem dX10_feed_98 : decode cX10_feed 98 = .ok (.irem, 1) := by decide +kernel
theorem dX10_feed_99 : decode cX10_feed 99 = .ok (.imul, 1) := by decide +kernel
theorem dX10_feed_100 : decode cX10_feed 100 = .ok (.isub, 1) := by decide +kernel
theorem dX10_feed_101 : decode cX10_feed 101 = .ok (.ishr, 1) := by decide +kernel
theorem dX10_feed_102 : decode cX10_feed 102 = .ok (.sipush 255, 3) := by decide +kernel
theorem dX10_feed_105 : decode cX10_feed 105 = .ok (.iand, 1) := by decide +kernel
theorem dX10_feed_106 : decode cX10_feed 106 = .ok (.iastore, 1) := by decide +kernel
theorem dX10_feed_107 : decode cX10_feed 107 = .ok (.iinc 6 1, 3) := by decide +kernel
theorem dX10_feed_110 : decode cX10_feed 110 = .ok (.goto (-87), 3) := by decide +kernel
theorem dX10_feed_69 : decode cX10_feed 69 = .ok (.iload 4, 2) := by decide +kernel
theorem dX10_feed_71 : decode cX10_feed 71 = .ok (.goto 5, 3) := by decide +kernel
theorem dX10_feed_58 : decode cX10_feed 58 = .ok (.iload_n 3, 1) := by decide +kernel
theorem dX10_feed_59 : decode cX10_feed 59 = .ok (.goto 17, 3) := by decide +kernel
theorem dX10_feed_47 : decode cX10_feed 47 = .ok (.iload_n 2, 1) := by decide +kernel
theorem dX10_feed_48 : decode cX10_feed 48 = .ok (.goto 28, 3) := by decide +kernel
theorem dX10_feed_36 : decode cX10_feed 36 = .ok (.iload_n 1, 1) := by decide +kernel
theorem dX10_feed_37 : decode cX10_feed 37 = .ok (.goto 39, 3) := by decide +kernel
theorem dX10_feed_0 : decode cX10_feed 0 = .ok (.aload_n 0, 1) := by decide +kernel
theorem dX10_feed_1 : decode cX10_feed 1 = .ok (.iconst 0, 1) := by decide +kernel
theorem dX10_feed_2 : decode cX10_feed 2 = .ok (.putfield 110, 3) := by decide +kernel
theorem dX10_feed_5 : decode cX10_feed 5 = .ok (.aload_n 0, 1) := by decide +kernel
theorem dX10_feed_6 : decode cX10_feed 6 = .ok (.getfield 321, 3) := by decide +kernel
theorem dX10_feed_9 : decode cX10_feed 9 = .ok (.bipush 20, 2) := by decide +kernel
theorem dX10_feed_11 : decode cX10_feed 11 = .ok (.iadd, 1) := by decide +kernel
theorem dX10_feed_12 : decode cX10_feed 12 = .ok (.sipush 900, 3) := by decide +kernel
theorem dX10_feed_15 : decode cX10_feed 15 = .ok (.if_icmp .le 5, 3) := by decide +kernel
theorem dX10_feed_20 : decode cX10_feed 20 = .ok (.iconst 0, 1) := by decide +kernel
theorem dX10_feed_21 : decode cX10_feed 21 = .ok (.istore 6, 2) := by decide +kernel
theorem dX10_feed_18 : decode cX10_feed 18 = .ok (.iconst (-1), 1) := by decide +kernel
theorem dX10_feed_19 : decode cX10_feed 19 = .ok (.ireturn, 1) := by decide +kernel
end
section
-- 99i.refpit.lean.txt
theorem okPt.at {pi : Nat → Int} (h : okPt pi) {k : Nat} (hk : k < 12) : (0 ≤ pi (90 * k) ∧ pi (90 * k) ≤ 3) ∧ (0 ≤ pi (90 * k + 2) ∧ pi (90 * k + 2) ≤ 12) := ⟨(h k hk).1, (h k hk).2.1⟩

set_option maxRecDepth 100000 in
set_option maxHeartbeats 4000000 in
theorem c_X10_pitMany (l : Launch) (D : va_G) (A : Nat → Prop) (cs : Nat → ClassId) (tt : Nat) (N : Nat) (ad : Nat → Nat) (g : Nat → va_E) (i : Nat) (hN : i + 30 ≤ N) (F : Nat → Int) (hg : g i = mC ad i F) (pi : Nat → Int) (ha12 : g (i + 12) = iA cs 1080 pi) (hPt : okPt pi) (kp : Nat) (hkp : kp < 6) : zM l yX10_pitMany cX10_pitMany 2 (some .int) ({ frames := 1, cells := 0, slots := 0, locals := 60 } : Room) D A cs tt N ad g [.ref (ad i), .int (zI ((kp : Int)))] (rI0 N ad fun z g' => z = pi (90 * kp + 2) ∧ g = g') := by
  have hay1 : zAt ad (i) (ad i) := rfl
  have hay2 : zAt ad (i + 12) (ad (i + 12)) := rfl
  refine z_of (by decide) (Nat.le_of_ble_eq_true rfl) ?_
  intro pZ eZ sZ mZ below meth cZ C hr hlk hnm
  refine z_lv (lv' := [(0, .ref (ad i)), (1, .int (zI ((kp : Int))))]) [0, 1] rfl ?_
  refine z_aload_n C 0 dX10_pitMany_0 rfl ?_
  refine z_get (v := .ref (ad (i + 12))) C (lt_A0 hN rfl) hay1 hg rfl inA_X10 11 (by decide) q_1470 rfl rfl dX10_pitMany_1 ?_
  refine z_bipush (z := 90) C dX10_pitMany_4 (by decide) ?_
  refine z_iload_n C 1 dX10_pitMany_6 rfl ?_
  refine z_imul C dX10_pitMany_7 ?_
  refine z_iconst (z := 2) C dX10_pitMany_8 rfl ?_
  refine z_iadd C dX10_pitMany_9 ?_
  refine z_iald C (lt_A (c := 12) hN rfl) hay2 ha12 (90 * kp + 2) (by omega) (by omega) (by decide) dX10_pitMany_10 ?_
  exact z_iret C hr hlk dX10_pitMany_11 (by decide) (by decide) ⟨_, rfl, rfl, rfl, rfl, rfl⟩

set_option maxRecDepth 100000 in
set_option maxHeartbeats 4000000 in
theorem c_X10_inPit (l : Launch) (D : va_G) (A : Nat → Prop) (cs : Nat → ClassId) (tt : Nat) (N : Nat) (ad : Nat → Nat) (g : Nat → va_E) (i : Nat) (hN : i + 30 ≤ N) (F : Nat → Int) (hg : g i = mC ad i F) (pi : Nat → Int) (ha12 : g (i + 12) = iA cs 1080 pi) (hPt : okPt pi) (kp : Nat) (hkp : kp < 6) (zl : Int) (hzl : 0 ≤ zl ∧ zl ≤ 11) (zf : Int) (hzf : 0 ≤ zf ∧ zf ≤ 6) : zM l yX10_inPit cX10_inPit 4 (some .int) ({ frames := 1, cells := 0, slots := 0, locals := 60 } : Room) D A cs tt N ad g [.ref (ad i), .int (zI ((kp : Int))), .int (zI (zl)), .int (zI (zf))] (rI0 N ad fun z g' => z = pi (90 * kp + 3 + 7 * zl.toNat + zf.toNat) ∧ g = g') := by
  have hay1 : zAt ad (i) (ad i) := rfl
  have hay2 : zAt ad (i + 12) (ad (i + 12)) := rfl
  refine z_of (by decide) (Nat.le_of_ble_eq_true rfl) ?_
  intro pZ eZ sZ mZ below meth cZ C hr hlk hnm
  refine z_lv (lv' := [(0, .ref (ad i)), (1, .int (zI ((kp : Int)))), (2, .int (zI (zl))), (3, .int (zI (zf)))]) [0, 1, 2, 3] rfl ?_
  refine z_aload_n C 0 dX10_inPit_0 rfl ?_
  refine z_get (v := .ref (ad (i + 12))) C (lt_A0 hN rfl) hay1 hg rfl inA_X10 11 (by decide) q_1470 rfl rfl dX10_inPit_1 ?_
  refine z_bipush (z := 90) C dX10_inPit_4 (by decide) ?_
  refine z_iload_n C 1 dX10_inPit_6 rfl ?_
  refine z_imul C dX10_inPit_7 ?_
  refine z_iconst (z := 3) C dX10_inPit_8 rfl ?_
  refine z_iadd C dX10_inPit_9 ?_
  refine z_bipush (z := 7) C dX10_inPit_10 (by decide) ?_
  refine z_iload_n C 2 dX10_inPit_12 rfl ?_
  refine z_imul C dX10_inPit_13 ?_
  refine z_iadd C dX10_inPit_14 ?_
  refine z_iload_n C 3 dX10_inPit_15 rfl ?_
  refine z_iadd C dX10_inPit_16 ?_
  refine z_iald C (lt_A (c := 12) hN rfl) hay2 ha12 (90 * kp + 3 + 7 * zl.toNat + zf.toNat) (by omega) (by omega) (by decide) dX10_inPit_17 ?_
  exact z_iret C hr hlk dX10_inPit_18 (by decide) (by decide) ⟨_, rfl, rfl, rfl, rfl, rfl⟩

set_option maxRecDepth 100000 in
set_option maxHeartbeats 4000000 in
theorem c_X10_pitOf_a (l : Launch) (D : va_G) (A : Nat → Prop) (cs : Nat → ClassId) (tt : Nat) (N : Nat) (ad : Nat → Nat) (g : Nat → va_E) (i : Nat) (hN : i + 30 ≤ N) (x : Int) (hx : 0 ≤ x ∧ x ≤ 512) (F r : Nat → Int) {st op ai fa mu tb tp : Nat → Int} (hM : okMr cs ad g i x F r st op ai fa mu tb tp) (hPl : F 25 = 0 ∧ F 26 = -1 ∧ F 27 = -1 ∧ F 29 = 0) (n0 : Nat) (hn0 : n0 < 6) (z1 : Int) (hz1 : -2147483648 ≤ z1 ∧ z1 ≤ 2147483647) : zM l yX10_pitOf cX10_pitOf 3 (some .int) ({ frames := 3, cells := 0, slots := 0, locals := 180 } : Room) D A cs tt N ad g [.ref (ad i), .int (zI ((n0 : Int))), .int (zI (z1))] (rI0 N ad fun q g' => (-2147483648 ≤ q ∧ q ≤ 2147483647) ∧ (∃ F' r' : Nat → Int, okMr cs ad g' i (x + 1) F' r' st op ai fa mu tb tp ∧ (F' 13 = F 13 ∧ F' 14 = F 14 ∧ F' 15 = F 15 ∧ F' 16 = F 16 ∧ F' 17 = F 17 ∧ F' 18 = F 18 ∧ F' 19 = F 19 ∧ F' 20 = F 20 ∧ F' 21 = F 21 ∧ F' 23 = F 23 ∧ F' 24 = F 24) ∧ (F' 25 = 0 ∧ F' 26 = -1 ∧ F' 27 = -1 ∧ F' 29 = 0) ∧ (∀ j, j < 350 ∨ 700 ≤ j → r' j = r j)) ∧ ∀ j, j < i ∨ i + 30 ≤ j ∨ (i + 8 ≤ j ∧ j ≤ i + 12) → g' j = g j) := by
  obtain ⟨hg, ⟨⟨e13, e14, e25, e27, e29⟩, k15, k16, k17, k18, k19, k20, k23, k21⟩, hRD, hTx, hA, ns, nh, nd, rf, pi, te, ki, li, ok1, ok2, fo, dd, dps, ⟨ha1, ha2, ha3, ha4, ha5, ha6, ha7, ha8, ha9, ha10, ha11, ha12, ha13, ha14, ha15, ha24, ha25, ha26, ha27, ha28, ha29⟩, hEv, hPt, hns, htp⟩ := id hM
  obtain ⟨-, hop, hai, hfa, hT, hT1⟩ := id hEv
  have hay1 : zAt ad (i) (ad i) := rfl
  have hay2 : zAt ad (i + 1) (ad (i + 1)) := rfl
  have hay3 : zAt ad (i + 2) (ad (i + 2)) := rfl
  have hay4 : zAt ad (i + 3) (ad (i + 3)) := rfl
  have hay5 : zAt ad (i + 4) (ad (i + 4)) := rfl
  have hay6 : zAt ad (i + 5) (ad (i + 5)) := rfl
  have hay7 : zAt ad (i + 6) (ad (i + 6)) := rfl
  have hay8 : zAt ad (i + 7) (ad (i + 7)) := rfl
  have hay9 : zAt ad (i + 8) (ad (i + 8)) := rfl
  have hay10 : zAt ad (i + 9) (ad (i + 9)) := rfl
  have hay11 : zAt ad (i + 10) (ad (i + 10)) := rfl
  have hay12 : zAt ad (i + 11) (ad (i + 11)) := rfl
  have hay13 : zAt ad (i + 12) (ad (i + 12)) := rfl
  have hay14 : zAt ad (i + 13) (ad (i + 13)) := rfl
  have hay15 : zAt ad (i + 14) (ad (i + 14)) := rfl
  have hay16 : zAt ad (i + 15) (ad (i + 15)) := rfl
  have hay17 : zAt ad (i + 24) (ad (i + 24)) := rfl
  have hay18 : zAt ad (i + 25) (ad (i + 25)) := rfl
  have hay19 : zAt ad (i + 26) (ad (i + 26)) := rfl
  have hay20 : zAt ad (i + 27) (ad (i + 27)) := rfl
  have hay21 : zAt ad (i + 28) (ad (i + 28)) := rfl
  have hay22 : zAt ad (i + 29) (ad (i + 29)) := rfl
  obtain ⟨⟨hsyy23, htyy23, hnyy23, hpyy23⟩, hlyy23⟩ := okA.at0 hA
  simp only [Nat.zero_add] at hsyy23 hnyy23 hpyy23
  have hmn : ∀ s, s < 4 → 0 ≤ r (6 + 86 * s) ∧ r (6 + 86 * s) ≤ 12 := fun s hs => (hsyy23 s hs).1
  have h5 : 0 ≤ r 5 ∧ r 5 ≤ 6 := hpyy23
  obtain ⟨hp25, hp26, hp27, hp29⟩ := id hPl
  refine z_of (by decide) (Nat.le_of_ble_eq_true rfl) ?_
  intro pZ eZ sZ mZ below meth cZ C hr hlk hnm
  refine z_lv (lv' := [(0, .ref (ad i)), (1, .int (zI ((n0 : Int)))), (2, .int (zI (z1)))]) [0, 1, 2] rfl ?_
  refine z_aload_n C 0 dX10_pitOf_0 rfl ?_
  refine z_iconst (z := 0) C dX10_pitOf_1 rfl ?_
  refine z_put (fs' := mF ad (i) (uZ F 12 (0))) C (lt_A0 hN rfl) hay1 hg tyX10 tyX10_ok nmX10 rfl inA_X10 12 (by decide) q_1471 rfl rfl rfl rfl (Nat.le_of_ble_eq_true rfl) rfl dX10_pitOf_2 (fun gy24 egy25 => ?_)
  have hgy26 := up_s egy25
  refine z_aload_n C 0 dX10_pitOf_5 rfl ?_
  refine z_iload_n C 1 dX10_pitOf_6 rfl ?_
  have hgy27 := up_n egy25 ha1 (ne_o (i := i) (c := 1) (d := 0) rfl)
  have hey29 : (uZ F 12 (0)) 12 = 0 := (uZ_s _ _ _)
  refine z_cV (As := [.int (zI ((n0 : Int)))]) (rest := []) (ci := 12) C (c_X10_isPit l D A cs tt N ad _ i hN _ hgy26 _ hgy27 (by omega) h5 ((n0 : Int)) (by omega)) (lt_A0 hN rfl) hay1 hgy26 rfl rfl mv_yX10_isPit q_2027 hd_yX10_isPit (by decide) (Nat.le_of_ble_eq_true rfl) (by decide) dX10_pitOf_7 rfl (kI0 fun vy28 gvy28 hvy28 => ?_)
  obtain ⟨hrvy28, ⟨Fvy28, hcvy28, htvy28, hFvy28⟩, hfvy28⟩ := hvy28
  rcases (show vy28 = 1 ∨ vy28 = 0 by omega) with rfl | rfl
  · have hxvy28 := hrvy28.2 rfl
    refine z_if_eq (tgt := 27) C dX10_pitOf_10 (by decide) (by omega) (fun h => absurd h (by omega)) (fun _ => ?_)
    refine z_aload_n C 0 dX10_pitOf_13 rfl ?_
    refine z_iload_n C 2 dX10_pitOf_14 rfl ?_
    refine z_iconst (z := 0) C dX10_pitOf_15 rfl ?_
    refine z_iconst (z := 2) C dX10_pitOf_16 rfl ?_
    refine z_cS (As := [.int (zI (z1)), .int (zI (0)), .int (zI (2))]) (rest := [.ref (ad i)]) C (c_X10_within l D A cs tt N ad _ (z1) (by omega) (0) (by omega) (2) (by omega)) ms_yX10_within q_1686 hd_yX10_within (by decide) (Nat.le_of_ble_eq_true rfl) (by decide) dX10_pitOf_17 rfl (kI0 fun vy30 gvy30 hvy30 => ?_)
    obtain ⟨hvy30, rfl⟩ := hvy30
    rcases hvy30 with ⟨rfl, hxvy30⟩ | ⟨rfl, hxvy30⟩
    · refine z_iconst (z := 1) C dX10_pitOf_20 rfl ?_
      have hey32 : Fvy28 12 = Fvy28 12 := rfl
      refine z_cV (As := [.int (zI (1)), .int (zI (1))]) (rest := []) (ci := 12) C (c_X10_right l D A cs tt N ad _ i hN _ hcvy28 (by omega) (1) (by omega) (1) (by omega)) (lt_A0 hN rfl) hay1 hcvy28 rfl rfl mv_yX10_right q_1648 hd_yX10_right (by decide) (Nat.le_of_ble_eq_true rfl) (by decide) dX10_pitOf_21 rfl (kI0 fun vy31 gvy31 hvy31 => ?_)
      obtain ⟨hrvy31, ⟨Fvy31, hcvy31, htvy31, hFvy31⟩, hfvy31⟩ := hvy31
      rcases (show vy31 = 1 ∨ vy31 = 0 by omega) with rfl | rfl
      · refine z_if_ne (tgt := 29) C dX10_pitOf_24 (by decide) (by omega) (fun _ => ?_) (fun h => absurd h (by omega))
        refine z_iload_n C 2 dX10_pitOf_29 rfl ?_
        refine z_if_ne (tgt := 45) C dX10_pitOf_30 (by decide) (by omega) (fun hby33 => ?_) (fun hby33 => ?_)
        · refine z_iload_n C 2 dX10_pitOf_45 rfl ?_
          refine z_iconst (z := 1) C dX10_pitOf_46 rfl ?_
          refine z_icmp_ne (tgt := 58) C dX10_pitOf_47 (by decide) (by omega) (by omega) (fun hby34 => ?_) (fun hby34 => ?_)
          · refine z_aload_n C 0 dX10_pitOf_58 rfl ?_
            refine z_get (v := .ref (ad (i + 12))) C (lt_A0 hN rfl) hay1 hcvy31 rfl inA_X10 11 (by decide) q_1470 rfl rfl dX10_pitOf_59 ?_
            refine z_bipush (z := 90) C dX10_pitOf_62 (by decide) ?_
            refine z_iload_n C 1 dX10_pitOf_64 rfl ?_
            refine z_imul C dX10_pitOf_65 ?_
            refine z_iconst (z := 1) C dX10_pitOf_66 rfl ?_
            refine z_iadd C dX10_pitOf_67 ?_
            have hgy35 := up_n egy25 ha12 (ne_o (i := i) (c := 12) (d := 0) rfl)
            have hgy36 := (hfvy28 (i + 12) (ne_o (i := i) (c := 12) (d := 0) rfl)).trans hgy35
            have hgy37 := (hfvy31 (i + 12) (ne_o (i := i) (c := 12) (d := 0) rfl)).trans hgy36
            refine z_iald C (lt_A (c := 12) hN rfl) hay13 hgy37 (((90 * (n0 : Int)) + 1).toNat) (by omega) (by omega) (by decide) dX10_pitOf_68 ?_
            obtain ⟨xy38, exy39, hxy40⟩ := zI_of (zI (pi (((90 * (n0 : Int)) + 1).toNat)))
            rw [exy39]
            have hgy41 := (hfvy28 (i + 1) (ne_o (i := i) (c := 1) (d := 0) rfl)).trans hgy27
            have hgy42 := (hfvy31 (i + 1) (ne_o (i := i) (c := 1) (d := 0) rfl)).trans hgy41
            have hFy43 : ∀ f, f ≠ 12 → Fvy31 f = F f := fun f n12 => ((hFvy31 f n12).trans ((hFvy28 f n12).trans ((uZ_n _ _ n12).trans rfl)))
            have hey44 : Fvy31 13 = F 13 := ((hFvy31 13 (by decide)).trans ((hFvy28 13 (by decide)).trans (fn rfl (by decide))))
            have hey45 : Fvy31 14 = F 14 := ((hFvy31 14 (by decide)).trans ((hFvy28 14 (by decide)).trans (fn rfl (by decide))))
            have hey46 : Fvy31 15 = F 15 := ((hFvy31 15 (by decide)).trans ((hFvy28 15 (by decide)).trans (fn rfl (by decide))))
            have hey47 : Fvy31 16 = F 16 := ((hFvy31 16 (by decide)).trans ((hFvy28 16 (by decide)).trans (fn rfl (by decide))))
            have hey48 : Fvy31 17 = F 17 := ((hFvy31 17 (by decide)).trans ((hFvy28 17 (by decide)).trans (fn rfl (by decide))))
            have hey49 : Fvy31 18 = F 18 := ((hFvy31 18 (by decide)).trans ((hFvy28 18 (by decide)).trans (fn rfl (by decide))))
            have hey50 : Fvy31 19 = F 19 := ((hFvy31 19 (by decide)).trans ((hFvy28 19 (by decide)).trans (fn rfl (by decide))))
            have hey51 : Fvy31 20 = F 20 := ((hFvy31 20 (by decide)).trans ((hFvy28 20 (by decide)).trans (fn rfl (by decide))))
            have hey52 : Fvy31 21 = F 21 := ((hFvy31 21 (by decide)).trans ((hFvy28 21 (by decide)).trans (fn rfl (by decide))))
            have hey53 : Fvy31 23 = F 23 := ((hFvy31 23 (by decide)).trans ((hFvy28 23 (by decide)).trans (fn rfl (by decide))))
            have hey54 : Fvy31 25 = F 25 := ((hFvy31 25 (by decide)).trans ((hFvy28 25 (by decide)).trans (fn rfl (by decide))))
            have hey55 : Fvy31 27 = F 27 := ((hFvy31 27 (by decide)).trans ((hFvy28 27 (by decide)).trans (fn rfl (by decide))))
            have hey56 : Fvy31 28 = F 28 := ((hFvy31 28 (by decide)).trans ((hFvy28 28 (by decide)).trans (fn rfl (by decide))))
            have hey57 : Fvy31 29 = F 29 := ((hFvy31 29 (by decide)).trans ((hFvy28 29 (by decide)).trans (fn rfl (by decide))))
            have hKy58 : okF Fvy31 := okF.mv hM.2.1 hey44 hey45 hey46 hey47 hey48 hey49 hey50 hey51 hey52 hey53 hey54 hey55 hey56 hey57
            have hMy59 : okMr cs ad gvy31 i (x + 1) Fvy31 r st op ai fa mu tb tp := okMr.upd hM hcvy31 hKy58 (fun f a => hFy43 f (by omega)) hgy42 (hA.mono (by omega)) (fun j a b => by
                exact Or.inl (by rw [hfvy31 _ (by omega)]; rw [hfvy28 _ (by omega)]; rw [egy25, va_up_ne _ _ (by omega)]))
            have hkpy60 : Fvy31 13 = F 13 := ((hFvy31 13 (by decide)).trans ((hFvy28 13 (by decide)).trans (fn rfl (by decide))))
            have hkpy61 : Fvy31 14 = F 14 := ((hFvy31 14 (by decide)).trans ((hFvy28 14 (by decide)).trans (fn rfl (by decide))))
            have hkpy62 : Fvy31 15 = F 15 := ((hFvy31 15 (by decide)).trans ((hFvy28 15 (by decide)).trans (fn rfl (by decide))))
            have hkpy63 : Fvy31 16 = F 16 := ((hFvy31 16 (by decide)).trans ((hFvy28 16 (by decide)).trans (fn rfl (by decide))))
            have hkpy64 : Fvy31 17 = F 17 := ((hFvy31 17 (by decide)).trans ((hFvy28 17 (by decide)).trans (fn rfl (by decide))))
            have hkpy65 : Fvy31 18 = F 18 := ((hFvy31 18 (by decide)).trans ((hFvy28 18 (by decide)).trans (fn rfl (by decide))))
            have hkpy66 : Fvy31 19 = F 19 := ((hFvy31 19 (by decide)).trans ((hFvy28 19 (by decide)).trans (fn rfl (by decide))))
            have hkpy67 : Fvy31 20 = F 20 := ((hFvy31 20 (by decide)).trans ((hFvy28 20 (by decide)).trans (fn rfl (by decide))))
            have hkpy68 : Fvy31 21 = F 21 := ((hFvy31 21 (by decide)).trans ((hFvy28 21 (by decide)).trans (fn rfl (by decide))))
            have hkpy69 : Fvy31 23 = F 23 := ((hFvy31 23 (by decide)).trans ((hFvy28 23 (by decide)).trans (fn rfl (by decide))))
            have hkpy70 : Fvy31 24 = F 24 := ((hFvy31 24 (by decide)).trans ((hFvy28 24 (by decide)).trans (fn rfl (by decide))))
            have hkpy71 : Fvy31 25 = F 25 := ((hFvy31 25 (by decide)).trans ((hFvy28 25 (by decide)).trans (fn rfl (by decide))))
            have hkpy72 : Fvy31 26 = F 26 := ((hFvy31 26 (by decide)).trans ((hFvy28 26 (by decide)).trans (fn rfl (by decide))))
            have hkpy73 : Fvy31 27 = F 27 := ((hFvy31 27 (by decide)).trans ((hFvy28 27 (by decide)).trans (fn rfl (by decide))))
            have hkpy74 : Fvy31 29 = F 29 := ((hFvy31 29 (by decide)).trans ((hFvy28 29 (by decide)).trans (fn rfl (by decide))))
            exact z_iret C hr hlk dX10_pitOf_69 (by decide) (by decide) ⟨xy38, rfl, rfl, rfl, by omega, ⟨_, _, hMy59, ⟨hkpy60, hkpy61, hkpy62, hkpy63, hkpy64, hkpy65, hkpy66, hkpy67, hkpy68, hkpy69, hkpy70⟩, ⟨(hkpy71.trans hp25), (hkpy72.trans hp26), (hkpy73.trans hp27), (hkpy74.trans hp29)⟩, (fun j _ => rfl)⟩, fun j j1 => by rw [hfvy31 _ (by omega)]; rw [hfvy28 _ (by omega)]; rw [egy25, va_up_ne _ _ (by omega)]⟩
          · refine z_aload_n C 0 dX10_pitOf_50 rfl ?_
            refine z_iload_n C 1 dX10_pitOf_51 rfl ?_
            have hgy75 := up_n egy25 ha12 (ne_o (i := i) (c := 12) (d := 0) rfl)
            have hgy76 := (hfvy28 (i + 12) (ne_o (i := i) (c := 12) (d := 0) rfl)).trans hgy75
            have hgy77 := (hfvy31 (i + 12) (ne_o (i := i) (c := 12) (d := 0) rfl)).trans hgy76
            have hpkn0 := okPt.at hPt (k := n0) (by omega)
            refine z_cV (As := [.int (zI ((n0 : Int)))]) (rest := []) (ci := 12) C (c_X10_pitMany l D A cs tt N ad _ i hN _ hcvy31 _ hgy77 hPt n0 (by omega)) (lt_A0 hN rfl) hay1 hcvy31 rfl rfl mv_yX10_pitMany q_2031 hd_yX10_pitMany (by decide) (Nat.le_of_ble_eq_true rfl) (by decide) dX10_pitOf_52 rfl (kI0 fun vy78 gvy78 hvy78 => ?_)
            obtain ⟨rfl, rfl⟩ := hvy78
            refine z_goto (tgt := 69) C dX10_pitOf_55 (by decide) ?_
            have hgy79 := (hfvy28 (i + 1) (ne_o (i := i) (c := 1) (d := 0) rfl)).trans hgy27
            have hgy80 := (hfvy31 (i + 1) (ne_o (i := i) (c := 1) (d := 0) rfl)).trans hgy79
            have hFy81 : ∀ f, f ≠ 12 → Fvy31 f = F f := fun f n12 => ((hFvy31 f n12).trans ((hFvy28 f n12).trans ((uZ_n _ _ n12).trans rfl)))
            have hey82 : Fvy31 13 = F 13 := ((hFvy31 13 (by decide)).trans ((hFvy28 13 (by decide)).trans (fn rfl (by decide))))
            have hey83 : Fvy31 14 = F 14 := ((hFvy31 14 (by decide)).trans ((hFvy28 14 (by decide)).trans (fn rfl (by decide))))
            have hey84 : Fvy31 15 = F 15 := ((hFvy31 15 (by decide)).trans ((hFvy28 15 (by decide)).trans (fn rfl (by decide))))
            have hey85 : Fvy31 16 = F 16 := ((hFvy31 16 (by decide)).trans ((hFvy28 16 (by decide)).trans (fn rfl (by decide))))
            have hey86 : Fvy31 17 = F 17 := ((hFvy31 17 (by decide)).trans ((hFvy28 17 (by decide)).trans (fn rfl (by decide))))
            have hey87 : Fvy31 18 = F 18 := ((hFvy31 18 (by decide)).trans ((hFvy28 18 (by decide)).trans (fn rfl (by decide))))
            have hey88 : Fvy31 19 = F 19 := ((hFvy31 19 (by decide)).trans ((hFvy28 19 (by decide)).trans (fn rfl (by decide))))
            have hey89 : Fvy31 20 = F 20 := ((hFvy31 20 (by decide)).trans ((hFvy28 20 (by decide)).trans (fn rfl (by decide))))
            have hey90 : Fvy31 21 = F 21 := ((hFvy31 21 (by decide)).trans ((hFvy28 21 (by decide)).trans (fn rfl (by decide))))
            have hey91 : Fvy31 23 = F 23 := ((hFvy31 23 (by decide)).trans ((hFvy28 23 (by decide)).trans (fn rfl (by decide))))
            have hey92 : Fvy31 25 = F 25 := ((hFvy31 25 (by decide)).trans ((hFvy28 25 (by decide)).trans (fn rfl (by decide))))
            have hey93 : Fvy31 27 = F 27 := ((hFvy31 27 (by decide)).trans ((hFvy28 27 (by decide)).trans (fn rfl (by decide))))
            have hey94 : Fvy31 28 = F 28 := ((hFvy31 28 (by decide)).trans ((hFvy28 28 (by decide)).trans (fn rfl (by decide))))
            have hey95 : Fvy31 29 = F 29 := ((hFvy31 29 (by decide)).trans ((hFvy28 29 (by decide)).trans (fn rfl (by decide))))
            have hKy96 : okF Fvy31 := okF.mv hM.2.1 hey82 hey83 hey84 hey85 hey86 hey87 hey88 hey89 hey90 hey91 hey92 hey93 hey94 hey95
            have hMy97 : okMr cs ad gvy31 i (x + 1) Fvy31 r st op ai fa mu tb tp := okMr.upd hM hcvy31 hKy96 (fun f a => hFy81 f (by omega)) hgy80 (hA.mono (by omega)) (fun j a b => by
                exact Or.inl (by rw [hfvy31 _ (by omega)]; rw [hfvy28 _ (by omega)]; rw [egy25, va_up_ne _ _ (by omega)]))
            have hkpy98 : Fvy31 13 = F 13 := ((hFvy31 13 (by decide)).trans ((hFvy28 13 (by decide)).trans (fn rfl (by decide))))
            have hkpy99 : Fvy31 14 = F 14 := ((hFvy31 14 (by decide)).trans ((hFvy28 14 (by decide)).trans (fn rfl (by decide))))
            have hkpy100 : Fvy31 15 = F 15 := ((hFvy31 15 (by decide)).trans ((hFvy28 15 (by decide)).trans (fn rfl (by decide))))
            have hkpy101 : Fvy31 16 = F 16 := ((hFvy31 16 (by decide)).trans ((hFvy28 16 (by decide)).trans (fn rfl (by decide))))
            have hkpy102 : Fvy31 17 = F 17 := ((hFvy31 17 (by decide)).trans ((hFvy28 17 (by decide)).trans (fn rfl (by decide))))
            have hkpy103 : Fvy31 18 = F 18 := ((hFvy31 18 (by decide)).trans ((hFvy28 18 (by decide)).trans (fn rfl (by decide))))
            have hkpy104 : Fvy31 19 = F 19 := ((hFvy31 19 (by decide)).trans ((hFvy28 19 (by decide)).trans (fn rfl (by decide))))
            have hkpy105 : Fvy31 20 = F 20 := ((hFvy31 20 (by decide)).trans ((hFvy28 20 (by decide)).trans (fn rfl (by decide))))
            have hkpy106 : Fvy31 21 = F 21 := ((hFvy31 21 (by decide)).trans ((hFvy28 21 (by decide)).trans (fn rfl (by decide))))
            have hkpy107 : Fvy31 23 = F 23 := ((hFvy31 23 (by decide)).trans ((hFvy28 23 (by decide)).trans (fn rfl (by decide))))
            have hkpy108 : Fvy31 24 = F 24 := ((hFvy31 24 (by decide)).trans ((hFvy28 24 (by decide)).trans (fn rfl (by decide))))
            have hkpy109 : Fvy31 25 = F 25 := ((hFvy31 25 (by decide)).trans ((hFvy28 25 (by decide)).trans (fn rfl (by decide))))
            have hkpy110 : Fvy31 26 = F 26 := ((hFvy31 26 (by decide)).trans ((hFvy28 26 (by decide)).trans (fn rfl (by decide))))
            have hkpy111 : Fvy31 27 = F 27 := ((hFvy31 27 (by decide)).trans ((hFvy28 27 (by decide)).trans (fn rfl (by decide))))
            have hkpy112 : Fvy31 29 = F 29 := ((hFvy31 29 (by decide)).trans ((hFvy28 29 (by decide)).trans (fn rfl (by decide))))
            exact z_iret C hr hlk dX10_pitOf_69 (by decide) (by decide) ⟨pi (90 * n0 + 2), rfl, rfl, rfl, by omega, ⟨_, _, hMy97, ⟨hkpy98, hkpy99, hkpy100, hkpy101, hkpy102, hkpy103, hkpy104, hkpy105, hkpy106, hkpy107, hkpy108⟩, ⟨(hkpy109.trans hp25), (hkpy110.trans hp26), (hkpy111.trans hp27), (hkpy112.trans hp29)⟩, (fun j _ => rfl)⟩, fun j j1 => by rw [hfvy31 _ (by omega)]; rw [hfvy28 _ (by omega)]; rw [egy25, va_up_ne _ _ (by omega)]⟩
        · refine z_aload_n C 0 dX10_pitOf_33 rfl ?_
          refine z_get (v := .ref (ad (i + 12))) C (lt_A0 hN rfl) hay1 hcvy31 rfl inA_X10 11 (by decide) q_1470 rfl rfl dX10_pitOf_34 ?_
          refine z_bipush (z := 90) C dX10_pitOf_37 (by decide) ?_
          refine z_iload_n C 1 dX10_pitOf_39 rfl ?_
          refine z_imul C dX10_pitOf_40 ?_
          have hgy113 := up_n egy25 ha12 (ne_o (i := i) (c := 12) (d := 0) rfl)
          have hgy114 := (hfvy28 (i + 12) (ne_o (i := i) (c := 12) (d := 0) rfl)).trans hgy113
          have hgy115 := (hfvy31 (i + 12) (ne_o (i := i) (c := 12) (d := 0) rfl)).trans hgy114
          refine z_iald C (lt_A (c := 12) hN rfl) hay13 hgy115 ((90 * (n0 : Int)).toNat) (by omega) (by omega) (by decide) dX10_pitOf_41 ?_
          refine z_goto (tgt := 69) C dX10_pitOf_42 (by decide) ?_
          obtain ⟨xy116, exy117, hxy118⟩ := zI_of (zI (pi ((90 * (n0 : Int)).toNat)))
          rw [exy117]
          have hgy119 := (hfvy28 (i + 1) (ne_o (i := i) (c := 1) (d := 0) rfl)).trans hgy27
          have hgy120 := (hfvy31 (i + 1) (ne_o (i := i) (c := 1) (d := 0) rfl)).trans hgy119
          have hFy121 : ∀ f, f ≠ 12 → Fvy31 f = F f := fun f n12 => ((hFvy31 f n12).trans ((hFvy28 f n12).trans ((uZ_n _ _ n12).trans rfl)))
          have hey122 : Fvy31 13 = F 13 := ((hFvy31 13 (by decide)).trans ((hFvy28 13 (by decide)).trans (fn rfl (by decide))))
          have hey123 : Fvy31 14 = F 14 := ((hFvy31 14 (by decide)).trans ((hFvy28 14 (by decide)).trans (fn rfl (by decide))))
          have hey124 : Fvy31 15 = F 15 := ((hFvy31 15 (by decide)).trans ((hFvy28 15 (by decide)).trans (fn rfl (by decide))))
          have hey125 : Fvy31 16 = F 16 := ((hFvy31 16 (by decide)).trans ((hFvy28 16 (by decide)).trans (fn rfl (by decide))))
          have hey126 : Fvy31 17 = F 17 := ((hFvy31 17 (by decide)).trans ((hFvy28 17 (by decide)).trans (fn rfl (by decide))))
          have hey127 : Fvy31 18 = F 18 := ((hFvy31 18 (by decide)).trans ((hFvy28 18 (by decide)).trans (fn rfl (by decide))))
          have hey128 : Fvy31 19 = F 19 := ((hFvy31 19 (by decide)).trans ((hFvy28 19 (by decide)).trans (fn rfl (by decide))))
          have hey129 : Fvy31 20 = F 20 := ((hFvy31 20 (by decide)).trans ((hFvy28 20 (by decide)).trans (fn rfl (by decide))))
          have hey130 : Fvy31 21 = F 21 := ((hFvy31 21 (by decide)).trans ((hFvy28 21 (by decide)).trans (fn rfl (by decide))))
          have hey131 : Fvy31 23 = F 23 := ((hFvy31 23 (by decide)).trans ((hFvy28 23 (by decide)).trans (fn rfl (by decide))))
          have hey132 : Fvy31 25 = F 25 := ((hFvy31 25 (by decide)).trans ((hFvy28 25 (by decide)).trans (fn rfl (by decide))))
          have hey133 : Fvy31 27 = F 27 := ((hFvy31 27 (by decide)).trans ((hFvy28 27 (by decide)).trans (fn rfl (by decide))))
          have hey134 : Fvy31 28 = F 28 := ((hFvy31 28 (by decide)).trans ((hFvy28 28 (by decide)).trans (fn rfl (by decide))))
          have hey135 : Fvy31 29 = F 29 := ((hFvy31 29 (by decide)).trans ((hFvy28 29 (by decide)).trans (fn rfl (by decide))))
          have hKy136 : okF Fvy31 := okF.mv hM.2.1 hey122 hey123 hey124 hey125 hey126 hey127 hey128 hey129 hey130 hey131 hey132 hey133 hey134 hey135
          have hMy137 : okMr cs ad gvy31 i (x + 1) Fvy31 r st op ai fa mu tb tp := okMr.upd hM hcvy31 hKy136 (fun f a => hFy121 f (by omega)) hgy120 (hA.mono (by omega)) (fun j a b => by
              exact Or.inl (by rw [hfvy31 _ (by omega)]; rw [hfvy28 _ (by omega)]; rw [egy25, va_up_ne _ _ (by omega)]))
          have hkpy138 : Fvy31 13 = F 13 := ((hFvy31 13 (by decide)).trans ((hFvy28 13 (by decide)).trans (fn rfl (by decide))))
          have hkpy139 : Fvy31 14 = F 14 := ((hFvy31 14 (by decide)).trans ((hFvy28 14 (by decide)).trans (fn rfl (by decide))))
          have hkpy140 : Fvy31 15 = F 15 := ((hFvy31 15 (by decide)).trans ((hFvy28 15 (by decide)).trans (fn rfl (by decide))))
          have hkpy141 : Fvy31 16 = F 16 := ((hFvy31 16 (by decide)).trans ((hFvy28 16 (by decide)).trans (fn rfl (by decide))))
          have hkpy142 : Fvy31 17 = F 17 := ((hFvy31 17 (by decide)).trans ((hFvy28 17 (by decide)).trans (fn rfl (by decide))))
          have hkpy143 : Fvy31 18 = F 18 := ((hFvy31 18 (by decide)).trans ((hFvy28 18 (by decide)).trans (fn rfl (by decide))))
          have hkpy144 : Fvy31 19 = F 19 := ((hFvy31 19 (by decide)).trans ((hFvy28 19 (by decide)).trans (fn rfl (by decide))))
          have hkpy145 : Fvy31 20 = F 20 := ((hFvy31 20 (by decide)).trans ((hFvy28 20 (by decide)).trans (fn rfl (by decide))))
          have hkpy146 : Fvy31 21 = F 21 := ((hFvy31 21 (by decide)).trans ((hFvy28 21 (by decide)).trans (fn rfl (by decide))))
          have hkpy147 : Fvy31 23 = F 23 := ((hFvy31 23 (by decide)).trans ((hFvy28 23 (by decide)).trans (fn rfl (by decide))))
          have hkpy148 : Fvy31 24 = F 24 := ((hFvy31 24 (by decide)).trans ((hFvy28 24 (by decide)).trans (fn rfl (by decide))))
          have hkpy149 : Fvy31 25 = F 25 := ((hFvy31 25 (by decide)).trans ((hFvy28 25 (by decide)).trans (fn rfl (by decide))))
          have hkpy150 : Fvy31 26 = F 26 := ((hFvy31 26 (by decide)).trans ((hFvy28 26 (by decide)).trans (fn rfl (by decide))))
          have hkpy151 : Fvy31 27 = F 27 := ((hFvy31 27 (by decide)).trans ((hFvy28 27 (by decide)).trans (fn rfl (by decide))))
          have hkpy152 : Fvy31 29 = F 29 := ((hFvy31 29 (by decide)).trans ((hFvy28 29 (by decide)).trans (fn rfl (by decide))))
          exact z_iret C hr hlk dX10_pitOf_69 (by decide) (by decide) ⟨xy116, rfl, rfl, rfl, by omega, ⟨_, _, hMy137, ⟨hkpy138, hkpy139, hkpy140, hkpy141, hkpy142, hkpy143, hkpy144, hkpy145, hkpy146, hkpy147, hkpy148⟩, ⟨(hkpy149.trans hp25), (hkpy150.trans hp26), (hkpy151.trans hp27), (hkpy152.trans hp29)⟩, (fun j _ => rfl)⟩, fun j j1 => by rw [hfvy31 _ (by omega)]; rw [hfvy28 _ (by omega)]; rw [egy25, va_up_ne _ _ (by omega)]⟩
      · refine z_if_ne (tgt := 29) C dX10_pitOf_24 (by decide) (by omega) (fun h => absurd h (by omega)) (fun _ => ?_)
        refine z_iconst (z := 0) C dX10_pitOf_27 rfl ?_
        have hgy153 := (hfvy28 (i + 1) (ne_o (i := i) (c := 1) (d := 0) rfl)).trans hgy27
        have hgy154 := (hfvy31 (i + 1) (ne_o (i := i) (c := 1) (d := 0) rfl)).trans hgy153
        have hFy155 : ∀ f, f ≠ 12 → Fvy31 f = F f := fun f n12 => ((hFvy31 f n12).trans ((hFvy28 f n12).trans ((uZ_n _ _ n12).trans rfl)))
        have hey156 : Fvy31 13 = F 13 := ((hFvy31 13 (by decide)).trans ((hFvy28 13 (by decide)).trans (fn rfl (by decide))))
        have hey157 : Fvy31 14 = F 14 := ((hFvy31 14 (by decide)).trans ((hFvy28 14 (by decide)).trans (fn rfl (by decide))))
        have hey158 : Fvy31 15 = F 15 := ((hFvy31 15 (by decide)).trans ((hFvy28 15 (by decide)).trans (fn rfl (by decide))))
        have hey159 : Fvy31 16 = F 16 := ((hFvy31 16 (by decide)).trans ((hFvy28 16 (by decide)).trans (fn rfl (by decide))))
        have hey160 : Fvy31 17 = F 17 := ((hFvy31 17 (by decide)).trans ((hFvy28 17 (by decide)).trans (fn rfl (by decide))))
        have hey161 : Fvy31 18 = F 18 := ((hFvy31 18 (by decide)).trans ((hFvy28 18 (by decide)).trans (fn rfl (by decide))))
        have hey162 : Fvy31 19 = F 19 := ((hFvy31 19 (by decide)).trans ((hFvy28 19 (by decide)).trans (fn rfl (by decide))))
        have hey163 : Fvy31 20 = F 20 := ((hFvy31 20 (by decide)).trans ((hFvy28 20 (by decide)).trans (fn rfl (by decide))))
        have hey164 : Fvy31 21 = F 21 := ((hFvy31 21 (by decide)).trans ((hFvy28 21 (by decide)).trans (fn rfl (by decide))))
        have hey165 : Fvy31 23 = F 23 := ((hFvy31 23 (by decide)).trans ((hFvy28 23 (by decide)).trans (fn rfl (by decide))))
        have hey166 : Fvy31 25 = F 25 := ((hFvy31 25 (by decide)).trans ((hFvy28 25 (by decide)).trans (fn rfl (by decide))))
        have hey167 : Fvy31 27 = F 27 := ((hFvy31 27 (by decide)).trans ((hFvy28 27 (by decide)).trans (fn rfl (by decide))))
        have hey168 : Fvy31 28 = F 28 := ((hFvy31 28 (by decide)).trans ((hFvy28 28 (by decide)).trans (fn rfl (by decide))))
        have hey169 : Fvy31 29 = F 29 := ((hFvy31 29 (by decide)).trans ((hFvy28 29 (by decide)).trans (fn rfl (by decide))))
        have hKy170 : okF Fvy31 := okF.mv hM.2.1 hey156 hey157 hey158 hey159 hey160 hey161 hey162 hey163 hey164 hey165 hey166 hey167 hey168 hey169
        have hMy171 : okMr cs ad gvy31 i (x + 1) Fvy31 r st op ai fa mu tb tp := okMr.upd hM hcvy31 hKy170 (fun f a => hFy155 f (by omega)) hgy154 (hA.mono (by omega)) (fun j a b => by
            exact Or.inl (by rw [hfvy31 _ (by omega)]; rw [hfvy28 _ (by omega)]; rw [egy25, va_up_ne _ _ (by omega)]))
        have hkpy172 : Fvy31 13 = F 13 := ((hFvy31 13 (by decide)).trans ((hFvy28 13 (by decide)).trans (fn rfl (by decide))))
        have hkpy173 : Fvy31 14 = F 14 := ((hFvy31 14 (by decide)).trans ((hFvy28 14 (by decide)).trans (fn rfl (by decide))))
        have hkpy174 : Fvy31 15 = F 15 := ((hFvy31 15 (by decide)).trans ((hFvy28 15 (by decide)).trans (fn rfl (by decide))))
        have hkpy175 : Fvy31 16 = F 16 := ((hFvy31 16 (by decide)).trans ((hFvy28 16 (by decide)).trans (fn rfl (by decide))))
        have hkpy176 : Fvy31 17 = F 17 := ((hFvy31 17 (by decide)).trans ((hFvy28 17 (by decide)).trans (fn rfl (by decide))))
        have hkpy177 : Fvy31 18 = F 18 := ((hFvy31 18 (by decide)).trans ((hFvy28 18 (by decide)).trans (fn rfl (by decide))))
        have hkpy178 : Fvy31 19 = F 19 := ((hFvy31 19 (by decide)).trans ((hFvy28 19 (by decide)).trans (fn rfl (by decide))))
        have hkpy179 : Fvy31 20 = F 20 := ((hFvy31 20 (by decide)).trans ((hFvy28 20 (by decide)).trans (fn rfl (by decide))))
        have hkpy180 : Fvy31 21 = F 21 := ((hFvy31 21 (by decide)).trans ((hFvy28 21 (by decide)).trans (fn rfl (by decide))))
        have hkpy181 : Fvy31 23 = F 23 := ((hFvy31 23 (by decide)).trans ((hFvy28 23 (by decide)).trans (fn rfl (by decide))))
        have hkpy182 : Fvy31 24 = F 24 := ((hFvy31 24 (by decide)).trans ((hFvy28 24 (by decide)).trans (fn rfl (by decide))))
        have hkpy183 : Fvy31 25 = F 25 := ((hFvy31 25 (by decide)).trans ((hFvy28 25 (by decide)).trans (fn rfl (by decide))))
        have hkpy184 : Fvy31 26 = F 26 := ((hFvy31 26 (by decide)).trans ((hFvy28 26 (by decide)).trans (fn rfl (by decide))))
        have hkpy185 : Fvy31 27 = F 27 := ((hFvy31 27 (by decide)).trans ((hFvy28 27 (by decide)).trans (fn rfl (by decide))))
        have hkpy186 : Fvy31 29 = F 29 := ((hFvy31 29 (by decide)).trans ((hFvy28 29 (by decide)).trans (fn rfl (by decide))))
        exact z_iret C hr hlk dX10_pitOf_28 (by decide) (by decide) ⟨0, rfl, rfl, rfl, by omega, ⟨_, _, hMy171, ⟨hkpy172, hkpy173, hkpy174, hkpy175, hkpy176, hkpy177, hkpy178, hkpy179, hkpy180, hkpy181, hkpy182⟩, ⟨(hkpy183.trans hp25), (hkpy184.trans hp26), (hkpy185.trans hp27), (hkpy186.trans hp29)⟩, (fun j _ => rfl)⟩, fun j j1 => by rw [hfvy31 _ (by omega)]; rw [hfvy28 _ (by omega)]; rw [egy25, va_up_ne _ _ (by omega)]⟩
    · refine z_iconst (z := 1) C dX10_pitOf_20 rfl ?_
      have hey188 : Fvy28 12 = Fvy28 12 := rfl
      refine z_cV (As := [.int (zI (0)), .int (zI (1))]) (rest := []) (ci := 12) C (c_X10_right l D A cs tt N ad _ i hN _ hcvy28 (by omega) (0) (by omega) (1) (by omega)) (lt_A0 hN rfl) hay1 hcvy28 rfl rfl mv_yX10_right q_1648 hd_yX10_right (by decide) (Nat.le_of_ble_eq_true rfl) (by decide) dX10_pitOf_21 rfl (kI0 fun vy187 gvy187 hvy187 => ?_)
      obtain ⟨hrvy187, ⟨Fvy187, hcvy187, htvy187, hFvy187⟩, hfvy187⟩ := hvy187
      obtain rfl : vy187 = 0 := by omega
      refine z_if_ne (tgt := 29) C dX10_pitOf_24 (by decide) (by omega) (fun h => absurd h (by omega)) (fun _ => ?_)
      refine z_iconst (z := 0) C dX10_pitOf_27 rfl ?_
      have hgy189 := (hfvy28 (i + 1) (ne_o (i := i) (c := 1) (d := 0) rfl)).trans hgy27
      have hgy190 := (hfvy187 (i + 1) (ne_o (i := i) (c := 1) (d := 0) rfl)).trans hgy189
      have hFy191 : ∀ f, f ≠ 12 → Fvy187 f = F f := fun f n12 => ((hFvy187 f n12).trans ((hFvy28 f n12).trans ((uZ_n _ _ n12).trans rfl)))
      have hey192 : Fvy187 13 = F 13 := ((hFvy187 13 (by decide)).trans ((hFvy28 13 (by decide)).trans (fn rfl (by decide))))
      have hey193 : Fvy187 14 = F 14 := ((hFvy187 14 (by decide)).trans ((hFvy28 14 (by decide)).trans (fn rfl (by decide))))
      have hey194 : Fvy187 15 = F 15 := ((hFvy187 15 (by decide)).trans ((hFvy28 15 (by decide)).trans (fn rfl (by decide))))
      have hey195 : Fvy187 16 = F 16 := ((hFvy187 16 (by decide)).trans ((hFvy28 16 (by decide)).trans (fn rfl (by decide))))
      have hey196 : Fvy187 17 = F 17 := ((hFvy187 17 (by decide)).trans ((hFvy28 17 (by decide)).trans (fn rfl (by decide))))
      have hey197 : Fvy187 18 = F 18 := ((hFvy187 18 (by decide)).trans ((hFvy28 18 (by decide)).trans (fn rfl (by decide))))
      have hey198 : Fvy187 19 = F 19 := ((hFvy187 19 (by decide)).trans ((hFvy28 19 (by decide)).trans (fn rfl (by decide))))
      have hey199 : Fvy187 20 = F 20 := ((hFvy187 20 (by decide)).trans ((hFvy28 20 (by decide)).trans (fn rfl (by decide))))
      have hey200 : Fvy187 21 = F 21 := ((hFvy187 21 (by decide)).trans ((hFvy28 21 (by decide)).trans (fn rfl (by decide))))
      have hey201 : Fvy187 23 = F 23 := ((hFvy187 23 (by decide)).trans ((hFvy28 23 (by decide)).trans (fn rfl (by decide))))
      have hey202 : Fvy187 25 = F 25 := ((hFvy187 25 (by decide)).trans ((hFvy28 25 (by decide)).trans (fn rfl (by decide))))
      have hey203 : Fvy187 27 = F 27 := ((hFvy187 27 (by decide)).trans ((hFvy28 27 (by decide)).trans (fn rfl (by decide))))
      have hey204 : Fvy187 28 = F 28 := ((hFvy187 28 (by decide)).trans ((hFvy28 28 (by decide)).trans (fn rfl (by decide))))
      have hey205 : Fvy187 29 = F 29 := ((hFvy187 29 (by decide)).trans ((hFvy28 29 (by decide)).trans (fn rfl (by decide))))
      have hKy206 : okF Fvy187 := okF.mv hM.2.1 hey192 hey193 hey194 hey195 hey196 hey197 hey198 hey199 hey200 hey201 hey202 hey203 hey204 hey205
      have hMy207 : okMr cs ad gvy187 i (x + 1) Fvy187 r st op ai fa mu tb tp := okMr.upd hM hcvy187 hKy206 (fun f a => hFy191 f (by omega)) hgy190 (hA.mono (by omega)) (fun j a b => by
          exact Or.inl (by rw [hfvy187 _ (by omega)]; rw [hfvy28 _ (by omega)]; rw [egy25, va_up_ne _ _ (by omega)]))
      have hkpy208 : Fvy187 13 = F 13 := ((hFvy187 13 (by decide)).trans ((hFvy28 13 (by decide)).trans (fn rfl (by decide))))
      have hkpy209 : Fvy187 14 = F 14 := ((hFvy187 14 (by decide)).trans ((hFvy28 14 (by decide)).trans (fn rfl (by decide))))
      have hkpy210 : Fvy187 15 = F 15 := ((hFvy187 15 (by decide)).trans ((hFvy28 15 (by decide)).trans (fn rfl (by decide))))
      have hkpy211 : Fvy187 16 = F 16 := ((hFvy187 16 (by decide)).trans ((hFvy28 16 (by decide)).trans (fn rfl (by decide))))
      have hkpy212 : Fvy187 17 = F 17 := ((hFvy187 17 (by decide)).trans ((hFvy28 17 (by decide)).trans (fn rfl (by decide))))
      have hkpy213 : Fvy187 18 = F 18 := ((hFvy187 18 (by decide)).trans ((hFvy28 18 (by decide)).trans (fn rfl (by decide))))
      have hkpy214 : Fvy187 19 = F 19 := ((hFvy187 19 (by decide)).trans ((hFvy28 19 (by decide)).trans (fn rfl (by decide))))
      have hkpy215 : Fvy187 20 = F 20 := ((hFvy187 20 (by decide)).trans ((hFvy28 20 (by decide)).trans (fn rfl (by decide))))
      have hkpy216 : Fvy187 21 = F 21 := ((hFvy187 21 (by decide)).trans ((hFvy28 21 (by decide)).trans (fn rfl (by decide))))
      have hkpy217 : Fvy187 23 = F 23 := ((hFvy187 23 (by decide)).trans ((hFvy28 23 (by decide)).trans (fn rfl (by decide))))
      have hkpy218 : Fvy187 24 = F 24 := ((hFvy187 24 (by decide)).trans ((hFvy28 24 (by decide)).trans (fn rfl (by decide))))
      have hkpy219 : Fvy187 25 = F 25 := ((hFvy187 25 (by decide)).trans ((hFvy28 25 (by decide)).trans (fn rfl (by decide))))
      have hkpy220 : Fvy187 26 = F 26 := ((hFvy187 26 (by decide)).trans ((hFvy28 26 (by decide)).trans (fn rfl (by decide))))
      have hkpy221 : Fvy187 27 = F 27 := ((hFvy187 27 (by decide)).trans ((hFvy28 27 (by decide)).trans (fn rfl (by decide))))
      have hkpy222 : Fvy187 29 = F 29 := ((hFvy187 29 (by decide)).trans ((hFvy28 29 (by decide)).trans (fn rfl (by decide))))
      exact z_iret C hr hlk dX10_pitOf_28 (by decide) (by decide) ⟨0, rfl, rfl, rfl, by omega, ⟨_, _, hMy207, ⟨hkpy208, hkpy209, hkpy210, hkpy211, hkpy212, hkpy213, hkpy214, hkpy215, hkpy216, hkpy217, hkpy218⟩, ⟨(hkpy219.trans hp25), (hkpy220.trans hp26), (hkpy221.trans hp27), (hkpy222.trans hp29)⟩, (fun j _ => rfl)⟩, fun j j1 => by rw [hfvy187 _ (by omega)]; rw [hfvy28 _ (by omega)]; rw [egy25, va_up_ne _ _ (by omega)]⟩
  · refine z_if_eq (tgt := 27) C dX10_pitOf_10 (by decide) (by omega) (fun _ => ?_) (fun h => absurd h (by omega))
    refine z_iconst (z := 0) C dX10_pitOf_27 rfl ?_
    have hgy223 := (hfvy28 (i + 1) (ne_o (i := i) (c := 1) (d := 0) rfl)).trans hgy27
    have hFy224 : ∀ f, f ≠ 12 → Fvy28 f = F f := fun f n12 => ((hFvy28 f n12).trans ((uZ_n _ _ n12).trans rfl))
    have hey225 : Fvy28 13 = F 13 := ((hFvy28 13 (by decide)).trans (fn rfl (by decide)))
    have hey226 : Fvy28 14 = F 14 := ((hFvy28 14 (by decide)).trans (fn rfl (by decide)))
    have hey227 : Fvy28 15 = F 15 := ((hFvy28 15 (by decide)).trans (fn rfl (by decide)))
    have hey228 : Fvy28 16 = F 16 := ((hFvy28 16 (by decide)).trans (fn rfl (by decide)))
    have hey229 : Fvy28 17 = F 17 := ((hFvy28 17 (by decide)).trans (fn rfl (by decide)))
    have hey230 : Fvy28 18 = F 18 := ((hFvy28 18 (by decide)).trans (fn rfl (by decide)))
    have hey231 : Fvy28 19 = F 19 := ((hFvy28 19 (by decide)).trans (fn rfl (by decide)))
    have hey232 : Fvy28 20 = F 20 := ((hFvy28 20 (by decide)).trans (fn rfl (by decide)))
    have hey233 : Fvy28 21 = F 21 := ((hFvy28 21 (by decide)).trans (fn rfl (by decide)))
    have hey234 : Fvy28 23 = F 23 := ((hFvy28 23 (by decide)).trans (fn rfl (by decide)))
    have hey235 : Fvy28 25 = F 25 := ((hFvy28 25 (by decide)).trans (fn rfl (by decide)))
    have hey236 : Fvy28 27 = F 27 := ((hFvy28 27 (by decide)).trans (fn rfl (by decide)))
    have hey237 : Fvy28 28 = F 28 := ((hFvy28 28 (by decide)).trans (fn rfl (by decide)))
    have hey238 : Fvy28 29 = F 29 := ((hFvy28 29 (by decide)).trans (fn rfl (by decide)))
    have hKy239 : okF Fvy28 := okF.mv hM.2.1 hey225 hey226 hey227 hey228 hey229 hey230 hey231 hey232 hey233 hey234 hey235 hey236 hey237 hey238
    have hMy240 : okMr cs ad gvy28 i (x + 1) Fvy28 r st op ai fa mu tb tp := okMr.upd hM hcvy28 hKy239 (fun f a => hFy224 f (by omega)) hgy223 (hA.mono (by omega)) (fun j a b => by
        exact Or.inl (by rw [hfvy28 _ (by omega)]; rw [egy25, va_up_ne _ _ (by omega)]))
    have hkpy241 : Fvy28 13 = F 13 := ((hFvy28 13 (by decide)).trans (fn rfl (by decide)))
    have hkpy242 : Fvy28 14 = F 14 := ((hFvy28 14 (by decide)).trans (fn rfl (by decide)))
    have hkpy243 : Fvy28 15 = F 15 := ((hFvy28 15 (by decide)).trans (fn rfl (by decide)))
    have hkpy244 : Fvy28 16 = F 16 := ((hFvy28 16 (by decide)).trans (fn rfl (by decide)))
    have hkpy245 : Fvy28 17 = F 17 := ((hFvy28 17 (by decide)).trans (fn rfl (by decide)))
    have hkpy246 : Fvy28 18 = F 18 := ((hFvy28 18 (by decide)).trans (fn rfl (by decide)))
    have hkpy247 : Fvy28 19 = F 19 := ((hFvy28 19 (by decide)).trans (fn rfl (by decide)))
    have hkpy248 : Fvy28 20 = F 20 := ((hFvy28 20 (by decide)).trans (fn rfl (by decide)))
    have hkpy249 : Fvy28 21 = F 21 := ((hFvy28 21 (by decide)).trans (fn rfl (by decide)))
    have hkpy250 : Fvy28 23 = F 23 := ((hFvy28 23 (by decide)).trans (fn rfl (by decide)))
    have hkpy251 : Fvy28 24 = F 24 := ((hFvy28 24 (by decide)).trans (fn rfl (by decide)))
    have hkpy252 : Fvy28 25 = F 25 := ((hFvy28 25 (by decide)).trans (fn rfl (by decide)))
    have hkpy253 : Fvy28 26 = F 26 := ((hFvy28 26 (by decide)).trans (fn rfl (by decide)))
    have hkpy254 : Fvy28 27 = F 27 := ((hFvy28 27 (by decide)).trans (fn rfl (by decide)))
    have hkpy255 : Fvy28 29 = F 29 := ((hFvy28 29 (by decide)).trans (fn rfl (by decide)))
    exact z_iret C hr hlk dX10_pitOf_28 (by decide) (by decide) ⟨0, rfl, rfl, rfl, by omega, ⟨_, _, hMy240, ⟨hkpy241, hkpy242, hkpy243, hkpy244, hkpy245, hkpy246, hkpy247, hkpy248, hkpy249, hkpy250, hkpy251⟩, ⟨(hkpy252.trans hp25), (hkpy253.trans hp26), (hkpy254.trans hp27), (hkpy255.trans hp29)⟩, (fun j _ => rfl)⟩, fun j j1 => by rw [hfvy28 _ (by omega)]; rw [egy25, va_up_ne _ _ (by omega)]⟩

set_option maxRecDepth 100000 in
set_option maxHeartbeats 4000000 in
theorem c_X10_pitOf_b (l : Launch) (D : va_G) (A : Nat → Prop) (cs : Nat → ClassId) (tt : Nat) (N : Nat) (ad : Nat → Nat) (g : Nat → va_E) (i : Nat) (hN : i + 30 ≤ N) (x : Int) (hx : 0 ≤ x ∧ x ≤ 512) (F r : Nat → Int) {st op ai fa mu tb tp : Nat → Int} (hM : okMr cs ad g i x F r st op ai fa mu tb tp) (hPl : F 25 = 0 ∧ F 26 = -1 ∧ F 27 = -1 ∧ F 29 = 0) (z : Int) (hz : -2147483648 ≤ z ∧ z ≤ 2147483647) (ho0 : z < 0 ∨ 5 < z) (z1 : Int) (hz1 : -2147483648 ≤ z1 ∧ z1 ≤ 2147483647) : zM l yX10_pitOf cX10_pitOf 3 (some .int) ({ frames := 3, cells := 0, slots := 0, locals := 180 } : Room) D A cs tt N ad g [.ref (ad i), .int (zI (z)), .int (zI (z1))] (rI0 N ad fun q g' => (-2147483648 ≤ q ∧ q ≤ 2147483647) ∧ (∃ F' r' : Nat → Int, okMr cs ad g' i (x + 1) F' r' st op ai fa mu tb tp ∧ (F' 13 = F 13 ∧ F' 14 = F 14 ∧ F' 15 = F 15 ∧ F' 16 = F 16 ∧ F' 17 = F 17 ∧ F' 18 = F 18 ∧ F' 19 = F 19 ∧ F' 20 = F 20 ∧ F' 21 = F 21 ∧ F' 23 = F 23 ∧ F' 24 = F 24) ∧ (F' 25 = 0 ∧ F' 26 = -1 ∧ F' 27 = -1 ∧ F' 29 = 0) ∧ (∀ j, j < 350 ∨ 700 ≤ j → r' j = r j)) ∧ ∀ j, j < i ∨ i + 30 ≤ j ∨ (i + 8 ≤ j ∧ j ≤ i + 12) → g' j = g j) := by
  obtain ⟨hg, ⟨⟨e13, e14, e25, e27, e29⟩, k15, k16, k17, k18, k19, k20, k23, k21⟩, hRD, hTx, hA, ns, nh, nd, rf, pi, te, ki, li, ok1, ok2, fo, dd, dps, ⟨ha1, ha2, ha3, ha4, ha5, ha6, ha7, ha8, ha9, ha10, ha11, ha12, ha13, ha14, ha15, ha24, ha25, ha26, ha27, ha28, ha29⟩, hEv, hPt, hns, htp⟩ := id hM
  obtain ⟨-, hop, hai, hfa, hT, hT1⟩ := id hEv
  have hay1 : zAt ad (i) (ad i) := rfl
  have hay2 : zAt ad (i + 1) (ad (i + 1)) := rfl
  have hay3 : zAt ad (i + 2) (ad (i + 2)) := rfl
  have hay4 : zAt ad (i + 3) (ad (i + 3)) := rfl
  have hay5 : zAt ad (i + 4) (ad (i + 4)) := rfl
  have hay6 : zAt ad (i + 5) (ad (i + 5)) := rfl
  have hay7 : zAt ad (i + 6) (ad (i + 6)) := rfl
  have hay8 : zAt ad (i + 7) (ad (i + 7)) := rfl
  have hay9 : zAt ad (i + 8) (ad (i + 8)) := rfl
  have hay10 : zAt ad (i + 9) (ad (i + 9)) := rfl
  have hay11 : zAt ad (i + 10) (ad (i + 10)) := rfl
  have hay12 : zAt ad (i + 11) (ad (i + 11)) := rfl
  have hay13 : zAt ad (i + 12) (ad (i + 12)) := rfl
  have hay14 : zAt ad (i + 13) (ad (i + 13)) := rfl
  have hay15 : zAt ad (i + 14) (ad (i + 14)) := rfl
  have hay16 : zAt ad (i + 15) (ad (i + 15)) := rfl
  have hay17 : zAt ad (i + 24) (ad (i + 24)) := rfl
  have hay18 : zAt ad (i + 25) (ad (i + 25)) := rfl
  have hay19 : zAt ad (i + 26) (ad (i + 26)) := rfl
  have hay20 : zAt ad (i + 27) (ad (i + 27)) := rfl
  have hay21 : zAt ad (i + 28) (ad (i + 28)) := rfl
  have hay22 : zAt ad (i + 29) (ad (i + 29)) := rfl
  obtain ⟨⟨hsyy23, htyy23, hnyy23, hpyy23⟩, hlyy23⟩ := okA.at0 hA
  simp only [Nat.zero_add] at hsyy23 hnyy23 hpyy23
  have hmn : ∀ s, s < 4 → 0 ≤ r (6 + 86 * s) ∧ r (6 + 86 * s) ≤ 12 := fun s hs => (hsyy23 s hs).1
  have h5 : 0 ≤ r 5 ∧ r 5 ≤ 6 := hpyy23
  obtain ⟨hp25, hp26, hp27, hp29⟩ := id hPl
  refine z_of (by decide) (Nat.le_of_ble_eq_true rfl) ?_
  intro pZ eZ sZ mZ below meth cZ C hr hlk hnm
  refine z_lv (lv' := [(0, .ref (ad i)), (1, .int (zI (z))), (2, .int (zI (z1)))]) [0, 1, 2] rfl ?_
  refine z_aload_n C 0 dX10_pitOf_0 rfl ?_
  refine z_iconst (z := 0) C dX10_pitOf_1 rfl ?_
  refine z_put (fs' := mF ad (i) (uZ F 12 (0))) C (lt_A0 hN rfl) hay1 hg tyX10 tyX10_ok nmX10 rfl inA_X10 12 (by decide) q_1471 rfl rfl rfl rfl (Nat.le_of_ble_eq_true rfl) rfl dX10_pitOf_2 (fun gy24 egy25 => ?_)
  have hgy26 := up_s egy25
  refine z_aload_n C 0 dX10_pitOf_5 rfl ?_
  refine z_iload_n C 1 dX10_pitOf_6 rfl ?_
  have hgy27 := up_n egy25 ha1 (ne_o (i := i) (c := 1) (d := 0) rfl)
  have hey29 : (uZ F 12 (0)) 12 = 0 := (uZ_s _ _ _)
  refine z_cV (As := [.int (zI (z))]) (rest := []) (ci := 12) C (c_X10_isPit l D A cs tt N ad _ i hN _ hgy26 _ hgy27 (by omega) h5 (z) (by omega)) (lt_A0 hN rfl) hay1 hgy26 rfl rfl mv_yX10_isPit q_2027 hd_yX10_isPit (by decide) (Nat.le_of_ble_eq_true rfl) (by decide) dX10_pitOf_7 rfl (kI0 fun vy28 gvy28 hvy28 => ?_)
  obtain ⟨hrvy28, ⟨Fvy28, hcvy28, htvy28, hFvy28⟩, hfvy28⟩ := hvy28
  obtain rfl : vy28 = 0 := by omega
  refine z_if_eq (tgt := 27) C dX10_pitOf_10 (by decide) (by omega) (fun _ => ?_) (fun h => absurd h (by omega))
  refine z_iconst (z := 0) C dX10_pitOf_27 rfl ?_
  have hgy30 := (hfvy28 (i + 1) (ne_o (i := i) (c := 1) (d := 0) rfl)).trans hgy27
  have hFy31 : ∀ f, f ≠ 12 → Fvy28 f = F f := fun f n12 => ((hFvy28 f n12).trans ((uZ_n _ _ n12).trans rfl))
  have hey32 : Fvy28 13 = F 13 := ((hFvy28 13 (by decide)).trans (fn rfl (by decide)))
  have hey33 : Fvy28 14 = F 14 := ((hFvy28 14 (by decide)).trans (fn rfl (by decide)))
  have hey34 : Fvy28 15 = F 15 := ((hFvy28 15 (by decide)).trans (fn rfl (by decide)))
  have hey35 : Fvy28 16 = F 16 := ((hFvy28 16 (by decide)).trans (fn rfl (by decide)))
  have hey36 : Fvy28 17 = F 17 := ((hFvy28 17 (by decide)).trans (fn rfl (by decide)))
  have hey37 : Fvy28 18 = F 18 := ((hFvy28 18 (by decide)).trans (fn rfl (by decide)))
  have hey38 : Fvy28 19 = F 19 := ((hFvy28 19 (by decide)).trans (fn rfl (by decide)))
  have hey39 : Fvy28 20 = F 20 := ((hFvy28 20 (by decide)).trans (fn rfl (by decide)))
  have hey40 : Fvy28 21 = F 21 := ((hFvy28 21 (by decide)).trans (fn rfl (by decide)))
  have hey41 : Fvy28 23 = F 23 := ((hFvy28 23 (by decide)).trans (fn rfl (by decide)))
  have hey42 : Fvy28 25 = F 25 := ((hFvy28 25 (by decide)).trans (fn rfl (by decide)))
  have hey43 : Fvy28 27 = F 27 := ((hFvy28 27 (by decide)).trans (fn rfl (by decide)))
  have hey44 : Fvy28 28 = F 28 := ((hFvy28 28 (by decide)).trans (fn rfl (by decide)))
  have hey45 : Fvy28 29 = F 29 := ((hFvy28 29 (by decide)).trans (fn rfl (by decide)))
  have hKy46 : okF Fvy28 := okF.mv hM.2.1 hey32 hey33 hey34 hey35 hey36 hey37 hey38 hey39 hey40 hey41 hey42 hey43 hey44 hey45
  have hMy47 : okMr cs ad gvy28 i (x + 1) Fvy28 r st op ai fa mu tb tp := okMr.upd hM hcvy28 hKy46 (fun f a => hFy31 f (by omega)) hgy30 (hA.mono (by omega)) (fun j a b => by
      exact Or.inl (by rw [hfvy28 _ (by omega)]; rw [egy25, va_up_ne _ _ (by omega)]))
  have hkpy48 : Fvy28 13 = F 13 := ((hFvy28 13 (by decide)).trans (fn rfl (by decide)))
  have hkpy49 : Fvy28 14 = F 14 := ((hFvy28 14 (by decide)).trans (fn rfl (by decide)))
  have hkpy50 : Fvy28 15 = F 15 := ((hFvy28 15 (by decide)).trans (fn rfl (by decide)))
  have hkpy51 : Fvy28 16 = F 16 := ((hFvy28 16 (by decide)).trans (fn rfl (by decide)))
  have hkpy52 : Fvy28 17 = F 17 := ((hFvy28 17 (by decide)).trans (fn rfl (by decide)))
  have hkpy53 : Fvy28 18 = F 18 := ((hFvy28 18 (by decide)).trans (fn rfl (by decide)))
  have hkpy54 : Fvy28 19 = F 19 := ((hFvy28 19 (by decide)).trans (fn rfl (by decide)))
  have hkpy55 : Fvy28 20 = F 20 := ((hFvy28 20 (by decide)).trans (fn rfl (by decide)))
  have hkpy56 : Fvy28 21 = F 21 := ((hFvy28 21 (by decide)).trans (fn rfl (by decide)))
  have hkpy57 : Fvy28 23 = F 23 := ((hFvy28 23 (by decide)).trans (fn rfl (by decide)))
  have hkpy58 : Fvy28 24 = F 24 := ((hFvy28 24 (by decide)).trans (fn rfl (by decide)))
  have hkpy59 : Fvy28 25 = F 25 := ((hFvy28 25 (by decide)).trans (fn rfl (by decide)))
  have hkpy60 : Fvy28 26 = F 26 := ((hFvy28 26 (by decide)).trans (fn rfl (by decide)))
  have hkpy61 : Fvy28 27 = F 27 := ((hFvy28 27 (by decide)).trans (fn rfl (by decide)))
  have hkpy62 : Fvy28 29 = F 29 := ((hFvy28 29 (by decide)).trans (fn rfl (by decide)))
  exact z_iret C hr hlk dX10_pitOf_28 (by decide) (by decide) ⟨0, rfl, rfl, rfl, by omega, ⟨_, _, hMy47, ⟨hkpy48, hkpy49, hkpy50, hkpy51, hkpy52, hkpy53, hkpy54, hkpy55, hkpy56, hkpy57, hkpy58⟩, ⟨(hkpy59.trans hp25), (hkpy60.trans hp26), (hkpy61.trans hp27), (hkpy62.trans hp29)⟩, (fun j _ => rfl)⟩, fun j j1 => by rw [hfvy28 _ (by omega)]; rw [egy25, va_up_ne _ _ (by omega)]⟩

set_option maxRecDepth 100000 in
set_option maxHeartbeats 4000000 in
theorem c_X10_pitOf (l : Launch) (D : va_G) (A : Nat → Prop) (cs : Nat → ClassId) (tt : Nat) (N : Nat) (ad : Nat → Nat) (g : Nat → va_E) (i : Nat) (hN : i + 30 ≤ N) (x : Int) (hx : 0 ≤ x ∧ x ≤ 512) (F r : Nat → Int) {st op ai fa mu tb tp : Nat → Int} (hM : okMr cs ad g i x F r st op ai fa mu tb tp) (hPl : F 25 = 0 ∧ F 26 = -1 ∧ F 27 = -1 ∧ F 29 = 0) (z : Int) (hz : -2147483648 ≤ z ∧ z ≤ 2147483647) (z1 : Int) (hz1 : -2147483648 ≤ z1 ∧ z1 ≤ 2147483647) : zM l yX10_pitOf cX10_pitOf 3 (some .int) ({ frames := 3, cells := 0, slots := 0, locals := 180 } : Room) D A cs tt N ad g [.ref (ad i), .int (zI (z)), .int (zI (z1))] (rI0 N ad fun q g' => (-2147483648 ≤ q ∧ q ≤ 2147483647) ∧ (∃ F' r' : Nat → Int, okMr cs ad g' i (x + 1) F' r' st op ai fa mu tb tp ∧ (F' 13 = F 13 ∧ F' 14 = F 14 ∧ F' 15 = F 15 ∧ F' 16 = F 16 ∧ F' 17 = F 17 ∧ F' 18 = F 18 ∧ F' 19 = F 19 ∧ F' 20 = F 20 ∧ F' 21 = F 21 ∧ F' 23 = F 23 ∧ F' 24 = F 24) ∧ (F' 25 = 0 ∧ F' 26 = -1 ∧ F' 27 = -1 ∧ F' 29 = 0) ∧ (∀ j, j < 350 ∨ 700 ≤ j → r' j = r j)) ∧ ∀ j, j < i ∨ i + 30 ≤ j ∨ (i + 8 ≤ j ∧ j ≤ i + 12) → g' j = g j) := by
  by_cases hk0 : 0 ≤ z ∧ z ≤ 5
  · obtain ⟨n0, rfl⟩ : ∃ n : Nat, z = (n : Int) := ⟨z.toNat, by omega⟩
    exact c_X10_pitOf_a l D A cs tt N ad g i hN x hx F r hM hPl n0 (by omega) z1 hz1
  · exact c_X10_pitOf_b l D A cs tt N ad g i hN x hx F r hM hPl z hz (by omega) z1 hz1

set_option maxRecDepth 100000 in
set_option maxHeartbeats 4000000 in
theorem c_X10_namesInBoth (l : Launch) (D : va_G) (A : Nat → Prop) (cs : Nat → ClassId) (tt : Nat) (N : Nat) (ad : Nat → Nat) (g : Nat → va_E) (i : Nat) (hN : i + 30 ≤ N) (F : Nat → Int) (hg : g i = mC ad i F) (pi : Nat → Int) (ha12 : g (i + 12) = iA cs 1080 pi) (hPt : okPt pi) (n0 n1 : Nat) (h0 : n0 < 6) (h1 : n1 < 6) : zM l yX10_namesInBoth cX10_namesInBoth 6 (some .int) ({ frames := 2, cells := 0, slots := 0, locals := 120 } : Room) D A cs tt N ad g [.ref (ad i), .int (zI ((n0 : Int))), .int (zI ((n1 : Int)))] (rI0 N ad fun r g' => (-2147483648 ≤ r ∧ r ≤ 2147483647) ∧ g = g') := by
  have hay1 : zAt ad (i) (ad i) := rfl
  have hay2 : zAt ad (i + 12) (ad (i + 12)) := rfl
  have hpkn0 := okPt.at hPt (k := n0) (by omega)
  have hpkn1 := okPt.at hPt (k := n1) (by omega)
  refine z_of (by decide) (Nat.le_of_ble_eq_true rfl) ?_
  intro pZ eZ sZ mZ below meth cZ C hr hlk hnm
  refine z_lv (lv' := [(0, .ref (ad i)), (1, .int (zI ((n0 : Int)))), (2, .int (zI ((n1 : Int))))]) [0, 1, 2] rfl ?_
  have lpo : ∀ (n9 : Nat) (cn : Int) (aa : Int) (g1 : Nat → va_E), (13 - aa).toNat = n9 → (g = g1) → (-2147483648 ≤ cn ∧ cn ≤ 2147483647) → (0 ≤ aa ∧ aa ≤ 12) → zV pZ l eZ ({ frames := 2, cells := 0, slots := 0, locals := 120 } : Room) sZ mZ ([.ref (ad i), .int (zI ((n0 : Int))), .int (zI ((n1 : Int)))] : List Value).toArray below meth cZ (MQ below (zPost D A (rI0 N ad fun r g' => (-2147483648 ≤ r ∧ r ≤ 2147483647) ∧ g = g')) ([.ref (ad i), .int (zI ((n0 : Int))), .int (zI ((n1 : Int)))] : List Value).toArray sZ ({ frames := 2, cells := 0, slots := 0, locals := 120 } : Room).cells ({ frames := 2, cells := 0, slots := 0, locals := 120 } : Room).slots A) D A 6 (N) ad g1 (0) (0) 5 [(0, .ref (ad i)), (1, .int (zI ((n0 : Int)))), (2, .int (zI ((n1 : Int)))), (3, .int (zI (cn))), (4, .int (zI (aa)))] [] := by
    intro n9
    induction n9 using Nat.strongRecOn with
    | ind n9 ih_lpo =>
      intro cn aa g1 hm9 hg1 hvo hvp
      subst hg1
      refine z_iload C 4 dX10_namesInBoth_5 rfl ?_
      refine z_aload_n C 0 dX10_namesInBoth_7 rfl ?_
      refine z_iload_n C 1 dX10_namesInBoth_8 rfl ?_
      refine z_cV (As := [.int (zI ((n0 : Int)))]) (rest := [.int (zI (aa))]) (ci := 12) C (c_X10_pitMany l D A cs tt N ad _ i hN _ hg _ ha12 hPt n0 (by omega)) (lt_A0 hN rfl) hay1 hg rfl rfl mv_yX10_pitMany q_2031 hd_yX10_pitMany (by decide) (Nat.le_of_ble_eq_true rfl) (by decide) dX10_namesInBoth_9 rfl (kI0 fun vy3 gvy3 hvy3 => ?_)
      obtain ⟨rfl, rfl⟩ := hvy3
      refine z_icmp_ge (tgt := 69) C dX10_namesInBoth_12 (by decide) (by omega) (by omega) (fun hby4 => ?_) (fun hby4 => ?_)
      · refine z_iload_n C 3 dX10_namesInBoth_69 rfl ?_
        exact z_iret C hr hlk dX10_namesInBoth_70 (by decide) (by decide) ⟨cn, rfl, rfl, rfl, by omega, rfl⟩
      · refine z_iconst (z := 0) C dX10_namesInBoth_15 rfl ?_
        refine z_istore (lv' := [(5, .int (zI (0))), (0, .ref (ad i)), (1, .int (zI ((n0 : Int)))), (2, .int (zI ((n1 : Int)))), (3, .int (zI (cn))), (4, .int (zI (aa)))]) C dX10_namesInBoth_16 (by decide) rfl ?_
        have lpi : ∀ (n9 : Nat) (cn : Int) (bb : Int) (g1 : Nat → va_E), (13 - bb).toNat = n9 → (g = g1) → (-2147483648 ≤ cn ∧ cn ≤ 2147483647) → (0 ≤ bb ∧ bb ≤ 12) → zV pZ l eZ ({ frames := 2, cells := 0, slots := 0, locals := 120 } : Room) sZ mZ ([.ref (ad i), .int (zI ((n0 : Int))), .int (zI ((n1 : Int)))] : List Value).toArray below meth cZ (MQ below (zPost D A (rI0 N ad fun r g' => (-2147483648 ≤ r ∧ r ≤ 2147483647) ∧ g = g')) ([.ref (ad i), .int (zI ((n0 : Int))), .int (zI ((n1 : Int)))] : List Value).toArray sZ ({ frames := 2, cells := 0, slots := 0, locals := 120 } : Room).cells ({ frames := 2, cells := 0, slots := 0, locals := 120 } : Room).slots A) D A 6 (N) ad g1 (0) (0) 18 [(0, .ref (ad i)), (1, .int (zI ((n0 : Int)))), (2, .int (zI ((n1 : Int)))), (3, .int (zI (cn))), (4, .int (zI (aa))), (5, .int (zI (bb)))] [] := by
          intro n9
          induction n9 using Nat.strongRecOn with
          | ind n9 ih_lpi =>
            intro cn bb g1 hm9 hg2 hvi hvj
            subst hg2
            refine z_iload C 5 dX10_namesInBoth_18 rfl ?_
            refine z_aload_n C 0 dX10_namesInBoth_20 rfl ?_
            refine z_iload_n C 2 dX10_namesInBoth_21 rfl ?_
            refine z_cV (As := [.int (zI ((n1 : Int)))]) (rest := [.int (zI (bb))]) (ci := 12) C (c_X10_pitMany l D A cs tt N ad _ i hN _ hg _ ha12 hPt n1 (by omega)) (lt_A0 hN rfl) hay1 hg rfl rfl mv_yX10_pitMany q_2031 hd_yX10_pitMany (by decide) (Nat.le_of_ble_eq_true rfl) (by decide) dX10_namesInBoth_22 rfl (kI0 fun vy5 gvy5 hvy5 => ?_)
            obtain ⟨rfl, rfl⟩ := hvy5
            refine z_icmp_ge (tgt := 63) C dX10_namesInBoth_25 (by decide) (by omega) (by omega) (fun hby6 => ?_) (fun hby6 => ?_)
            · refine z_iinc (z := aa + 1) (lv' := [(4, .int (zI (aa + 1))), (0, .ref (ad i)), (1, .int (zI ((n0 : Int)))), (2, .int (zI ((n1 : Int)))), (3, .int (zI (cn))), (5, .int (zI (bb)))]) (j := 4) C dX10_namesInBoth_63 rfl rfl (by decide) rfl ?_
              refine z_goto (tgt := 5) C dX10_namesInBoth_66 (by decide) ?_
              refine z_lv (lv' := [(0, .ref (ad i)), (1, .int (zI ((n0 : Int)))), (2, .int (zI ((n1 : Int)))), (3, .int (zI (cn))), (4, .int (zI (aa + 1)))]) [1, 2, 3, 4, 0] rfl ?_
              exact ih_lpo _ (by omega) (cn) (aa + 1) _ rfl rfl (by omega) (by omega)
            · refine z_iload_n C 3 dX10_namesInBoth_28 rfl ?_
              refine z_aload_n C 0 dX10_namesInBoth_29 rfl ?_
              refine z_iload_n C 1 dX10_namesInBoth_30 rfl ?_
              refine z_iload C 4 dX10_namesInBoth_31 rfl ?_
              refine z_bipush (z := 6) C dX10_namesInBoth_33 (by decide) ?_
              refine z_cV (As := [.int (zI ((n0 : Int))), .int (zI (aa)), .int (zI (6))]) (rest := [.int (zI (cn))]) (ci := 12) C (c_X10_inPit l D A cs tt N ad _ i hN _ hg _ ha12 hPt n0 (by omega) (aa) (by omega) (6) (by omega)) (lt_A0 hN rfl) hay1 hg rfl rfl mv_yX10_inPit q_2043 hd_yX10_inPit (by decide) (Nat.le_of_ble_eq_true rfl) (by decide) dX10_namesInBoth_35 rfl (kI0 fun vy7 gvy7 hvy7 => ?_)
              obtain ⟨hvy7, rfl⟩ := hvy7
              refine z_aload_n C 0 dX10_namesInBoth_38 rfl ?_
              refine z_iload_n C 2 dX10_namesInBoth_39 rfl ?_
              refine z_iload C 5 dX10_namesInBoth_40 rfl ?_
              refine z_bipush (z := 6) C dX10_namesInBoth_42 (by decide) ?_
              refine z_cV (As := [.int (zI ((n1 : Int))), .int (zI (bb)), .int (zI (6))]) (rest := [.int (zI (vy7)), .int (zI (cn))]) (ci := 12) C (c_X10_inPit l D A cs tt N ad _ i hN _ hg _ ha12 hPt n1 (by omega) (bb) (by omega) (6) (by omega)) (lt_A0 hN rfl) hay1 hg rfl rfl mv_yX10_inPit q_2043 hd_yX10_inPit (by decide) (Nat.le_of_ble_eq_true rfl) (by decide) dX10_namesInBoth_44 rfl (kI0 fun vy8 gvy8 hvy8 => ?_)
              obtain ⟨hvy8, rfl⟩ := hvy8
              obtain ⟨xy9, exy10, hxy11⟩ := zI_of (zI (vy8))
              rw [exy10]
              obtain ⟨xy12, exy13, hxy14⟩ := zI_of (zI (vy7))
              rw [exy13]
              refine z_icmp_ne (tgt := 54) C dX10_namesInBoth_47 (by decide) (by omega) (by omega) (fun hby15 => ?_) (fun hby15 => ?_)
              · refine z_iconst (z := 0) C dX10_namesInBoth_54 rfl ?_
                refine z_iadd C dX10_namesInBoth_55 ?_
                refine z_istore_n (lv' := [(3, .int (zI (cn + 0))), (0, .ref (ad i)), (1, .int (zI ((n0 : Int)))), (2, .int (zI ((n1 : Int)))), (4, .int (zI (aa))), (5, .int (zI (bb)))]) C dX10_namesInBoth_56 rfl (by decide) rfl ?_
                refine z_iinc (z := bb + 1) (lv' := [(5, .int (zI (bb + 1))), (3, .int (zI (cn + 0))), (0, .ref (ad i)), (1, .int (zI ((n0 : Int)))), (2, .int (zI ((n1 : Int)))), (4, .int (zI (aa)))]) (j := 5) C dX10_namesInBoth_57 rfl rfl (by decide) rfl ?_
                refine z_goto (tgt := 18) C dX10_namesInBoth_60 (by decide) ?_
                refine z_lv (lv' := [(0, .ref (ad i)), (1, .int (zI ((n0 : Int)))), (2, .int (zI ((n1 : Int)))), (3, .int (zI (cn + 0))), (4, .int (zI (aa))), (5, .int (zI (bb + 1)))]) [2, 3, 4, 1, 5, 0] rfl ?_
                exact ih_lpi _ (by omega) (cn + 0) (bb + 1) _ rfl rfl (by omega) (by omega)
              · refine z_iconst (z := 1) C dX10_namesInBoth_50 rfl ?_
                refine z_goto (tgt := 55) C dX10_namesInBoth_51 (by decide) ?_
                refine z_iadd C dX10_namesInBoth_55 ?_
                refine z_istore_n (lv' := [(3, .int (zI (cn + 1))), (0, .ref (ad i)), (1, .int (zI ((n0 : Int)))), (2, .int (zI ((n1 : Int)))), (4, .int (zI (aa))), (5, .int (zI (bb)))]) C dX10_namesInBoth_56 rfl (by decide) rfl ?_
                refine z_iinc (z := bb + 1) (lv' := [(5, .int (zI (bb + 1))), (3, .int (zI (cn + 1))), (0, .ref (ad i)), (1, .int (zI ((n0 : Int)))), (2, .int (zI ((n1 : Int)))), (4, .int (zI (aa)))]) (j := 5) C dX10_namesInBoth_57 rfl rfl (by decide) rfl ?_
                refine z_goto (tgt := 18) C dX10_namesInBoth_60 (by decide) ?_
                obtain ⟨xy16, exy17, hxy18⟩ := zI_of (zI (cn + 1))
                rw [exy17]
                refine z_lv (lv' := [(0, .ref (ad i)), (1, .int (zI ((n0 : Int)))), (2, .int (zI ((n1 : Int)))), (3, .int (zI (xy16))), (4, .int (zI (aa))), (5, .int (zI (bb + 1)))]) [2, 3, 4, 1, 5, 0] rfl ?_
                exact ih_lpi _ (by omega) (xy16) (bb + 1) _ rfl rfl (by omega) (by omega)
        refine z_lv (lv' := [(0, .ref (ad i)), (1, .int (zI ((n0 : Int)))), (2, .int (zI ((n1 : Int)))), (3, .int (zI (cn))), (4, .int (zI (aa))), (5, .int (zI (0)))]) [1, 2, 3, 4, 5, 0] rfl ?_
        exact lpi _ (cn) (0) _ rfl rfl (by omega) (by omega)
  refine z_iconst (z := 0) C dX10_namesInBoth_0 rfl ?_
  refine z_istore_n (lv' := [(3, .int (zI (0))), (0, .ref (ad i)), (1, .int (zI ((n0 : Int)))), (2, .int (zI ((n1 : Int))))]) C dX10_namesInBoth_1 rfl (by decide) rfl ?_
  refine z_iconst (z := 0) C dX10_namesInBoth_2 rfl ?_
  refine z_istore (lv' := [(4, .int (zI (0))), (3, .int (zI (0))), (0, .ref (ad i)), (1, .int (zI ((n0 : Int)))), (2, .int (zI ((n1 : Int))))]) C dX10_namesInBoth_3 (by decide) rfl ?_
  refine z_lv (lv' := [(0, .ref (ad i)), (1, .int (zI ((n0 : Int)))), (2, .int (zI ((n1 : Int)))), (3, .int (zI (0))), (4, .int (zI (0)))]) [2, 3, 4, 1, 0] rfl ?_
  exact lpo _ (0) (0) _ rfl rfl (by omega) (by omega)

set_option maxRecDepth 100000 in
set_option maxHeartbeats 4000000 in
theorem c_X10_laysPit25 (l : Launch) (D : va_G) (A : Nat → Prop) (cs : Nat → ClassId) (tt : Nat) (N : Nat) (ad : Nat → Nat) (g : Nat → va_E) (i : Nat) (hN : i + 30 ≤ N) (F : Nat → Int) (hg : g i = mC ad i F) (pi : Nat → Int) (ha12 : g (i + 12) = iA cs 1080 pi) (hPt : okPt pi) (ok1 : Nat → Int) (ha25 : g (i + 25) = iA cs 12 ok1) (kp : Nat) (hkp : kp < 6) : zM l yX10_laysPit cX10_laysPit 4 none ({ frames := 2, cells := 0, slots := 0, locals := 120 } : Room) D A cs tt N ad g [.ref (ad i), .int (zI ((kp : Int))), .ref (ad (i + 25))] (rV0 N ad fun g' => (∃ t' : Nat → Int, g' (i + 25) = iA cs 12 t') ∧ ∀ j, j ≠ i + 25 → g' j = g j) := by
  have hay1 : zAt ad (i) (ad i) := rfl
  have hay2 : zAt ad (i + 12) (ad (i + 12)) := rfl
  have hay3 : zAt ad (i + 25) (ad (i + 25)) := rfl
  have hpkkp := okPt.at hPt (k := kp) (by omega)
  refine z_of (by decide) (Nat.le_of_ble_eq_true rfl) ?_
  intro pZ eZ sZ mZ below meth cZ C hr hlk hnm
  refine z_lv (lv' := [(0, .ref (ad i)), (1, .int (zI ((kp : Int)))), (2, .ref (ad (i + 25)))]) [0, 1, 2] rfl ?_
  have lp : ∀ (n9 : Nat) (ll : Int) (t9 : Nat → Int) (g1 : Nat → va_E), (13 - ll).toNat = n9 → (g1 (i + 25) = iA cs 12 t9) → (∀ j, j ≠ i + 25 → g1 j = g j) → (0 ≤ ll ∧ ll ≤ 12) → zV pZ l eZ ({ frames := 2, cells := 0, slots := 0, locals := 120 } : Room) sZ mZ ([.ref (ad i), .int (zI ((kp : Int))), .ref (ad (i + 25))] : List Value).toArray below meth cZ (MQ below (zPost D A (rV0 N ad fun g' => (∃ t' : Nat → Int, g' (i + 25) = iA cs 12 t') ∧ ∀ j, j ≠ i + 25 → g' j = g j)) ([.ref (ad i), .int (zI ((kp : Int))), .ref (ad (i + 25))] : List Value).toArray sZ ({ frames := 2, cells := 0, slots := 0, locals := 120 } : Room).cells ({ frames := 2, cells := 0, slots := 0, locals := 120 } : Room).slots A) D A 4 (N) ad g1 (0) (0) 2 [(0, .ref (ad i)), (1, .int (zI ((kp : Int)))), (2, .ref (ad (i + 25))), (3, .int (zI (ll)))] [] := by
    intro n9
    induction n9 using Nat.strongRecOn with
    | ind n9 ih =>
      intro ll t9 g1 hm9 f2 f3 hv
      have hay4 : zAt ad (i) (ad i) := rfl
      have hay5 : zAt ad (i + 12) (ad (i + 12)) := rfl
      have hay6 : zAt ad (i + 25) (ad (i + 25)) := rfl
      refine z_iload_n C 3 dX10_laysPit_2 rfl ?_
      refine z_aload_n C 0 dX10_laysPit_3 rfl ?_
      refine z_iload_n C 1 dX10_laysPit_4 rfl ?_
      refine z_cV (As := [.int (zI ((kp : Int)))]) (rest := [.int (zI (ll))]) (ci := 12) C (c_X10_pitMany l D A cs tt N ad _ i hN _ ((f3 _ (by omega)).trans hg) _ ((f3 _ (by omega)).trans ha12) hPt kp (by omega)) (lt_A0 hN rfl) hay4 ((f3 _ (by omega)).trans hg) rfl rfl mv_yX10_pitMany q_2031 hd_yX10_pitMany (by decide) (Nat.le_of_ble_eq_true rfl) (by decide) dX10_laysPit_5 rfl (kI0 fun vy7 gvy7 hvy7 => ?_)
      obtain ⟨rfl, rfl⟩ := hvy7
      refine z_icmp_ge (tgt := 27) C dX10_laysPit_8 (by decide) (by omega) (by omega) (fun hby8 => ?_) (fun hby8 => ?_)
      · exact z_vret C hr hlk dX10_laysPit_27 (by decide) (by decide) ⟨rfl, rfl, rfl, ⟨_, f2⟩, fun j j1 => by exact f3 j j1⟩
      · refine z_aload_n C 2 dX10_laysPit_11 rfl ?_
        refine z_iload_n C 3 dX10_laysPit_12 rfl ?_
        refine z_aload_n C 0 dX10_laysPit_13 rfl ?_
        refine z_iload_n C 1 dX10_laysPit_14 rfl ?_
        refine z_iload_n C 3 dX10_laysPit_15 rfl ?_
        refine z_iconst (z := 0) C dX10_laysPit_16 rfl ?_
        refine z_cV (As := [.int (zI ((kp : Int))), .int (zI (ll)), .int (zI (0))]) (rest := [.int (zI (ll)), .ref (ad (i + 25))]) (ci := 12) C (c_X10_inPit l D A cs tt N ad _ i hN _ ((f3 _ (by omega)).trans hg) _ ((f3 _ (by omega)).trans ha12) hPt kp (by omega) (ll) (by omega) (0) (by omega)) (lt_A0 hN rfl) hay4 ((f3 _ (by omega)).trans hg) rfl rfl mv_yX10_inPit q_2043 hd_yX10_inPit (by decide) (Nat.le_of_ble_eq_true rfl) (by decide) dX10_laysPit_17 rfl (kI0 fun vy9 gvy9 hvy9 => ?_)
        obtain ⟨hvy9, rfl⟩ := hvy9
        refine z_iast C (lt_A (c := 25) hN rfl) hay6 f2 ((ll).toNat) (by omega) (by omega) (by decide) dX10_laysPit_20 (fun gy10 egy11 => ?_)
        have hgy12 := up_s egy11
        refine z_iinc (z := ll + 1) (lv' := [(3, .int (zI (ll + 1))), (0, .ref (ad i)), (1, .int (zI ((kp : Int)))), (2, .ref (ad (i + 25)))]) (j := 3) C dX10_laysPit_21 rfl rfl (by decide) rfl ?_
        refine z_goto (tgt := 2) C dX10_laysPit_24 (by decide) ?_
        refine z_lv (lv' := [(0, .ref (ad i)), (1, .int (zI ((kp : Int)))), (2, .ref (ad (i + 25))), (3, .int (zI (ll + 1)))]) [1, 2, 3, 0] rfl ?_
        exact ih _ (by omega) (ll + 1) _ gy10 rfl hgy12 (fun j j1 => by rw [egy11, va_up_ne _ _ (by omega)]; exact f3 j j1) (by omega)
  refine z_iconst (z := 0) C dX10_laysPit_0 rfl ?_
  refine z_istore_n (lv' := [(3, .int (zI (0))), (0, .ref (ad i)), (1, .int (zI ((kp : Int)))), (2, .ref (ad (i + 25)))]) C dX10_laysPit_1 rfl (by decide) rfl ?_
  refine z_lv (lv' := [(0, .ref (ad i)), (1, .int (zI ((kp : Int)))), (2, .ref (ad (i + 25))), (3, .int (zI (0)))]) [1, 2, 3, 0] rfl ?_
  exact lp _ (0) _ g rfl ha25 (fun j j1 => by rfl) (by omega)

set_option maxRecDepth 100000 in
set_option maxHeartbeats 4000000 in
theorem c_X10_laysPit26 (l : Launch) (D : va_G) (A : Nat → Prop) (cs : Nat → ClassId) (tt : Nat) (N : Nat) (ad : Nat → Nat) (g : Nat → va_E) (i : Nat) (hN : i + 30 ≤ N) (F : Nat → Int) (hg : g i = mC ad i F) (pi : Nat → Int) (ha12 : g (i + 12) = iA cs 1080 pi) (hPt : okPt pi) (ok2 : Nat → Int) (ha26 : g (i + 26) = iA cs 12 ok2) (kp : Nat) (hkp : kp < 6) : zM l yX10_laysPit cX10_laysPit 4 none ({ frames := 2, cells := 0, slots := 0, locals := 120 } : Room) D A cs tt N ad g [.ref (ad i), .int (zI ((kp : Int))), .ref (ad (i + 26))] (rV0 N ad fun g' => (∃ t' : Nat → Int, g' (i + 26) = iA cs 12 t') ∧ ∀ j, j ≠ i + 26 → g' j = g j) := by
  have hay1 : zAt ad (i) (ad i) := rfl
  have hay2 : zAt ad (i + 12) (ad (i + 12)) := rfl
  have hay3 : zAt ad (i + 26) (ad (i + 26)) := rfl
  have hpkkp := okPt.at hPt (k := kp) (by omega)
  refine z_of (by decide) (Nat.le_of_ble_eq_true rfl) ?_
  intro pZ eZ sZ mZ below meth cZ C hr hlk hnm
  refine z_lv (lv' := [(0, .ref (ad i)), (1, .int (zI ((kp : Int)))), (2, .ref (ad (i + 26)))]) [0, 1, 2] rfl ?_
  have lp : ∀ (n9 : Nat) (ll : Int) (t9 : Nat → Int) (g1 : Nat → va_E), (13 - ll).toNat = n9 → (g1 (i + 26) = iA cs 12 t9) → (∀ j, j ≠ i + 26 → g1 j = g j) → (0 ≤ ll ∧ ll ≤ 12) → zV pZ l eZ ({ frames := 2, cells := 0, slots := 0, locals := 120 } : Room) sZ mZ ([.ref (ad i), .int (zI ((kp : Int))), .ref (ad (i + 26))] : List Value).toArray below meth cZ (MQ below (zPost D A (rV0 N ad fun g' => (∃ t' : Nat → Int, g' (i + 26) = iA cs 12 t') ∧ ∀ j, j ≠ i + 26 → g' j = g j)) ([.ref (ad i), .int (zI ((kp : Int))), .ref (ad (i + 26))] : List Value).toArray sZ ({ frames := 2, cells := 0, slots := 0, locals := 120 } : Room).cells ({ frames := 2, cells := 0, slots := 0, locals := 120 } : Room).slots A) D A 4 (N) ad g1 (0) (0) 2 [(0, .ref (ad i)), (1, .int (zI ((kp : Int)))), (2, .ref (ad (i + 26))), (3, .int (zI (ll)))] [] := by
    intro n9
    induction n9 using Nat.strongRecOn with
    | ind n9 ih =>
      intro ll t9 g1 hm9 f2 f3 hv
      have hay4 : zAt ad (i) (ad i) := rfl
      have hay5 : zAt ad (i + 12) (ad (i + 12)) := rfl
      have hay6 : zAt ad (i + 26) (ad (i + 26)) := rfl
      refine z_iload_n C 3 dX10_laysPit_2 rfl ?_
      refine z_aload_n C 0 dX10_laysPit_3 rfl ?_
      refine z_iload_n C 1 dX10_laysPit_4 rfl ?_
      refine z_cV (As := [.int (zI ((kp : Int)))]) (rest := [.int (zI (ll))]) (ci := 12) C (c_X10_pitMany l D A cs tt N ad _ i hN _ ((f3 _ (by omega)).trans hg) _ ((f3 _ (by omega)).trans ha12) hPt kp (by omega)) (lt_A0 hN rfl) hay4 ((f3 _ (by omega)).trans hg) rfl rfl mv_yX10_pitMany q_2031 hd_yX10_pitMany (by decide) (Nat.le_of_ble_eq_true rfl) (by decide) dX10_laysPit_5 rfl (kI0 fun vy7 gvy7 hvy7 => ?_)
      obtain ⟨rfl, rfl⟩ := hvy7
      refine z_icmp_ge (tgt := 27) C dX10_laysPit_8 (by decide) (by omega) (by omega) (fun hby8 => ?_) (fun hby8 => ?_)
      · exact z_vret C hr hlk dX10_laysPit_27 (by decide) (by decide) ⟨rfl, rfl, rfl, ⟨_, f2⟩, fun j j1 => by exact f3 j j1⟩
      · refine z_aload_n C 2 dX10_laysPit_11 rfl ?_
        refine z_iload_n C 3 dX10_laysPit_12 rfl ?_
        refine z_aload_n C 0 dX10_laysPit_13 rfl ?_
        refine z_iload_n C 1 dX10_laysPit_14 rfl ?_
        refine z_iload_n C 3 dX10_laysPit_15 rfl ?_
        refine z_iconst (z := 0) C dX10_laysPit_16 rfl ?_
        refine z_cV (As := [.int (zI ((kp : Int))), .int (zI (ll)), .int (zI (0))]) (rest := [.int (zI (ll)), .ref (ad (i + 26))]) (ci := 12) C (c_X10_inPit l D A cs tt N ad _ i hN _ ((f3 _ (by omega)).trans hg) _ ((f3 _ (by omega)).trans ha12) hPt kp (by omega) (ll) (by omega) (0) (by omega)) (lt_A0 hN rfl) hay4 ((f3 _ (by omega)).trans hg) rfl rfl mv_yX10_inPit q_2043 hd_yX10_inPit (by decide) (Nat.le_of_ble_eq_true rfl) (by decide) dX10_laysPit_17 rfl (kI0 fun vy9 gvy9 hvy9 => ?_)
        obtain ⟨hvy9, rfl⟩ := hvy9
        refine z_iast C (lt_A (c := 26) hN rfl) hay6 f2 ((ll).toNat) (by omega) (by omega) (by decide) dX10_laysPit_20 (fun gy10 egy11 => ?_)
        have hgy12 := up_s egy11
        refine z_iinc (z := ll + 1) (lv' := [(3, .int (zI (ll + 1))), (0, .ref (ad i)), (1, .int (zI ((kp : Int)))), (2, .ref (ad (i + 26)))]) (j := 3) C dX10_laysPit_21 rfl rfl (by decide) rfl ?_
        refine z_goto (tgt := 2) C dX10_laysPit_24 (by decide) ?_
        refine z_lv (lv' := [(0, .ref (ad i)), (1, .int (zI ((kp : Int)))), (2, .ref (ad (i + 26))), (3, .int (zI (ll + 1)))]) [1, 2, 3, 0] rfl ?_
        exact ih _ (by omega) (ll + 1) _ gy10 rfl hgy12 (fun j j1 => by rw [egy11, va_up_ne _ _ (by omega)]; exact f3 j j1) (by omega)
  refine z_iconst (z := 0) C dX10_laysPit_0 rfl ?_
  refine z_istore_n (lv' := [(3, .int (zI (0))), (0, .ref (ad i)), (1, .int (zI ((kp : Int)))), (2, .ref (ad (i + 26)))]) C dX10_laysPit_1 rfl (by decide) rfl ?_
  refine z_lv (lv' := [(0, .ref (ad i)), (1, .int (zI ((kp : Int)))), (2, .ref (ad (i + 26))), (3, .int (zI (0)))]) [1, 2, 3, 0] rfl ?_
  exact lp _ (0) _ g rfl ha26 (fun j j1 => by rfl) (by omega)

set_option maxRecDepth 100000 in
set_option maxHeartbeats 4000000 in
theorem c_X10_folds (l : Launch) (D : va_G) (A : Nat → Prop) (cs : Nat → ClassId) (tt : Nat) (N : Nat) (ad : Nat → Nat) (g : Nat → va_E) (i : Nat) (hN : i + 30 ≤ N) (F : Nat → Int) (hg : g i = mC ad i F) (ok1 : Nat → Int) (ha25 : g (i + 25) = iA cs 12 ok1) (ok2 : Nat → Int) (ha26 : g (i + 26) = iA cs 12 ok2) (fo : Nat → Int) (ha27 : g (i + 27) = iA cs 169 fo) (h55 : 0 ≤ F 55 ∧ F 55 ≤ 12) (h56 : 0 ≤ F 56 ∧ F 56 ≤ 12) (z : Int) (hz : 0 ≤ z ∧ z ≤ 1) : zM l yX10_folds cX10_folds 6 (some .int) ({ frames := 2, cells := 0, slots := 0, locals := 120 } : Room) D A cs tt N ad g [.ref (ad i), .int (zI (z))] (rI0 N ad fun q g' => (-2147483648 ≤ q ∧ q ≤ 2147483647) ∧ (∃ t' : Nat → Int, g' (i + 27) = iA cs 169 t') ∧ ∀ j, j ≠ i + 27 → g' j = g j) := by
  have hay1 : zAt ad (i) (ad i) := rfl
  have hay2 : zAt ad (i + 25) (ad (i + 25)) := rfl
  have hay3 : zAt ad (i + 26) (ad (i + 26)) := rfl
  have hay4 : zAt ad (i + 27) (ad (i + 27)) := rfl
  refine z_of (by decide) (Nat.le_of_ble_eq_true rfl) ?_
  intro pZ eZ sZ mZ below meth cZ C hr hlk hnm
  refine z_lv (lv' := [(0, .ref (ad i)), (1, .int (zI (z)))]) [0, 1] rfl ?_
  have lpo : ∀ (n9 : Nat) (aa : Int) (t9 : Nat → Int) (g1 : Nat → va_E), (14 - aa).toNat = n9 → (g1 (i + 27) = iA cs 169 t9) → (∀ j, j ≠ i + 27 → g1 j = g j) → (0 ≤ aa ∧ aa ≤ F 55 + 1) → zV pZ l eZ ({ frames := 2, cells := 0, slots := 0, locals := 120 } : Room) sZ mZ ([.ref (ad i), .int (zI (z))] : List Value).toArray below meth cZ (MQ below (zPost D A (rI0 N ad fun q g' => (-2147483648 ≤ q ∧ q ≤ 2147483647) ∧ (∃ t' : Nat → Int, g' (i + 27) = iA cs 169 t') ∧ ∀ j, j ≠ i + 27 → g' j = g j)) ([.ref (ad i), .int (zI (z))] : List Value).toArray sZ ({ frames := 2, cells := 0, slots := 0, locals := 120 } : Room).cells ({ frames := 2, cells := 0, slots := 0, locals := 120 } : Room).slots A) D A 6 (N) ad g1 (0) (0) 2 [(0, .ref (ad i)), (1, .int (zI (z))), (2, .int (zI (aa)))] [] := by
    intro n9
    induction n9 using Nat.strongRecOn with
    | ind n9 ih_lpo =>
      intro aa t9 g1 hm9 f2 f3 hvo
      have hay5 : zAt ad (i) (ad i) := rfl
      have hay6 : zAt ad (i + 25) (ad (i + 25)) := rfl
      have hay7 : zAt ad (i + 26) (ad (i + 26)) := rfl
      have hay8 : zAt ad (i + 27) (ad (i + 27)) := rfl
      refine z_iload_n C 2 dX10_folds_2 rfl ?_
      refine z_aload_n C 0 dX10_folds_3 rfl ?_
      refine z_get (v := .int (zI (F 55))) C (lt_A0 hN rfl) hay5 ((f3 _ (by omega)).trans hg) rfl inA_X10 55 (by decide) q_1514 rfl (fv (F := F) (f := 55) rfl) dX10_folds_4 ?_
      refine z_icmp_gt (tgt := 210) C dX10_folds_7 (by decide) (by omega) (by omega) (fun hby9 => ?_) (fun hby9 => ?_)
      · refine z_aload_n C 0 dX10_folds_210 rfl ?_
        refine z_get (v := .ref (ad (i + 27))) C (lt_A0 hN rfl) hay5 ((f3 _ (by omega)).trans hg) rfl inA_X10 54 (by decide) q_1513 rfl rfl dX10_folds_211 ?_
        refine z_bipush (z := 13) C dX10_folds_214 (by decide) ?_
        refine z_aload_n C 0 dX10_folds_216 rfl ?_
        refine z_get (v := .int (zI (F 55))) C (lt_A0 hN rfl) hay5 ((f3 _ (by omega)).trans hg) rfl inA_X10 55 (by decide) q_1514 rfl (fv (F := F) (f := 55) rfl) dX10_folds_217 ?_
        refine z_imul C dX10_folds_220 ?_
        refine z_aload_n C 0 dX10_folds_221 rfl ?_
        refine z_get (v := .int (zI (F 56))) C (lt_A0 hN rfl) hay5 ((f3 _ (by omega)).trans hg) rfl inA_X10 56 (by decide) q_1515 rfl (fv (F := F) (f := 56) rfl) dX10_folds_222 ?_
        refine z_iadd C dX10_folds_225 ?_
        refine z_iald C (lt_A (c := 27) hN rfl) hay8 f2 (((13 * (F 55)) + (F 56)).toNat) (by omega) (by omega) (by decide) dX10_folds_226 ?_
        obtain ⟨xy10, exy11, hxy12⟩ := zI_of (zI (t9 (((13 * (F 55)) + (F 56)).toNat)))
        rw [exy11]
        exact z_iret C hr hlk dX10_folds_227 (by decide) (by decide) ⟨xy10, rfl, rfl, rfl, by omega, ⟨_, f2⟩, fun j j1 => by exact f3 j j1⟩
      · refine z_iconst (z := 0) C dX10_folds_10 rfl ?_
        refine z_istore_n (lv' := [(3, .int (zI (0))), (0, .ref (ad i)), (1, .int (zI (z))), (2, .int (zI (aa)))]) C dX10_folds_11 rfl (by decide) rfl ?_
        have lpi : ∀ (n9 : Nat) (bb : Int) (t9 : Nat → Int) (g1 : Nat → va_E), (14 - bb).toNat = n9 → (g1 (i + 27) = iA cs 169 t9) → (∀ j, j ≠ i + 27 → g1 j = g j) → (0 ≤ bb ∧ bb ≤ F 56 + 1) → zV pZ l eZ ({ frames := 2, cells := 0, slots := 0, locals := 120 } : Room) sZ mZ ([.ref (ad i), .int (zI (z))] : List Value).toArray below meth cZ (MQ below (zPost D A (rI0 N ad fun q g' => (-2147483648 ≤ q ∧ q ≤ 2147483647) ∧ (∃ t' : Nat → Int, g' (i + 27) = iA cs 169 t') ∧ ∀ j, j ≠ i + 27 → g' j = g j)) ([.ref (ad i), .int (zI (z))] : List Value).toArray sZ ({ frames := 2, cells := 0, slots := 0, locals := 120 } : Room).cells ({ frames := 2, cells := 0, slots := 0, locals := 120 } : Room).slots A) D A 6 (N) ad g1 (0) (0) 12 [(0, .ref (ad i)), (1, .int (zI (z))), (2, .int (zI (aa))), (3, .int (zI (bb)))] [] := by
          intro n9
          induction n9 using Nat.strongRecOn with
          | ind n9 ih_lpi =>
            intro bb t9 g1 hm9 f2 f3 hvi
            have hay13 : zAt ad (i) (ad i) := rfl
            have hay14 : zAt ad (i + 25) (ad (i + 25)) := rfl
            have hay15 : zAt ad (i + 26) (ad (i + 26)) := rfl
            have hay16 : zAt ad (i + 27) (ad (i + 27)) := rfl
            refine z_iload_n C 3 dX10_folds_12 rfl ?_
            refine z_aload_n C 0 dX10_folds_13 rfl ?_
            refine z_get (v := .int (zI (F 56))) C (lt_A0 hN rfl) hay13 ((f3 _ (by omega)).trans hg) rfl inA_X10 56 (by decide) q_1515 rfl (fv (F := F) (f := 56) rfl) dX10_folds_14 ?_
            refine z_icmp_gt (tgt := 204) C dX10_folds_17 (by decide) (by omega) (by omega) (fun hby17 => ?_) (fun hby17 => ?_)
            · refine z_iinc (z := aa + 1) (lv' := [(2, .int (zI (aa + 1))), (0, .ref (ad i)), (1, .int (zI (z))), (3, .int (zI (bb)))]) (j := 2) C dX10_folds_204 rfl rfl (by decide) rfl ?_
              refine z_goto (tgt := 2) C dX10_folds_207 (by decide) ?_
              refine z_lv (lv' := [(0, .ref (ad i)), (1, .int (zI (z))), (2, .int (zI (aa + 1)))]) [1, 2, 0] rfl ?_
              exact ih_lpo _ (by omega) (aa + 1) _ g1 rfl f2 (fun j j1 => by exact f3 j j1) (by omega)
            · refine z_bipush (z := 13) C dX10_folds_20 (by decide) ?_
              refine z_iload_n C 2 dX10_folds_22 rfl ?_
              refine z_imul C dX10_folds_23 ?_
              refine z_iload_n C 3 dX10_folds_24 rfl ?_
              refine z_iadd C dX10_folds_25 ?_
              refine z_istore (lv' := [(4, .int (zI ((13 * aa) + bb))), (0, .ref (ad i)), (1, .int (zI (z))), (2, .int (zI (aa))), (3, .int (zI (bb)))]) C dX10_folds_26 (by decide) rfl ?_
              refine z_iload_n C 3 dX10_folds_28 rfl ?_
              refine z_if_eq (tgt := 36) C dX10_folds_29 (by decide) (by omega) (fun hby18 => ?_) (fun hby18 => ?_)
              · refine z_aload_n C 1 dX10_folds_36 rfl ?_
                refine z_get (v := .ref (ad (i + 27))) C (lt_A0 hN rfl) hay13 ((f3 _ (by omega)).trans hg) rfl inA_X10 54 (by decide) q_1513 rfl rfl dX10_folds_37 ?_
                refine z_iload C 0 dX10_folds_40 rfl ?_
                refine z_iload_n C 2 dX10_folds_42 rfl ?_
                refine z_if_eq (tgt := 50) C dX10_folds_43 (by decide) (by omega) (fun hby19 => ?_) (fun hby19 => ?_)
                · refine z_iload_n C 3 dX10_folds_50 rfl ?_
                  refine z_iload_n C 4 dX10_folds_51 rfl ?_
                  refine z_iadd C dX10_folds_52 ?_
                  refine z_iast C (lt_A (c := 27) hN rfl) hay16 f2 (((13 * aa) + bb).toNat) (by omega) (by omega) (by decide) dX10_folds_53 (fun gy20 egy21 => ?_)
                  have hgy22 := up_s egy21
                  refine z_goto (tgt := 198) C dX10_folds_54 (by decide) ?_
                  refine z_iinc (z := bb + 1) (lv' := [(3, .int (zI (bb + 1))), (4, .int (zI ((13 * aa) + bb))), (0, .ref (ad i)), (1, .int (zI (z))), (2, .int (zI (aa)))]) (j := 4) C dX10_folds_198 rfl rfl (by decide) rfl ?_
                  refine z_goto (tgt := 12) C dX10_folds_201 (by decide) ?_
                  refine z_lv (lv' := [(0, .ref (ad i)), (1, .int (zI (z))), (2, .int (zI (aa))), (3, .int (zI (bb + 1)))]) [2, 3, 4, 0] rfl ?_
                  exact ih_lpi _ (by omega) (bb + 1) _ gy20 rfl hgy22 (fun j j1 => by rw [egy21, va_up_ne _ _ (by omega)]; exact f3 j j1) (by omega)
                · refine z_iconst (z := 0) C dX10_folds_46 rfl ?_
                  refine z_goto (tgt := 53) C dX10_folds_47 (by decide) ?_
                  refine z_iast C (lt_A (c := 27) hN rfl) hay16 f2 (((13 * aa) + bb).toNat) (by omega) (by omega) (by decide) dX10_folds_53 (fun gy23 egy24 => ?_)
                  have hgy25 := up_s egy24
                  refine z_goto (tgt := 198) C dX10_folds_54 (by decide) ?_
                  refine z_iinc (z := bb + 1) (lv' := [(3, .int (zI (bb + 1))), (4, .int (zI ((13 * aa) + bb))), (0, .ref (ad i)), (1, .int (zI (z))), (2, .int (zI (aa)))]) (j := 4) C dX10_folds_198 rfl rfl (by decide) rfl ?_
                  refine z_goto (tgt := 12) C dX10_folds_201 (by decide) ?_
                  refine z_lv (lv' := [(0, .ref (ad i)), (1, .int (zI (z))), (2, .int (zI (aa))), (3, .int (zI (bb + 1)))]) [2, 3, 4, 0] rfl ?_
                  exact ih_lpi _ (by omega) (bb + 1) _ gy23 rfl hgy25 (fun j j1 => by rw [egy24, va_up_ne _ _ (by omega)]; exact f3 j j1) (by omega)
              · refine z_iload_n C 4 dX10_folds_32 rfl ?_
                refine z_if_ne (tgt := 57) C dX10_folds_33 (by decide) (by omega) (fun hby26 => ?_) (fun hby26 => ?_)
                · refine z_aload_n C 1 dX10_folds_57 rfl ?_
                  refine z_get (v := .ref (ad (i + 25))) C (lt_A0 hN rfl) hay13 ((f3 _ (by omega)).trans hg) rfl inA_X10 52 (by decide) q_1511 rfl rfl dX10_folds_58 ?_
                  refine z_iload_n C 3 dX10_folds_61 rfl ?_
                  refine z_iconst (z := 1) C dX10_folds_62 rfl ?_
                  refine z_isub C dX10_folds_63 ?_
                  refine z_iald C (lt_A (c := 25) hN rfl) hay14 ((f3 _ (by omega)).trans ha25) ((aa - 1).toNat) (by omega) (by omega) (by decide) dX10_folds_64 ?_
                  refine z_aload_n C 1 dX10_folds_65 rfl ?_
                  refine z_get (v := .ref (ad (i + 26))) C (lt_A0 hN rfl) hay13 ((f3 _ (by omega)).trans hg) rfl inA_X10 53 (by decide) q_1512 rfl rfl dX10_folds_66 ?_
                  refine z_iload_n C 4 dX10_folds_69 rfl ?_
                  refine z_iconst (z := 1) C dX10_folds_70 rfl ?_
                  refine z_isub C dX10_folds_71 ?_
                  refine z_iald C (lt_A (c := 26) hN rfl) hay15 ((f3 _ (by omega)).trans ha26) ((bb - 1).toNat) (by omega) (by omega) (by decide) dX10_folds_72 ?_
                  obtain ⟨xy27, exy28, hxy29⟩ := zI_of (zI (ok2 ((bb - 1).toNat)))
                  rw [exy28]
                  obtain ⟨xy30, exy31, hxy32⟩ := zI_of (zI (ok1 ((aa - 1).toNat)))
                  rw [exy31]
                  refine z_icmp_ne (tgt := 80) C dX10_folds_73 (by decide) (by omega) (by omega) (fun hby33 => ?_) (fun hby33 => ?_)
                  · refine z_iconst (z := 0) C dX10_folds_80 rfl ?_
                    refine z_istore (lv' := [(5, .int (zI (0))), (4, .int (zI ((13 * aa) + bb))), (0, .ref (ad i)), (1, .int (zI (z))), (2, .int (zI (aa))), (3, .int (zI (bb)))]) C dX10_folds_81 (by decide) rfl ?_
                    refine z_iload_n C 3 dX10_folds_83 rfl ?_
                    refine z_if_eq (tgt := 143) C dX10_folds_84 (by decide) (by omega) (fun hby34 => ?_) (fun hby34 => ?_)
                    · refine z_aload_n C 2 dX10_folds_143 rfl ?_
                      refine z_get (v := .ref (ad (i + 27))) C (lt_A0 hN rfl) hay13 ((f3 _ (by omega)).trans hg) rfl inA_X10 54 (by decide) q_1513 rfl rfl dX10_folds_144 ?_
                      refine z_iload C 1 dX10_folds_147 rfl ?_
                      refine z_aload_n C 2 dX10_folds_149 rfl ?_
                      refine z_get (v := .ref (ad (i + 27))) C (lt_A0 hN rfl) hay13 ((f3 _ (by omega)).trans hg) rfl inA_X10 54 (by decide) q_1513 rfl rfl dX10_folds_150 ?_
                      refine z_iload C 1 dX10_folds_153 rfl ?_
                      refine z_bipush (z := 13) C dX10_folds_155 (by decide) ?_
                      refine z_isub C dX10_folds_157 ?_
                      refine z_iald C (lt_A (c := 27) hN rfl) hay16 f2 ((((13 * aa) + bb) - 13).toNat) (by omega) (by omega) (by decide) dX10_folds_158 ?_
                      refine z_aload_n C 2 dX10_folds_159 rfl ?_
                      refine z_get (v := .ref (ad (i + 27))) C (lt_A0 hN rfl) hay13 ((f3 _ (by omega)).trans hg) rfl inA_X10 54 (by decide) q_1513 rfl rfl dX10_folds_160 ?_
                      refine z_iload C 1 dX10_folds_163 rfl ?_
                      refine z_iconst (z := 1) C dX10_folds_165 rfl ?_
                      refine z_isub C dX10_folds_166 ?_
                      refine z_iald C (lt_A (c := 27) hN rfl) hay16 f2 ((((13 * aa) + bb) - 1).toNat) (by omega) (by omega) (by decide) dX10_folds_167 ?_
                      obtain ⟨xy35, exy36, hxy37⟩ := zI_of (zI (t9 ((((13 * aa) + bb) - 1).toNat)))
                      rw [exy36]
                      obtain ⟨xy38, exy39, hxy40⟩ := zI_of (zI (t9 ((((13 * aa) + bb) - 13).toNat)))
                      rw [exy39]
                      refine z_cS (As := [.int (zI (xy38)), .int (zI (xy35))]) (rest := [.int (zI ((13 * aa) + bb)), .ref (ad (i + 27))]) C (c_X10_lesser l D A cs tt N ad _ (xy38) (by omega) (xy35) (by omega)) ms_yX10_lesser q_1792 hd_yX10_lesser (by decide) (Nat.le_of_ble_eq_true rfl) (by decide) dX10_folds_168 rfl (kI0 fun vy41 gvy41 hvy41 => ?_)
                      obtain ⟨hvy41, rfl⟩ := hvy41
                      refine z_iconst (z := 1) C dX10_folds_171 rfl ?_
                      refine z_iadd C dX10_folds_172 ?_
                      refine z_aload_n C 2 dX10_folds_173 rfl ?_
                      refine z_get (v := .ref (ad (i + 27))) C (lt_A0 hN rfl) hay13 ((f3 _ (by omega)).trans hg) rfl inA_X10 54 (by decide) q_1513 rfl rfl dX10_folds_174 ?_
                      refine z_iload C 1 dX10_folds_177 rfl ?_
                      refine z_bipush (z := 14) C dX10_folds_179 (by decide) ?_
                      refine z_isub C dX10_folds_181 ?_
                      refine z_iald C (lt_A (c := 27) hN rfl) hay16 f2 ((((13 * aa) + bb) - 14).toNat) (by omega) (by omega) (by decide) dX10_folds_182 ?_
                      refine z_iload C 0 dX10_folds_183 rfl ?_
                      refine z_if_eq (tgt := 192) C dX10_folds_185 (by decide) (by omega) (fun _ => ?_) (fun h => absurd h (by omega))
                      refine z_iconst (z := 1) C dX10_folds_192 rfl ?_
                      refine z_iadd C dX10_folds_193 ?_
                      obtain ⟨xy42, exy43, hxy44⟩ := zI_of (zI ((t9 ((((13 * aa) + bb) - 14).toNat)) + 1))
                      rw [exy43]
                      obtain ⟨xy45, exy46, hxy47⟩ := zI_of (zI (vy41 + 1))
                      rw [exy46]
                      refine z_cS (As := [.int (zI (xy45)), .int (zI (xy42))]) (rest := [.int (zI ((13 * aa) + bb)), .ref (ad (i + 27))]) C (c_X10_lesser l D A cs tt N ad _ (xy45) (by omega) (xy42) (by omega)) ms_yX10_lesser q_1792 hd_yX10_lesser (by decide) (Nat.le_of_ble_eq_true rfl) (by decide) dX10_folds_194 rfl (kI0 fun vy48 gvy48 hvy48 => ?_)
                      obtain ⟨hvy48, rfl⟩ := hvy48
                      refine z_iast C (lt_A (c := 27) hN rfl) hay16 f2 (((13 * aa) + bb).toNat) (by omega) (by omega) (by decide) dX10_folds_197 (fun gy49 egy50 => ?_)
                      have hgy51 := up_s egy50
                      refine z_iinc (z := bb + 1) (lv' := [(3, .int (zI (bb + 1))), (5, .int (zI (0))), (4, .int (zI ((13 * aa) + bb))), (0, .ref (ad i)), (1, .int (zI (z))), (2, .int (zI (aa)))]) (j := 5) C dX10_folds_198 rfl rfl (by decide) rfl ?_
                      refine z_goto (tgt := 12) C dX10_folds_201 (by decide) ?_
                      refine z_lv (lv' := [(0, .ref (ad i)), (1, .int (zI (z))), (2, .int (zI (aa))), (3, .int (zI (bb + 1)))]) [3, 4, 5, 0] rfl ?_
                      exact ih_lpi _ (by omega) (bb + 1) _ gy49 rfl hgy51 (fun j j1 => by rw [egy50, va_up_ne _ _ (by omega)]; exact f3 j j1) (by omega)
                    · refine z_aload_n C 2 dX10_folds_87 rfl ?_
                      refine z_get (v := .ref (ad (i + 27))) C (lt_A0 hN rfl) hay13 ((f3 _ (by omega)).trans hg) rfl inA_X10 54 (by decide) q_1513 rfl rfl dX10_folds_88 ?_
                      refine z_iload C 1 dX10_folds_91 rfl ?_
                      refine z_aload_n C 2 dX10_folds_93 rfl ?_
                      refine z_get (v := .ref (ad (i + 27))) C (lt_A0 hN rfl) hay13 ((f3 _ (by omega)).trans hg) rfl inA_X10 54 (by decide) q_1513 rfl rfl dX10_folds_94 ?_
                      refine z_iload C 1 dX10_folds_97 rfl ?_
                      refine z_bipush (z := 13) C dX10_folds_99 (by decide) ?_
                      refine z_isub C dX10_folds_101 ?_
                      refine z_iald C (lt_A (c := 27) hN rfl) hay16 f2 ((((13 * aa) + bb) - 13).toNat) (by omega) (by omega) (by decide) dX10_folds_102 ?_
                      refine z_aload_n C 2 dX10_folds_103 rfl ?_
                      refine z_get (v := .ref (ad (i + 27))) C (lt_A0 hN rfl) hay13 ((f3 _ (by omega)).trans hg) rfl inA_X10 54 (by decide) q_1513 rfl rfl dX10_folds_104 ?_
                      refine z_iload C 1 dX10_folds_107 rfl ?_
                      refine z_iconst (z := 1) C dX10_folds_109 rfl ?_
                      refine z_isub C dX10_folds_110 ?_
                      refine z_iald C (lt_A (c := 27) hN rfl) hay16 f2 ((((13 * aa) + bb) - 1).toNat) (by omega) (by omega) (by decide) dX10_folds_111 ?_
                      obtain ⟨xy52, exy53, hxy54⟩ := zI_of (zI (t9 ((((13 * aa) + bb) - 1).toNat)))
                      rw [exy53]
                      obtain ⟨xy55, exy56, hxy57⟩ := zI_of (zI (t9 ((((13 * aa) + bb) - 13).toNat)))
                      rw [exy56]
                      refine z_cS (As := [.int (zI (xy55)), .int (zI (xy52))]) (rest := [.int (zI ((13 * aa) + bb)), .ref (ad (i + 27))]) C (c_X10_greater l D A cs tt N ad _ (xy55) (by omega) (xy52) (by omega)) ms_yX10_greater q_1905 hd_yX10_greater (by decide) (Nat.le_of_ble_eq_true rfl) (by decide) dX10_folds_112 rfl (kI0 fun vy58 gvy58 hvy58 => ?_)
                      obtain ⟨hvy58, rfl⟩ := hvy58
                      refine z_aload_n C 2 dX10_folds_115 rfl ?_
                      refine z_get (v := .ref (ad (i + 27))) C (lt_A0 hN rfl) hay13 ((f3 _ (by omega)).trans hg) rfl inA_X10 54 (by decide) q_1513 rfl rfl dX10_folds_116 ?_
                      refine z_iload C 1 dX10_folds_119 rfl ?_
                      refine z_bipush (z := 14) C dX10_folds_121 (by decide) ?_
                      refine z_isub C dX10_folds_123 ?_
                      refine z_iald C (lt_A (c := 27) hN rfl) hay16 f2 ((((13 * aa) + bb) - 14).toNat) (by omega) (by omega) (by decide) dX10_folds_124 ?_
                      refine z_iload C 0 dX10_folds_125 rfl ?_
                      refine z_if_eq (tgt := 134) C dX10_folds_127 (by decide) (by omega) (fun _ => ?_) (fun h => absurd h (by omega))
                      refine z_iconst (z := 0) C dX10_folds_134 rfl ?_
                      refine z_iadd C dX10_folds_135 ?_
                      obtain ⟨xy59, exy60, hxy61⟩ := zI_of (zI ((t9 ((((13 * aa) + bb) - 14).toNat)) + 0))
                      rw [exy60]
                      refine z_cS (As := [.int (zI (vy58)), .int (zI (xy59))]) (rest := [.int (zI ((13 * aa) + bb)), .ref (ad (i + 27))]) C (c_X10_greater l D A cs tt N ad _ (vy58) (by omega) (xy59) (by omega)) ms_yX10_greater q_1905 hd_yX10_greater (by decide) (Nat.le_of_ble_eq_true rfl) (by decide) dX10_folds_136 rfl (kI0 fun vy62 gvy62 hvy62 => ?_)
                      obtain ⟨hvy62, rfl⟩ := hvy62
                      refine z_iast C (lt_A (c := 27) hN rfl) hay16 f2 (((13 * aa) + bb).toNat) (by omega) (by omega) (by decide) dX10_folds_139 (fun gy63 egy64 => ?_)
                      have hgy65 := up_s egy64
                      refine z_goto (tgt := 198) C dX10_folds_140 (by decide) ?_
                      refine z_iinc (z := bb + 1) (lv' := [(3, .int (zI (bb + 1))), (5, .int (zI (0))), (4, .int (zI ((13 * aa) + bb))), (0, .ref (ad i)), (1, .int (zI (z))), (2, .int (zI (aa)))]) (j := 5) C dX10_folds_198 rfl rfl (by decide) rfl ?_
                      refine z_goto (tgt := 12) C dX10_folds_201 (by decide) ?_
                      refine z_lv (lv' := [(0, .ref (ad i)), (1, .int (zI (z))), (2, .int (zI (aa))), (3, .int (zI (bb + 1)))]) [3, 4, 5, 0] rfl ?_
                      exact ih_lpi _ (by omega) (bb + 1) _ gy63 rfl hgy65 (fun j j1 => by rw [egy64, va_up_ne _ _ (by omega)]; exact f3 j j1) (by omega)
                  · refine z_iconst (z := 1) C dX10_folds_76 rfl ?_
                    refine z_goto (tgt := 81) C dX10_folds_77 (by decide) ?_
                    refine z_istore (lv' := [(5, .int (zI (1))), (4, .int (zI ((13 * aa) + bb))), (0, .ref (ad i)), (1, .int (zI (z))), (2, .int (zI (aa))), (3, .int (zI (bb)))]) C dX10_folds_81 (by decide) rfl ?_
                    refine z_iload_n C 3 dX10_folds_83 rfl ?_
                    refine z_if_eq (tgt := 143) C dX10_folds_84 (by decide) (by omega) (fun hby66 => ?_) (fun hby66 => ?_)
                    · refine z_aload_n C 2 dX10_folds_143 rfl ?_
                      refine z_get (v := .ref (ad (i + 27))) C (lt_A0 hN rfl) hay13 ((f3 _ (by omega)).trans hg) rfl inA_X10 54 (by decide) q_1513 rfl rfl dX10_folds_144 ?_
                      refine z_iload C 1 dX10_folds_147 rfl ?_
                      refine z_aload_n C 2 dX10_folds_149 rfl ?_
                      refine z_get (v := .ref (ad (i + 27))) C (lt_A0 hN rfl) hay13 ((f3 _ (by omega)).trans hg) rfl inA_X10 54 (by decide) q_1513 rfl rfl dX10_folds_150 ?_
                      refine z_iload C 1 dX10_folds_153 rfl ?_
                      refine z_bipush (z := 13) C dX10_folds_155 (by decide) ?_
                      refine z_isub C dX10_folds_157 ?_
                      refine z_iald C (lt_A (c := 27) hN rfl) hay16 f2 ((((13 * aa) + bb) - 13).toNat) (by omega) (by omega) (by decide) dX10_folds_158 ?_
                      refine z_aload_n C 2 dX10_folds_159 rfl ?_
                      refine z_get (v := .ref (ad (i + 27))) C (lt_A0 hN rfl) hay13 ((f3 _ (by omega)).trans hg) rfl inA_X10 54 (by decide) q_1513 rfl rfl dX10_folds_160 ?_
                      refine z_iload C 1 dX10_folds_163 rfl ?_
                      refine z_iconst (z := 1) C dX10_folds_165 rfl ?_
                      refine z_isub C dX10_folds_166 ?_
                      refine z_iald C (lt_A (c := 27) hN rfl) hay16 f2 ((((13 * aa) + bb) - 1).toNat) (by omega) (by omega) (by decide) dX10_folds_167 ?_
                      obtain ⟨xy67, exy68, hxy69⟩ := zI_of (zI (t9 ((((13 * aa) + bb) - 1).toNat)))
                      rw [exy68]
                      obtain ⟨xy70, exy71, hxy72⟩ := zI_of (zI (t9 ((((13 * aa) + bb) - 13).toNat)))
                      rw [exy71]
                      refine z_cS (As := [.int (zI (xy70)), .int (zI (xy67))]) (rest := [.int (zI ((13 * aa) + bb)), .ref (ad (i + 27))]) C (c_X10_lesser l D A cs tt N ad _ (xy70) (by omega) (xy67) (by omega)) ms_yX10_lesser q_1792 hd_yX10_lesser (by decide) (Nat.le_of_ble_eq_true rfl) (by decide) dX10_folds_168 rfl (kI0 fun vy73 gvy73 hvy73 => ?_)
                      obtain ⟨hvy73, rfl⟩ := hvy73
                      refine z_iconst (z := 1) C dX10_folds_171 rfl ?_
                      refine z_iadd C dX10_folds_172 ?_
                      refine z_aload_n C 2 dX10_folds_173 rfl ?_
                      refine z_get (v := .ref (ad (i + 27))) C (lt_A0 hN rfl) hay13 ((f3 _ (by omega)).trans hg) rfl inA_X10 54 (by decide) q_1513 rfl rfl dX10_folds_174 ?_
                      refine z_iload C 1 dX10_folds_177 rfl ?_
                      refine z_bipush (z := 14) C dX10_folds_179 (by decide) ?_
                      refine z_isub C dX10_folds_181 ?_
                      refine z_iald C (lt_A (c := 27) hN rfl) hay16 f2 ((((13 * aa) + bb) - 14).toNat) (by omega) (by omega) (by decide) dX10_folds_182 ?_
                      refine z_iload C 0 dX10_folds_183 rfl ?_
                      refine z_if_eq (tgt := 192) C dX10_folds_185 (by decide) (by omega) (fun h => absurd h (by omega)) (fun _ => ?_)
                      refine z_iconst (z := 0) C dX10_folds_188 rfl ?_
                      refine z_goto (tgt := 193) C dX10_folds_189 (by decide) ?_
                      refine z_iadd C dX10_folds_193 ?_
                      obtain ⟨xy74, exy75, hxy76⟩ := zI_of (zI ((t9 ((((13 * aa) + bb) - 14).toNat)) + 0))
                      rw [exy75]
                      obtain ⟨xy77, exy78, hxy79⟩ := zI_of (zI (vy73 + 1))
                      rw [exy78]
                      refine z_cS (As := [.int (zI (xy77)), .int (zI (xy74))]) (rest := [.int (zI ((13 * aa) + bb)), .ref (ad (i + 27))]) C (c_X10_lesser l D A cs tt N ad _ (xy77) (by omega) (xy74) (by omega)) ms_yX10_lesser q_1792 hd_yX10_lesser (by decide) (Nat.le_of_ble_eq_true rfl) (by decide) dX10_folds_194 rfl (kI0 fun vy80 gvy80 hvy80 => ?_)
                      obtain ⟨hvy80, rfl⟩ := hvy80
                      refine z_iast C (lt_A (c := 27) hN rfl) hay16 f2 (((13 * aa) + bb).toNat) (by omega) (by omega) (by decide) dX10_folds_197 (fun gy81 egy82 => ?_)
                      have hgy83 := up_s egy82
                      refine z_iinc (z := bb + 1) (lv' := [(3, .int (zI (bb + 1))), (5, .int (zI (1))), (4, .int (zI ((13 * aa) + bb))), (0, .ref (ad i)), (1, .int (zI (z))), (2, .int (zI (aa)))]) (j := 5) C dX10_folds_198 rfl rfl (by decide) rfl ?_
                      refine z_goto (tgt := 12) C dX10_folds_201 (by decide) ?_
                      refine z_lv (lv' := [(0, .ref (ad i)), (1, .int (zI (z))), (2, .int (zI (aa))), (3, .int (zI (bb + 1)))]) [3, 4, 5, 0] rfl ?_
                      exact ih_lpi _ (by omega) (bb + 1) _ gy81 rfl hgy83 (fun j j1 => by rw [egy82, va_up_ne _ _ (by omega)]; exact f3 j j1) (by omega)
                    · refine z_aload_n C 2 dX10_folds_87 rfl ?_
                      refine z_get (v := .ref (ad (i + 27))) C (lt_A0 hN rfl) hay13 ((f3 _ (by omega)).trans hg) rfl inA_X10 54 (by decide) q_1513 rfl rfl dX10_folds_88 ?_
                      refine z_iload C 1 dX10_folds_91 rfl ?_
                      refine z_aload_n C 2 dX10_folds_93 rfl ?_
                      refine z_get (v := .ref (ad (i + 27))) C (lt_A0 hN rfl) hay13 ((f3 _ (by omega)).trans hg) rfl inA_X10 54 (by decide) q_1513 rfl rfl dX10_folds_94 ?_
                      refine z_iload C 1 dX10_folds_97 rfl ?_
                      refine z_bipush (z := 13) C dX10_folds_99 (by decide) ?_
                      refine z_isub C dX10_folds_101 ?_
                      refine z_iald C (lt_A (c := 27) hN rfl) hay16 f2 ((((13 * aa) + bb) - 13).toNat) (by omega) (by omega) (by decide) dX10_folds_102 ?_
                      refine z_aload_n C 2 dX10_folds_103 rfl ?_
                      refine z_get (v := .ref (ad (i + 27))) C (lt_A0 hN rfl) hay13 ((f3 _ (by omega)).trans hg) rfl inA_X10 54 (by decide) q_1513 rfl rfl dX10_folds_104 ?_
                      refine z_iload C 1 dX10_folds_107 rfl ?_
                      refine z_iconst (z := 1) C dX10_folds_109 rfl ?_
                      refine z_isub C dX10_folds_110 ?_
                      refine z_iald C (lt_A (c := 27) hN rfl) hay16 f2 ((((13 * aa) + bb) - 1).toNat) (by omega) (by omega) (by decide) dX10_folds_111 ?_
                      obtain ⟨xy84, exy85, hxy86⟩ := zI_of (zI (t9 ((((13 * aa) + bb) - 1).toNat)))
                      rw [exy85]
                      obtain ⟨xy87, exy88, hxy89⟩ := zI_of (zI (t9 ((((13 * aa) + bb) - 13).toNat)))
                      rw [exy88]
                      refine z_cS (As := [.int (zI (xy87)), .int (zI (xy84))]) (rest := [.int (zI ((13 * aa) + bb)), .ref (ad (i + 27))]) C (c_X10_greater l D A cs tt N ad _ (xy87) (by omega) (xy84) (by omega)) ms_yX10_greater q_1905 hd_yX10_greater (by decide) (Nat.le_of_ble_eq_true rfl) (by decide) dX10_folds_112 rfl (kI0 fun vy90 gvy90 hvy90 => ?_)
                      obtain ⟨hvy90, rfl⟩ := hvy90
                      refine z_aload_n C 2 dX10_folds_115 rfl ?_
                      refine z_get (v := .ref (ad (i + 27))) C (lt_A0 hN rfl) hay13 ((f3 _ (by omega)).trans hg) rfl inA_X10 54 (by decide) q_1513 rfl rfl dX10_folds_116 ?_
                      refine z_iload C 1 dX10_folds_119 rfl ?_
                      refine z_bipush (z := 14) C dX10_folds_121 (by decide) ?_
                      refine z_isub C dX10_folds_123 ?_
                      refine z_iald C (lt_A (c := 27) hN rfl) hay16 f2 ((((13 * aa) + bb) - 14).toNat) (by omega) (by omega) (by decide) dX10_folds_124 ?_
                      refine z_iload C 0 dX10_folds_125 rfl ?_
                      refine z_if_eq (tgt := 134) C dX10_folds_127 (by decide) (by omega) (fun h => absurd h (by omega)) (fun _ => ?_)
                      refine z_iconst (z := 1) C dX10_folds_130 rfl ?_
                      refine z_goto (tgt := 135) C dX10_folds_131 (by decide) ?_
                      refine z_iadd C dX10_folds_135 ?_
                      obtain ⟨xy91, exy92, hxy93⟩ := zI_of (zI ((t9 ((((13 * aa) + bb) - 14).toNat)) + 1))
                      rw [exy92]
                      refine z_cS (As := [.int (zI (vy90)), .int (zI (xy91))]) (rest := [.int (zI ((13 * aa) + bb)), .ref (ad (i + 27))]) C (c_X10_greater l D A cs tt N ad _ (vy90) (by omega) (xy91) (by omega)) ms_yX10_greater q_1905 hd_yX10_greater (by decide) (Nat.le_of_ble_eq_true rfl) (by decide) dX10_folds_136 rfl (kI0 fun vy94 gvy94 hvy94 => ?_)
                      obtain ⟨hvy94, rfl⟩ := hvy94
                      refine z_iast C (lt_A (c := 27) hN rfl) hay16 f2 (((13 * aa) + bb).toNat) (by omega) (by omega) (by decide) dX10_folds_139 (fun gy95 egy96 => ?_)
                      have hgy97 := up_s egy96
                      refine z_goto (tgt := 198) C dX10_folds_140 (by decide) ?_
                      refine z_iinc (z := bb + 1) (lv' := [(3, .int (zI (bb + 1))), (5, .int (zI (1))), (4, .int (zI ((13 * aa) + bb))), (0, .ref (ad i)), (1, .int (zI (z))), (2, .int (zI (aa)))]) (j := 5) C dX10_folds_198 rfl rfl (by decide) rfl ?_
                      refine z_goto (tgt := 12) C dX10_folds_201 (by decide) ?_
                      refine z_lv (lv' := [(0, .ref (ad i)), (1, .int (zI (z))), (2, .int (zI (aa))), (3, .int (zI (bb + 1)))]) [3, 4, 5, 0] rfl ?_
                      exact ih_lpi _ (by omega) (bb + 1) _ gy95 rfl hgy97 (fun j j1 => by rw [egy96, va_up_ne _ _ (by omega)]; exact f3 j j1) (by omega)
                · refine z_aload_n C 1 dX10_folds_36 rfl ?_
                  refine z_get (v := .ref (ad (i + 27))) C (lt_A0 hN rfl) hay13 ((f3 _ (by omega)).trans hg) rfl inA_X10 54 (by decide) q_1513 rfl rfl dX10_folds_37 ?_
                  refine z_iload C 0 dX10_folds_40 rfl ?_
                  refine z_iload_n C 2 dX10_folds_42 rfl ?_
                  refine z_if_eq (tgt := 50) C dX10_folds_43 (by decide) (by omega) (fun hby98 => ?_) (fun hby98 => ?_)
                  · refine z_iload_n C 3 dX10_folds_50 rfl ?_
                    refine z_iload_n C 4 dX10_folds_51 rfl ?_
                    refine z_iadd C dX10_folds_52 ?_
                    refine z_iast C (lt_A (c := 27) hN rfl) hay16 f2 (((13 * aa) + bb).toNat) (by omega) (by omega) (by decide) dX10_folds_53 (fun gy99 egy100 => ?_)
                    have hgy101 := up_s egy100
                    refine z_goto (tgt := 198) C dX10_folds_54 (by decide) ?_
                    refine z_iinc (z := bb + 1) (lv' := [(3, .int (zI (bb + 1))), (4, .int (zI ((13 * aa) + bb))), (0, .ref (ad i)), (1, .int (zI (z))), (2, .int (zI (aa)))]) (j := 4) C dX10_folds_198 rfl rfl (by decide) rfl ?_
                    refine z_goto (tgt := 12) C dX10_folds_201 (by decide) ?_
                    refine z_lv (lv' := [(0, .ref (ad i)), (1, .int (zI (z))), (2, .int (zI (aa))), (3, .int (zI (bb + 1)))]) [2, 3, 4, 0] rfl ?_
                    exact ih_lpi _ (by omega) (bb + 1) _ gy99 rfl hgy101 (fun j j1 => by rw [egy100, va_up_ne _ _ (by omega)]; exact f3 j j1) (by omega)
                  · refine z_iconst (z := 0) C dX10_folds_46 rfl ?_
                    refine z_goto (tgt := 53) C dX10_folds_47 (by decide) ?_
                    refine z_iast C (lt_A (c := 27) hN rfl) hay16 f2 (((13 * aa) + bb).toNat) (by omega) (by omega) (by decide) dX10_folds_53 (fun gy102 egy103 => ?_)
                    have hgy104 := up_s egy103
                    refine z_goto (tgt := 198) C dX10_folds_54 (by decide) ?_
                    refine z_iinc (z := bb + 1) (lv' := [(3, .int (zI (bb + 1))), (4, .int (zI ((13 * aa) + bb))), (0, .ref (ad i)), (1, .int (zI (z))), (2, .int (zI (aa)))]) (j := 4) C dX10_folds_198 rfl rfl (by decide) rfl ?_
                    refine z_goto (tgt := 12) C dX10_folds_201 (by decide) ?_
                    refine z_lv (lv' := [(0, .ref (ad i)), (1, .int (zI (z))), (2, .int (zI (aa))), (3, .int (zI (bb + 1)))]) [2, 3, 4, 0] rfl ?_
                    exact ih_lpi _ (by omega) (bb + 1) _ gy102 rfl hgy104 (fun j j1 => by rw [egy103, va_up_ne _ _ (by omega)]; exact f3 j j1) (by omega)
        refine z_lv (lv' := [(0, .ref (ad i)), (1, .int (zI (z))), (2, .int (zI (aa))), (3, .int (zI (0)))]) [1, 2, 3, 0] rfl ?_
        exact lpi _ (0) _ g1 rfl f2 (fun j j1 => by exact f3 j j1) (by omega)
  refine z_iconst (z := 0) C dX10_folds_0 rfl ?_
  refine z_istore_n (lv' := [(2, .int (zI (0))), (0, .ref (ad i)), (1, .int (zI (z)))]) C dX10_folds_1 rfl (by decide) rfl ?_
  refine z_lv (lv' := [(0, .ref (ad i)), (1, .int (zI (z))), (2, .int (zI (0)))]) [1, 2, 0] rfl ?_
  exact lpo _ (0) _ g rfl ha27 (fun j j1 => by rfl) (by omega)

def fdw (z z1 z2 z3 z4 : Int) (j : Nat) : Int := if j < 4 then z else if j < 8 then z1 else if j < 12 then z2 else if j < 16 then z3 else z4

set_option maxRecDepth 100000 in
set_option maxHeartbeats 4000000 in
theorem c_X10_feed (l : Launch) (D : va_G) (A : Nat → Prop) (cs : Nat → ClassId) (tt : Nat) (N : Nat) (ad : Nat → Nat) (g : Nat → va_E) (i : Nat) (hN : i + 30 ≤ N) (x : Int) (hx : 0 ≤ x ∧ x ≤ 512) (F r : Nat → Int) {st op ai fa mu tb tp : Nat → Int} (hM : okMr cs ad g i x F r st op ai fa mu tb tp) (hPl : F 25 = 0 ∧ F 26 = -1 ∧ F 27 = -1 ∧ F 29 = 0) (z : Int) (hz : -2147483648 ≤ z ∧ z ≤ 2147483647) (z1 : Int) (hz1 : -2147483648 ≤ z1 ∧ z1 ≤ 2147483647) (z2 : Int) (hz2 : -2147483648 ≤ z2 ∧ z2 ≤ 2147483647) (z3 : Int) (hz3 : -2147483648 ≤ z3 ∧ z3 ≤ 2147483647) (z4 : Int) (hz4 : -2147483648 ≤ z4 ∧ z4 ≤ 2147483647) : zM l yX10_feed cX10_feed 8 (some .int) ({ frames := 1, cells := 0, slots := 0, locals := 60 } : Room) D A cs tt N ad g [.ref (ad i), .int (zI (z)), .int (zI (z1)), .int (zI (z2)), .int (zI (z3)), .int (zI (z4))] (rI0 N ad fun q g' => (∃ F' r' tp' : Nat → Int, okMr cs ad g' i (x + 1) F' r' st op ai fa mu tb tp' ∧ (F' 13 = F 13 ∧ F' 14 = F 14 ∧ F' 15 = F 15 ∧ F' 16 = F 16 ∧ F' 17 = F 17 ∧ F' 18 = F 18 ∧ F' 19 = F 19 ∧ F' 20 = F 20 ∧ F' 21 = F 21 ∧ F' 23 = F' 23 ∧ F' 24 = F 24) ∧ (F' 25 = 0 ∧ F' 26 = -1 ∧ F' 27 = -1 ∧ F' 29 = 0) ∧ (∀ j, j < 350 ∨ 700 ≤ j → r' j = r j) ∧ ((900 < F 23 + 20 ∧ q = -1 ∧ F' 23 = F 23 ∧ tp' = tp) ∨ (F 23 + 20 ≤ 900 ∧ q = F 23 + 20 ∧ F' 23 = F 23 + 20 ∧ (∀ j : Nat, (j : Int) < F 23 ∨ F 23 + 20 ≤ (j : Int) → tp' j = tp j) ∧ ∀ j : Nat, j < 20 → tp' ((F 23).toNat + j) = by8 (fdw z z1 z2 z3 z4 j) (j % 4)))) ∧ ∀ j, j < i ∨ i + 30 ≤ j ∨ (i + 8 ≤ j ∧ j ≤ i + 12) → g' j = g j) := by
  obtain ⟨hg, ⟨⟨e13, e14, e25, e27, e29⟩, k15, k16, k17, k18, k19, k20, k23, k21⟩, hRD, hTx, hA, ns, nh, nd, rf, pi, te, ki, li, ok1, ok2, fo, dd, dps, ⟨ha1, ha2, ha3, ha4, ha5, ha6, ha7, ha8, ha9, ha10, ha11, ha12, ha13, ha14, ha15, ha24, ha25, ha26, ha27, ha28, ha29⟩, hEv, hPt, hns, htp⟩ := id hM
  obtain ⟨-, hop, hai, hfa, hT, hT1⟩ := id hEv
  have hay1 : zAt ad (i) (ad i) := rfl
  have hay2 : zAt ad (i + 1) (ad (i + 1)) := rfl
  have hay3 : zAt ad (i + 2) (ad (i + 2)) := rfl
  have hay4 : zAt ad (i + 3) (ad (i + 3)) := rfl
  have hay5 : zAt ad (i + 4) (ad (i + 4)) := rfl
  have hay6 : zAt ad (i + 5) (ad (i + 5)) := rfl
  have hay7 : zAt ad (i + 6) (ad (i + 6)) := rfl
  have hay8 : zAt ad (i + 7) (ad (i + 7)) := rfl
  have hay9 : zAt ad (i + 8) (ad (i + 8)) := rfl
  have hay10 : zAt ad (i + 9) (ad (i + 9)) := rfl
  have hay11 : zAt ad (i + 10) (ad (i + 10)) := rfl
  have hay12 : zAt ad (i + 11) (ad (i + 11)) := rfl
  have hay13 : zAt ad (i + 12) (ad (i + 12)) := rfl
  have hay14 : zAt ad (i + 13) (ad (i + 13)) := rfl
  have hay15 : zAt ad (i + 14) (ad (i + 14)) := rfl
  have hay16 : zAt ad (i + 15) (ad (i + 15)) := rfl
  have hay17 : zAt ad (i + 24) (ad (i + 24)) := rfl
  have hay18 : zAt ad (i + 25) (ad (i + 25)) := rfl
  have hay19 : zAt ad (i + 26) (ad (i + 26)) := rfl
  have hay20 : zAt ad (i + 27) (ad (i + 27)) := rfl
  have hay21 : zAt ad (i + 28) (ad (i + 28)) := rfl
  have hay22 : zAt ad (i + 29) (ad (i + 29)) := rfl
  obtain ⟨⟨hsyy23, htyy23, hnyy23, hpyy23⟩, hlyy23⟩ := okA.at0 hA
  simp only [Nat.zero_add] at hsyy23 hnyy23 hpyy23
  have hmn : ∀ s, s < 4 → 0 ≤ r (6 + 86 * s) ∧ r (6 + 86 * s) ≤ 12 := fun s hs => (hsyy23 s hs).1
  have h5 : 0 ≤ r 5 ∧ r 5 ≤ 6 := hpyy23
  obtain ⟨hp25, hp26, hp27, hp29⟩ := id hPl
  refine z_of (by decide) (Nat.le_of_ble_eq_true rfl) ?_
  intro pZ eZ sZ mZ below meth cZ C hr hlk hnm
  refine z_lv (lv' := [(0, .ref (ad i)), (1, .int (zI (z))), (2, .int (zI (z1))), (3, .int (zI (z2))), (4, .int (zI (z3))), (5, .int (zI (z4)))]) [0, 1, 2, 3, 4, 5] rfl ?_
  have lp : ∀ (n9 : Nat) (kk : Int) (t9 : Nat → Int) (g1 : Nat → va_E), (21 - kk).toNat = n9 → (g1 i = mC ad i (uZ F 12 (0))) → (g1 (i + 13) = iA cs 900 t9) → (∀ j, j ≠ i → j ≠ i + 13 → g1 j = g j) → (∀ k, k < 900 → 0 ≤ t9 k ∧ t9 k ≤ 255) → ((0 ≤ kk ∧ kk ≤ 20) ∧ F 23 + 20 ≤ 900) → (∀ j : Nat, (j : Int) < F 23 ∨ F 23 + kk ≤ (j : Int) → t9 j = tp j) → (∀ j : Nat, (j : Int) < kk → t9 ((F 23).toNat + j) = by8 (fdw z z1 z2 z3 z4 j) (j % 4)) → zV pZ l eZ ({ frames := 1, cells := 0, slots := 0, locals := 60 } : Room) sZ mZ ([.ref (ad i), .int (zI (z)), .int (zI (z1)), .int (zI (z2)), .int (zI (z3)), .int (zI (z4))] : List Value).toArray below meth cZ (MQ below (zPost D A (rI0 N ad fun q g' => (∃ F' r' tp' : Nat → Int, okMr cs ad g' i (x + 1) F' r' st op ai fa mu tb tp' ∧ (F' 13 = F 13 ∧ F' 14 = F 14 ∧ F' 15 = F 15 ∧ F' 16 = F 16 ∧ F' 17 = F 17 ∧ F' 18 = F 18 ∧ F' 19 = F 19 ∧ F' 20 = F 20 ∧ F' 21 = F 21 ∧ F' 23 = F' 23 ∧ F' 24 = F 24) ∧ (F' 25 = 0 ∧ F' 26 = -1 ∧ F' 27 = -1 ∧ F' 29 = 0) ∧ (∀ j, j < 350 ∨ 700 ≤ j → r' j = r j) ∧ ((900 < F 23 + 20 ∧ q = -1 ∧ F' 23 = F 23 ∧ tp' = tp) ∨ (F 23 + 20 ≤ 900 ∧ q = F 23 + 20 ∧ F' 23 = F 23 + 20 ∧ (∀ j : Nat, (j : Int) < F 23 ∨ F 23 + 20 ≤ (j : Int) → tp' j = tp j) ∧ ∀ j : Nat, j < 20 → tp' ((F 23).toNat + j) = by8 (fdw z z1 z2 z3 z4 j) (j % 4)))) ∧ ∀ j, j < i ∨ i + 30 ≤ j ∨ (i + 8 ≤ j ∧ j ≤ i + 12) → g' j = g j)) ([.ref (ad i), .int (zI (z)), .int (zI (z1)), .int (zI (z2)), .int (zI (z3)), .int (zI (z4))] : List Value).toArray sZ ({ frames := 1, cells := 0, slots := 0, locals := 60 } : Room).cells ({ frames := 1, cells := 0, slots := 0, locals := 60 } : Room).slots A) D A 8 (N) ad g1 (0) (0) 23 [(0, .ref (ad i)), (1, .int (zI (z))), (2, .int (zI (z1))), (3, .int (zI (z2))), (4, .int (zI (z3))), (5, .int (zI (z4))), (6, .int (zI (kk)))] [] := by
    intro n9
    induction n9 using Nat.strongRecOn with
    | ind n9 ih =>
      intro kk t9 g1 hm9 f2 f2t f3b h9 hv h10 h11
      obtain ⟨nk, hnk⟩ : ∃ n9 : Nat, kk = (n9 : Int) := ⟨kk.toNat, by omega⟩
      refine z_iload C 6 dX10_feed_23 rfl ?_
      refine z_bipush (z := 20) C dX10_feed_25 (by decide) ?_
      refine z_icmp_ge (tgt := 113) C dX10_feed_27 (by decide) (by omega) (by omega) (fun hby24 => ?_) (fun hby24 => ?_)
      · refine z_aload_n C 0 dX10_feed_113 rfl ?_
        refine z_dup C dX10_feed_114 rfl ?_
        refine z_get (v := .int (zI (F 23))) C (lt_A0 hN rfl) hay1 f2 rfl inA_X10 23 (by decide) q_1482 rfl (fv (F := (uZ F 12 (0))) (f := 23) (fn rfl (by decide))) dX10_feed_115 ?_
        refine z_bipush (z := 20) C dX10_feed_118 (by decide) ?_
        refine z_iadd C dX10_feed_120 ?_
        refine z_put (fs' := mF ad (i) (uZ (uZ F 12 (0)) 23 ((F 23) + 20))) C (lt_A0 hN rfl) hay1 f2 tyX10 tyX10_ok nmX10 rfl inA_X10 23 (by decide) q_1482 rfl rfl rfl rfl (Nat.le_of_ble_eq_true rfl) rfl dX10_feed_121 (fun gy25 egy26 => ?_)
        have hgy27 := up_s egy26
        refine z_aload_n C 0 dX10_feed_124 rfl ?_
        refine z_get (v := .int (zI ((F 23) + 20))) C (lt_A0 hN rfl) hay1 hgy27 rfl inA_X10 23 (by decide) q_1482 rfl (fv (F := (uZ (uZ F 12 (0)) 23 ((F 23) + 20))) (f := 23) (uZ_s _ _ _)) dX10_feed_125 ?_
        have hgy28 := up_n egy26 f2t (ne_o (i := i) (c := 13) (d := 0) rfl)
        have hgy29 := up_n egy26 ((f3b _ (by omega) (by omega)).trans ha1) (ne_o (i := i) (c := 1) (d := 0) rfl)
        have hFy30 : ∀ f, f ≠ 12 → f ≠ 23 → (uZ (uZ F 12 (0)) 23 ((F 23) + 20)) f = F f := fun f n12 n23 => ((uZ_n _ _ n23).trans ((uZ_n _ _ n12).trans rfl))
        have hey31 : (uZ (uZ F 12 (0)) 23 ((F 23) + 20)) 13 = F 13 := (fn (fn rfl (by decide)) (by decide))
        have hey32 : (uZ (uZ F 12 (0)) 23 ((F 23) + 20)) 14 = F 14 := (fn (fn rfl (by decide)) (by decide))
        have hey33 : (uZ (uZ F 12 (0)) 23 ((F 23) + 20)) 15 = F 15 := (fn (fn rfl (by decide)) (by decide))
        have hey34 : (uZ (uZ F 12 (0)) 23 ((F 23) + 20)) 16 = F 16 := (fn (fn rfl (by decide)) (by decide))
        have hey35 : (uZ (uZ F 12 (0)) 23 ((F 23) + 20)) 17 = F 17 := (fn (fn rfl (by decide)) (by decide))
        have hey36 : (uZ (uZ F 12 (0)) 23 ((F 23) + 20)) 18 = F 18 := (fn (fn rfl (by decide)) (by decide))
        have hey37 : (uZ (uZ F 12 (0)) 23 ((F 23) + 20)) 19 = F 19 := (fn (fn rfl (by decide)) (by decide))
        have hey38 : (uZ (uZ F 12 (0)) 23 ((F 23) + 20)) 20 = F 20 := (fn (fn rfl (by decide)) (by decide))
        have hey39 : (uZ (uZ F 12 (0)) 23 ((F 23) + 20)) 21 = F 21 := (fn (fn rfl (by decide)) (by decide))
        have hey40 : (uZ (uZ F 12 (0)) 23 ((F 23) + 20)) 23 = (F 23) + 20 := (uZ_s _ _ _)
        have hey41 : (uZ (uZ F 12 (0)) 23 ((F 23) + 20)) 25 = F 25 := (fn (fn rfl (by decide)) (by decide))
        have hey42 : (uZ (uZ F 12 (0)) 23 ((F 23) + 20)) 27 = F 27 := (fn (fn rfl (by decide)) (by decide))
        have hey43 : (uZ (uZ F 12 (0)) 23 ((F 23) + 20)) 28 = F 28 := (fn (fn rfl (by decide)) (by decide))
        have hey44 : (uZ (uZ F 12 (0)) 23 ((F 23) + 20)) 29 = F 29 := (fn (fn rfl (by decide)) (by decide))
        have hKy45 : okF (uZ (uZ F 12 (0)) 23 ((F 23) + 20)) := by unfold okF; omega
        have hMy46 : okMr cs ad gy25 i (x + 1) (uZ (uZ F 12 (0)) 23 ((F 23) + 20)) r st op ai fa mu tb (t9) := okMr.updT hM hgy27 hKy45 (fun f a => hFy30 f (by omega) (by omega)) hgy29 (hA.mono (by omega)) (fun j a b c => by
            exact Or.inl (by rw [egy26, va_up_ne _ _ (by omega)]; rw [f3b _ (by omega) (by omega)])) hgy28 h9
        have hkpy47 : (uZ (uZ F 12 (0)) 23 ((F 23) + 20)) 13 = F 13 := (fn (fn rfl (by decide)) (by decide))
        have hkpy48 : (uZ (uZ F 12 (0)) 23 ((F 23) + 20)) 14 = F 14 := (fn (fn rfl (by decide)) (by decide))
        have hkpy49 : (uZ (uZ F 12 (0)) 23 ((F 23) + 20)) 15 = F 15 := (fn (fn rfl (by decide)) (by decide))
        have hkpy50 : (uZ (uZ F 12 (0)) 23 ((F 23) + 20)) 16 = F 16 := (fn (fn rfl (by decide)) (by decide))
        have hkpy51 : (uZ (uZ F 12 (0)) 23 ((F 23) + 20)) 17 = F 17 := (fn (fn rfl (by decide)) (by decide))
        have hkpy52 : (uZ (uZ F 12 (0)) 23 ((F 23) + 20)) 18 = F 18 := (fn (fn rfl (by decide)) (by decide))
        have hkpy53 : (uZ (uZ F 12 (0)) 23 ((F 23) + 20)) 19 = F 19 := (fn (fn rfl (by decide)) (by decide))
        have hkpy54 : (uZ (uZ F 12 (0)) 23 ((F 23) + 20)) 20 = F 20 := (fn (fn rfl (by decide)) (by decide))
        have hkpy55 : (uZ (uZ F 12 (0)) 23 ((F 23) + 20)) 21 = F 21 := (fn (fn rfl (by decide)) (by decide))
        have hkpy56 : (uZ (uZ F 12 (0)) 23 ((F 23) + 20)) 23 = (F 23) + 20 := (uZ_s _ _ _)
        have hkpy57 : (uZ (uZ F 12 (0)) 23 ((F 23) + 20)) 24 = F 24 := (fn (fn rfl (by decide)) (by decide))
        have hkpy58 : (uZ (uZ F 12 (0)) 23 ((F 23) + 20)) 25 = F 25 := (fn (fn rfl (by decide)) (by decide))
        have hkpy59 : (uZ (uZ F 12 (0)) 23 ((F 23) + 20)) 26 = F 26 := (fn (fn rfl (by decide)) (by decide))
        have hkpy60 : (uZ (uZ F 12 (0)) 23 ((F 23) + 20)) 27 = F 27 := (fn (fn rfl (by decide)) (by decide))
        have hkpy61 : (uZ (uZ F 12 (0)) 23 ((F 23) + 20)) 29 = F 29 := (fn (fn rfl (by decide)) (by decide))
        exact z_iret C hr hlk dX10_feed_128 (by decide) (by decide) ⟨(F 23) + 20, rfl, rfl, rfl, ⟨_, _, _, hMy46, ⟨hkpy47, hkpy48, hkpy49, hkpy50, hkpy51, hkpy52, hkpy53, hkpy54, hkpy55, rfl, hkpy57⟩, ⟨(hkpy58.trans hp25), (hkpy59.trans hp26), (hkpy60.trans hp27), (hkpy61.trans hp29)⟩, (fun j _ => rfl), Or.inr ⟨by omega, by omega, by omega, fun j hj => h10 j (by omega), fun j hj => h11 j (by omega)⟩⟩, fun j j1 => by rw [egy26, va_up_ne _ _ (by omega)]; rw [f3b _ (by omega) (by omega)]⟩
      · refine z_iload C 6 dX10_feed_30 rfl ?_
        refine z_iconst (z := 4) C dX10_feed_32 rfl ?_
        refine z_icmp_ge (tgt := 40) C dX10_feed_33 (by decide) (by omega) (by omega) (fun hby62 => ?_) (fun hby62 => ?_)
        · refine z_iload C 6 dX10_feed_40 rfl ?_
          refine z_bipush (z := 8) C dX10_feed_42 (by decide) ?_
          refine z_icmp_ge (tgt := 51) C dX10_feed_44 (by decide) (by omega) (by omega) (fun hby63 => ?_) (fun hby63 => ?_)
          · refine z_iload C 6 dX10_feed_51 rfl ?_
            refine z_bipush (z := 12) C dX10_feed_53 (by decide) ?_
            refine z_icmp_ge (tgt := 62) C dX10_feed_55 (by decide) (by omega) (by omega) (fun hby64 => ?_) (fun hby64 => ?_)
            · refine z_iload C 6 dX10_feed_62 rfl ?_
              refine z_bipush (z := 16) C dX10_feed_64 (by decide) ?_
              refine z_icmp_ge (tgt := 74) C dX10_feed_66 (by decide) (by omega) (by omega) (fun hby65 => ?_) (fun hby65 => ?_)
              · refine z_iload C 5 dX10_feed_74 rfl ?_
                refine z_istore (lv' := [(7, .int (zI (z4))), (0, .ref (ad i)), (1, .int (zI (z))), (2, .int (zI (z1))), (3, .int (zI (z2))), (4, .int (zI (z3))), (5, .int (zI (z4))), (6, .int (zI (kk)))]) C dX10_feed_76 (by decide) rfl ?_
                refine z_aload_n C 1 dX10_feed_78 rfl ?_
                refine z_get (v := .ref (ad (i + 13))) C (lt_A0 hN rfl) hay1 f2 rfl inA_X10 22 (by decide) q_1481 rfl rfl dX10_feed_79 ?_
                refine z_aload_n C 1 dX10_feed_82 rfl ?_
                refine z_get (v := .int (zI (F 23))) C (lt_A0 hN rfl) hay1 f2 rfl inA_X10 23 (by decide) q_1482 rfl (fv (F := (uZ F 12 (0))) (f := 23) (fn rfl (by decide))) dX10_feed_83 ?_
                refine z_iload C 7 dX10_feed_86 rfl ?_
                refine z_iadd C dX10_feed_88 ?_
                refine z_iload C 0 dX10_feed_89 rfl ?_
                refine z_bipush (z := 24) C dX10_feed_91 (by decide) ?_
                refine z_bipush (z := 8) C dX10_feed_93 (by decide) ?_
                refine z_iload C 7 dX10_feed_95 rfl ?_
                refine z_iconst (z := 4) C dX10_feed_97 rfl ?_
                refine z_irem C dX10_feed_98 (by omega) (by omega) (by omega) ?_
                obtain ⟨xy66, exy66, hxy66⟩ : ∃ x9 : Int, kk.tmod 4 = x9 ∧ x9 = ((nk % 4 : Nat) : Int) := ⟨_, rfl, by rw [Int.tmod_eq_emod_of_nonneg (by omega)]; omega⟩
                rw [exy66]
                refine z_imul C dX10_feed_99 ?_
                refine z_isub C dX10_feed_100 ?_
                obtain ⟨xy67, exy67, hxy67⟩ := zI_of (zI (z4) >>> (zI (24 - (8 * xy66)) &&& 31))
                refine z_ishr (z := xy67) C dX10_feed_101 exy67 ?_
                refine z_sipush (z := 255) C dX10_feed_102 (by decide) ?_
                obtain ⟨xy68, exy68, hxy68⟩ := zI_and (zI (xy67)) (m := zI 255) 8 (by decide)
                refine z_iand (z := xy68) C dX10_feed_105 exy68 ?_
                refine z_iast C (lt_A (c := 13) hN rfl) hay14 f2t (((F 23) + kk).toNat) (by omega) (by omega) (by decide) dX10_feed_106 (fun gy69 egy70 => ?_)
                have hgy71 := up_s egy70
                refine z_iinc (z := kk + 1) (lv' := [(6, .int (zI (kk + 1))), (7, .int (zI (z4))), (0, .ref (ad i)), (1, .int (zI (z))), (2, .int (zI (z1))), (3, .int (zI (z2))), (4, .int (zI (z3))), (5, .int (zI (z4)))]) (j := 7) C dX10_feed_107 rfl rfl (by decide) rfl ?_
                refine z_goto (tgt := 23) C dX10_feed_110 (by decide) ?_
                have hgy72 := up_n egy70 f2 (ne_o (i := i) (c := 0) (d := 13) rfl)
                refine z_lv (lv' := [(0, .ref (ad i)), (1, .int (zI (z))), (2, .int (zI (z1))), (3, .int (zI (z2))), (4, .int (zI (z3))), (5, .int (zI (z4))), (6, .int (zI (kk + 1)))]) [2, 3, 4, 5, 6, 7, 0] rfl ?_
                have hwd : fdw z z1 z2 z3 z4 nk = z4 := by unfold fdw; repeat (first | rw [if_pos (by omega)] | rw [if_neg (by omega)])
                have hby : xy68 = by8 (z4) (nk % 4) := by8_r2 (s := nk % 4) ⟨by omega, by omega⟩ exy67 exy68 (by omega)
                exact ih _ (by omega) (kk + 1) _ gy69 rfl hgy72 hgy71 (fun j j1 j2 => by rw [egy70, va_up_ne _ _ (by omega)]; rw [f3b _ (by omega) (by omega)]) (uZ_any h9 (by omega)) (by omega) (fun j hj => (uZ_n _ _ (by omega)).trans (h10 j (by omega))) (fun j hj => by
                    by_cases e9 : j = nk
                    · rw [e9, uZ_at (show (F 23).toNat + nk = ((F 23) + kk).toNat by omega), hwd]; exact hby
                    · exact (uZ_n _ _ (by omega)).trans (h11 j (by omega)))
              · refine z_iload C 4 dX10_feed_69 rfl ?_
                refine z_goto (tgt := 76) C dX10_feed_71 (by decide) ?_
                refine z_istore (lv' := [(7, .int (zI (z3))), (0, .ref (ad i)), (1, .int (zI (z))), (2, .int (zI (z1))), (3, .int (zI (z2))), (4, .int (zI (z3))), (5, .int (zI (z4))), (6, .int (zI (kk)))]) C dX10_feed_76 (by decide) rfl ?_
                refine z_aload_n C 1 dX10_feed_78 rfl ?_
                refine z_get (v := .ref (ad (i + 13))) C (lt_A0 hN rfl) hay1 f2 rfl inA_X10 22 (by decide) q_1481 rfl rfl dX10_feed_79 ?_
                refine z_aload_n C 1 dX10_feed_82 rfl ?_
                refine z_get (v := .int (zI (F 23))) C (lt_A0 hN rfl) hay1 f2 rfl inA_X10 23 (by decide) q_1482 rfl (fv (F := (uZ F 12 (0))) (f := 23) (fn rfl (by decide))) dX10_feed_83 ?_
                refine z_iload C 7 dX10_feed_86 rfl ?_
                refine z_iadd C dX10_feed_88 ?_
                refine z_iload C 0 dX10_feed_89 rfl ?_
                refine z_bipush (z := 24) C dX10_feed_91 (by decide) ?_
                refine z_bipush (z := 8) C dX10_feed_93 (by decide) ?_
                refine z_iload C 7 dX10_feed_95 rfl ?_
                refine z_iconst (z := 4) C dX10_feed_97 rfl ?_
                refine z_irem C dX10_feed_98 (by omega) (by omega) (by omega) ?_
                obtain ⟨xy73, exy73, hxy73⟩ : ∃ x9 : Int, kk.tmod 4 = x9 ∧ x9 = ((nk % 4 : Nat) : Int) := ⟨_, rfl, by rw [Int.tmod_eq_emod_of_nonneg (by omega)]; omega⟩
                rw [exy73]
                refine z_imul C dX10_feed_99 ?_
                refine z_isub C dX10_feed_100 ?_
                obtain ⟨xy74, exy74, hxy74⟩ := zI_of (zI (z3) >>> (zI (24 - (8 * xy73)) &&& 31))
                refine z_ishr (z := xy74) C dX10_feed_101 exy74 ?_
                refine z_sipush (z := 255) C dX10_feed_102 (by decide) ?_
                obtain ⟨xy75, exy75, hxy75⟩ := zI_and (zI (xy74)) (m := zI 255) 8 (by decide)
                refine z_iand (z := xy75) C dX10_feed_105 exy75 ?_
                refine z_iast C (lt_A (c := 13) hN rfl) hay14 f2t (((F 23) + kk).toNat) (by omega) (by omega) (by decide) dX10_feed_106 (fun gy76 egy77 => ?_)
                have hgy78 := up_s egy77
                refine z_iinc (z := kk + 1) (lv' := [(6, .int (zI (kk + 1))), (7, .int (zI (z3))), (0, .ref (ad i)), (1, .int (zI (z))), (2, .int (zI (z1))), (3, .int (zI (z2))), (4, .int (zI (z3))), (5, .int (zI (z4)))]) (j := 7) C dX10_feed_107 rfl rfl (by decide) rfl ?_
                refine z_goto (tgt := 23) C dX10_feed_110 (by decide) ?_
                have hgy79 := up_n egy77 f2 (ne_o (i := i) (c := 0) (d := 13) rfl)
                refine z_lv (lv' := [(0, .ref (ad i)), (1, .int (zI (z))), (2, .int (zI (z1))), (3, .int (zI (z2))), (4, .int (zI (z3))), (5, .int (zI (z4))), (6, .int (zI (kk + 1)))]) [2, 3, 4, 5, 6, 7, 0] rfl ?_
                have hwd : fdw z z1 z2 z3 z4 nk = z3 := by unfold fdw; repeat (first | rw [if_pos (by omega)] | rw [if_neg (by omega)])
                have hby : xy75 = by8 (z3) (nk % 4) := by8_r2 (s := nk % 4) ⟨by omega, by omega⟩ exy74 exy75 (by omega)
                exact ih _ (by omega) (kk + 1) _ gy76 rfl hgy79 hgy78 (fun j j1 j2 => by rw [egy77, va_up_ne _ _ (by omega)]; rw [f3b _ (by omega) (by omega)]) (uZ_any h9 (by omega)) (by omega) (fun j hj => (uZ_n _ _ (by omega)).trans (h10 j (by omega))) (fun j hj => by
                    by_cases e9 : j = nk
                    · rw [e9, uZ_at (show (F 23).toNat + nk = ((F 23) + kk).toNat by omega), hwd]; exact hby
                    · exact (uZ_n _ _ (by omega)).trans (h11 j (by omega)))
            · refine z_iload_n C 3 dX10_feed_58 rfl ?_
              refine z_goto (tgt := 76) C dX10_feed_59 (by decide) ?_
              refine z_istore (lv' := [(7, .int (zI (z2))), (0, .ref (ad i)), (1, .int (zI (z))), (2, .int (zI (z1))), (3, .int (zI (z2))), (4, .int (zI (z3))), (5, .int (zI (z4))), (6, .int (zI (kk)))]) C dX10_feed_76 (by decide) rfl ?_
              refine z_aload_n C 1 dX10_feed_78 rfl ?_
              refine z_get (v := .ref (ad (i + 13))) C (lt_A0 hN rfl) hay1 f2 rfl inA_X10 22 (by decide) q_1481 rfl rfl dX10_feed_79 ?_
              refine z_aload_n C 1 dX10_feed_82 rfl ?_
              refine z_get (v := .int (zI (F 23))) C (lt_A0 hN rfl) hay1 f2 rfl inA_X10 23 (by decide) q_1482 rfl (fv (F := (uZ F 12 (0))) (f := 23) (fn rfl (by decide))) dX10_feed_83 ?_
              refine z_iload C 7 dX10_feed_86 rfl ?_
              refine z_iadd C dX10_feed_88 ?_
              refine z_iload C 0 dX10_feed_89 rfl ?_
              refine z_bipush (z := 24) C dX10_feed_91 (by decide) ?_
              refine z_bipush (z := 8) C dX10_feed_93 (by decide) ?_
              refine z_iload C 7 dX10_feed_95 rfl ?_
              refine z_iconst (z := 4) C dX10_feed_97 rfl ?_
              refine z_irem C dX10_feed_98 (by omega) (by omega) (by omega) ?_
              obtain ⟨xy80, exy80, hxy80⟩ : ∃ x9 : Int, kk.tmod 4 = x9 ∧ x9 = ((nk % 4 : Nat) : Int) := ⟨_, rfl, by rw [Int.tmod_eq_emod_of_nonneg (by omega)]; omega⟩
              rw [exy80]
              refine z_imul C dX10_feed_99 ?_
              refine z_isub C dX10_feed_100 ?_
              obtain ⟨xy81, exy81, hxy81⟩ := zI_of (zI (z2) >>> (zI (24 - (8 * xy80)) &&& 31))
              refine z_ishr (z := xy81) C dX10_feed_101 exy81 ?_
              refine z_sipush (z := 255) C dX10_feed_102 (by decide) ?_
              obtain ⟨xy82, exy82, hxy82⟩ := zI_and (zI (xy81)) (m := zI 255) 8 (by decide)
              refine z_iand (z := xy82) C dX10_feed_105 exy82 ?_
              refine z_iast C (lt_A (c := 13) hN rfl) hay14 f2t (((F 23) + kk).toNat) (by omega) (by omega) (by decide) dX10_feed_106 (fun gy83 egy84 => ?_)
              have hgy85 := up_s egy84
              refine z_iinc (z := kk + 1) (lv' := [(6, .int (zI (kk + 1))), (7, .int (zI (z2))), (0, .ref (ad i)), (1, .int (zI (z))), (2, .int (zI (z1))), (3, .int (zI (z2))), (4, .int (zI (z3))), (5, .int (zI (z4)))]) (j := 7) C dX10_feed_107 rfl rfl (by decide) rfl ?_
              refine z_goto (tgt := 23) C dX10_feed_110 (by decide) ?_
              have hgy86 := up_n egy84 f2 (ne_o (i := i) (c := 0) (d := 13) rfl)
              refine z_lv (lv' := [(0, .ref (ad i)), (1, .int (zI (z))), (2, .int (zI (z1))), (3, .int (zI (z2))), (4, .int (zI (z3))), (5, .int (zI (z4))), (6, .int (zI (kk + 1)))]) [2, 3, 4, 5, 6, 7, 0] rfl ?_
              have hwd : fdw z z1 z2 z3 z4 nk = z2 := by unfold fdw; repeat (first | rw [if_pos (by omega)] | rw [if_neg (by omega)])
              have hby : xy82 = by8 (z2) (nk % 4) := by8_r2 (s := nk % 4) ⟨by omega, by omega⟩ exy81 exy82 (by omega)
              exact ih _ (by omega) (kk + 1) _ gy83 rfl hgy86 hgy85 (fun j j1 j2 => by rw [egy84, va_up_ne _ _ (by omega)]; rw [f3b _ (by omega) (by omega)]) (uZ_any h9 (by omega)) (by omega) (fun j hj => (uZ_n _ _ (by omega)).trans (h10 j (by omega))) (fun j hj => by
                  by_cases e9 : j = nk
                  · rw [e9, uZ_at (show (F 23).toNat + nk = ((F 23) + kk).toNat by omega), hwd]; exact hby
                  · exact (uZ_n _ _ (by omega)).trans (h11 j (by omega)))
          · refine z_iload_n C 2 dX10_feed_47 rfl ?_
            refine z_goto (tgt := 76) C dX10_feed_48 (by decide) ?_
            refine z_istore (lv' := [(7, .int (zI (z1))), (0, .ref (ad i)), (1, .int (zI (z))), (2, .int (zI (z1))), (3, .int (zI (z2))), (4, .int (zI (z3))), (5, .int (zI (z4))), (6, .int (zI (kk)))]) C dX10_feed_76 (by decide) rfl ?_
            refine z_aload_n C 1 dX10_feed_78 rfl ?_
            refine z_get (v := .ref (ad (i + 13))) C (lt_A0 hN rfl) hay1 f2 rfl inA_X10 22 (by decide) q_1481 rfl rfl dX10_feed_79 ?_
            refine z_aload_n C 1 dX10_feed_82 rfl ?_
            refine z_get (v := .int (zI (F 23))) C (lt_A0 hN rfl) hay1 f2 rfl inA_X10 23 (by decide) q_1482 rfl (fv (F := (uZ F 12 (0))) (f := 23) (fn rfl (by decide))) dX10_feed_83 ?_
            refine z_iload C 7 dX10_feed_86 rfl ?_
            refine z_iadd C dX10_feed_88 ?_
            refine z_iload C 0 dX10_feed_89 rfl ?_
            refine z_bipush (z := 24) C dX10_feed_91 (by decide) ?_
            refine z_bipush (z := 8) C dX10_feed_93 (by decide) ?_
            refine z_iload C 7 dX10_feed_95 rfl ?_
            refine z_iconst (z := 4) C dX10_feed_97 rfl ?_
            refine z_irem C dX10_feed_98 (by omega) (by omega) (by omega) ?_
            obtain ⟨xy87, exy87, hxy87⟩ : ∃ x9 : Int, kk.tmod 4 = x9 ∧ x9 = ((nk % 4 : Nat) : Int) := ⟨_, rfl, by rw [Int.tmod_eq_emod_of_nonneg (by omega)]; omega⟩
            rw [exy87]
            refine z_imul C dX10_feed_99 ?_
            refine z_isub C dX10_feed_100 ?_
            obtain ⟨xy88, exy88, hxy88⟩ := zI_of (zI (z1) >>> (zI (24 - (8 * xy87)) &&& 31))
            refine z_ishr (z := xy88) C dX10_feed_101 exy88 ?_
            refine z_sipush (z := 255) C dX10_feed_102 (by decide) ?_
            obtain ⟨xy89, exy89, hxy89⟩ := zI_and (zI (xy88)) (m := zI 255) 8 (by decide)
            refine z_iand (z := xy89) C dX10_feed_105 exy89 ?_
            refine z_iast C (lt_A (c := 13) hN rfl) hay14 f2t (((F 23) + kk).toNat) (by omega) (by omega) (by decide) dX10_feed_106 (fun gy90 egy91 => ?_)
            have hgy92 := up_s egy91
            refine z_iinc (z := kk + 1) (lv' := [(6, .int (zI (kk + 1))), (7, .int (zI (z1))), (0, .ref (ad i)), (1, .int (zI (z))), (2, .int (zI (z1))), (3, .int (zI (z2))), (4, .int (zI (z3))), (5, .int (zI (z4)))]) (j := 7) C dX10_feed_107 rfl rfl (by decide) rfl ?_
            refine z_goto (tgt := 23) C dX10_feed_110 (by decide) ?_
            have hgy93 := up_n egy91 f2 (ne_o (i := i) (c := 0) (d := 13) rfl)
            refine z_lv (lv' := [(0, .ref (ad i)), (1, .int (zI (z))), (2, .int (zI (z1))), (3, .int (zI (z2))), (4, .int (zI (z3))), (5, .int (zI (z4))), (6, .int (zI (kk + 1)))]) [2, 3, 4, 5, 6, 7, 0] rfl ?_
            have hwd : fdw z z1 z2 z3 z4 nk = z1 := by unfold fdw; repeat (first | rw [if_pos (by omega)] | rw [if_neg (by omega)])
            have hby : xy89 = by8 (z1) (nk % 4) := by8_r2 (s := nk % 4) ⟨by omega, by omega⟩ exy88 exy89 (by omega)
            exact ih _ (by omega) (kk + 1) _ gy90 rfl hgy93 hgy92 (fun j j1 j2 => by rw [egy91, va_up_ne _ _ (by omega)]; rw [f3b _ (by omega) (by omega)]) (uZ_any h9 (by omega)) (by omega) (fun j hj => (uZ_n _ _ (by omega)).trans (h10 j (by omega))) (fun j hj => by
                by_cases e9 : j = nk
                · rw [e9, uZ_at (show (F 23).toNat + nk = ((F 23) + kk).toNat by omega), hwd]; exact hby
                · exact (uZ_n _ _ (by omega)).trans (h11 j (by omega)))
        · refine z_iload_n C 1 dX10_feed_36 rfl ?_
          refine z_goto (tgt := 76) C dX10_feed_37 (by decide) ?_
          refine z_istore (lv' := [(7, .int (zI (z))), (0, .ref (ad i)), (1, .int (zI (z))), (2, .int (zI (z1))), (3, .int (zI (z2))), (4, .int (zI (z3))), (5, .int (zI (z4))), (6, .int (zI (kk)))]) C dX10_feed_76 (by decide) rfl ?_
          refine z_aload_n C 1 dX10_feed_78 rfl ?_
          refine z_get (v := .ref (ad (i + 13))) C (lt_A0 hN rfl) hay1 f2 rfl inA_X10 22 (by decide) q_1481 rfl rfl dX10_feed_79 ?_
          refine z_aload_n C 1 dX10_feed_82 rfl ?_
          refine z_get (v := .int (zI (F 23))) C (lt_A0 hN rfl) hay1 f2 rfl inA_X10 23 (by decide) q_1482 rfl (fv (F := (uZ F 12 (0))) (f := 23) (fn rfl (by decide))) dX10_feed_83 ?_
          refine z_iload C 7 dX10_feed_86 rfl ?_
          refine z_iadd C dX10_feed_88 ?_
          refine z_iload C 0 dX10_feed_89 rfl ?_
          refine z_bipush (z := 24) C dX10_feed_91 (by decide) ?_
          refine z_bipush (z := 8) C dX10_feed_93 (by decide) ?_
          refine z_iload C 7 dX10_feed_95 rfl ?_
          refine z_iconst (z := 4) C dX10_feed_97 rfl ?_
          refine z_irem C dX10_feed_98 (by omega) (by omega) (by omega) ?_
          obtain ⟨xy94, exy94, hxy94⟩ : ∃ x9 : Int, kk.tmod 4 = x9 ∧ x9 = ((nk % 4 : Nat) : Int) := ⟨_, rfl, by rw [Int.tmod_eq_emod_of_nonneg (by omega)]; omega⟩
          rw [exy94]
          refine z_imul C dX10_feed_99 ?_
          refine z_isub C dX10_feed_100 ?_
          obtain ⟨xy95, exy95, hxy95⟩ := zI_of (zI (z) >>> (zI (24 - (8 * xy94)) &&& 31))
          refine z_ishr (z := xy95) C dX10_feed_101 exy95 ?_
          refine z_sipush (z := 255) C dX10_feed_102 (by decide) ?_
          obtain ⟨xy96, exy96, hxy96⟩ := zI_and (zI (xy95)) (m := zI 255) 8 (by decide)
          refine z_iand (z := xy96) C dX10_feed_105 exy96 ?_
          refine z_iast C (lt_A (c := 13) hN rfl) hay14 f2t (((F 23) + kk).toNat) (by omega) (by omega) (by decide) dX10_feed_106 (fun gy97 egy98 => ?_)
          have hgy99 := up_s egy98
          refine z_iinc (z := kk + 1) (lv' := [(6, .int (zI (kk + 1))), (7, .int (zI (z))), (0, .ref (ad i)), (1, .int (zI (z))), (2, .int (zI (z1))), (3, .int (zI (z2))), (4, .int (zI (z3))), (5, .int (zI (z4)))]) (j := 7) C dX10_feed_107 rfl rfl (by decide) rfl ?_
          refine z_goto (tgt := 23) C dX10_feed_110 (by decide) ?_
          have hgy100 := up_n egy98 f2 (ne_o (i := i) (c := 0) (d := 13) rfl)
          refine z_lv (lv' := [(0, .ref (ad i)), (1, .int (zI (z))), (2, .int (zI (z1))), (3, .int (zI (z2))), (4, .int (zI (z3))), (5, .int (zI (z4))), (6, .int (zI (kk + 1)))]) [2, 3, 4, 5, 6, 7, 0] rfl ?_
          have hwd : fdw z z1 z2 z3 z4 nk = z := by unfold fdw; repeat (first | rw [if_pos (by omega)] | rw [if_neg (by omega)])
          have hby : xy96 = by8 (z) (nk % 4) := by8_r2 (s := nk % 4) ⟨by omega, by omega⟩ exy95 exy96 (by omega)
          exact ih _ (by omega) (kk + 1) _ gy97 rfl hgy100 hgy99 (fun j j1 j2 => by rw [egy98, va_up_ne _ _ (by omega)]; rw [f3b _ (by omega) (by omega)]) (uZ_any h9 (by omega)) (by omega) (fun j hj => (uZ_n _ _ (by omega)).trans (h10 j (by omega))) (fun j hj => by
              by_cases e9 : j = nk
              · rw [e9, uZ_at (show (F 23).toNat + nk = ((F 23) + kk).toNat by omega), hwd]; exact hby
              · exact (uZ_n _ _ (by omega)).trans (h11 j (by omega)))
  refine z_aload_n C 0 dX10_feed_0 rfl ?_
  refine z_iconst (z := 0) C dX10_feed_1 rfl ?_
  refine z_put (fs' := mF ad (i) (uZ F 12 (0))) C (lt_A0 hN rfl) hay1 hg tyX10 tyX10_ok nmX10 rfl inA_X10 12 (by decide) q_1471 rfl rfl rfl rfl (Nat.le_of_ble_eq_true rfl) rfl dX10_feed_2 (fun gy101 egy102 => ?_)
  have hgy103 := up_s egy102
  refine z_aload_n C 0 dX10_feed_5 rfl ?_
  refine z_get (v := .int (zI (F 23))) C (lt_A0 hN rfl) hay1 hgy103 rfl inA_X10 23 (by decide) q_1482 rfl (fv (F := (uZ F 12 (0))) (f := 23) (fn rfl (by decide))) dX10_feed_6 ?_
  refine z_bipush (z := 20) C dX10_feed_9 (by decide) ?_
  refine z_iadd C dX10_feed_11 ?_
  refine z_sipush (z := 900) C dX10_feed_12 (by decide) ?_
  refine z_icmp_le (tgt := 20) C dX10_feed_15 (by decide) (by omega) (by omega) (fun hby104 => ?_) (fun hby104 => ?_)
  · refine z_iconst (z := 0) C dX10_feed_20 rfl ?_
    refine z_istore (lv' := [(6, .int (zI (0))), (0, .ref (ad i)), (1, .int (zI (z))), (2, .int (zI (z1))), (3, .int (zI (z2))), (4, .int (zI (z3))), (5, .int (zI (z4)))]) C dX10_feed_21 (by decide) rfl ?_
    have hgy105 := up_n egy102 ha13 (ne_o (i := i) (c := 13) (d := 0) rfl)
    refine z_lv (lv' := [(0, .ref (ad i)), (1, .int (zI (z))), (2, .int (zI (z1))), (3, .int (zI (z2))), (4, .int (zI (z3))), (5, .int (zI (z4))), (6, .int (zI (0)))]) [1, 2, 3, 4, 5, 6, 0] rfl ?_
    exact lp _ (0) _ gy101 rfl hgy103 hgy105 (fun j j1 j2 => by rw [egy102, va_up_ne _ _ (by omega)]) htp (by omega) (fun j _ => rfl) (fun j hj => absurd hj (by omega))
  · refine z_iconst (z := -1) C dX10_feed_18 rfl ?_
    have hgy106 := up_n egy102 ha1 (ne_o (i := i) (c := 1) (d := 0) rfl)
    have hFy107 : ∀ f, f ≠ 12 → (uZ F 12 (0)) f = F f := fun f n12 => ((uZ_n _ _ n12).trans rfl)
    have hey108 : (uZ F 12 (0)) 13 = F 13 := (fn rfl (by decide))
    have hey109 : (uZ F 12 (0)) 14 = F 14 := (fn rfl (by decide))
    have hey110 : (uZ F 12 (0)) 15 = F 15 := (fn rfl (by decide))
    have hey111 : (uZ F 12 (0)) 16 = F 16 := (fn rfl (by decide))
    have hey112 : (uZ F 12 (0)) 17 = F 17 := (fn rfl (by decide))
    have hey113 : (uZ F 12 (0)) 18 = F 18 := (fn rfl (by decide))
    have hey114 : (uZ F 12 (0)) 19 = F 19 := (fn rfl (by decide))
    have hey115 : (uZ F 12 (0)) 20 = F 20 := (fn rfl (by decide))
    have hey116 : (uZ F 12 (0)) 21 = F 21 := (fn rfl (by decide))
    have hey117 : (uZ F 12 (0)) 23 = F 23 := (fn rfl (by decide))
    have hey118 : (uZ F 12 (0)) 25 = F 25 := (fn rfl (by decide))
    have hey119 : (uZ F 12 (0)) 27 = F 27 := (fn rfl (by decide))
    have hey120 : (uZ F 12 (0)) 28 = F 28 := (fn rfl (by decide))
    have hey121 : (uZ F 12 (0)) 29 = F 29 := (fn rfl (by decide))
    have hKy122 : okF (uZ F 12 (0)) := okF.mv hM.2.1 hey108 hey109 hey110 hey111 hey112 hey113 hey114 hey115 hey116 hey117 hey118 hey119 hey120 hey121
    have hMy123 : okMr cs ad gy101 i (x + 1) (uZ F 12 (0)) r st op ai fa mu tb tp := okMr.upd hM hgy103 hKy122 (fun f a => hFy107 f (by omega)) hgy106 (hA.mono (by omega)) (fun j a b => by
        exact Or.inl (by rw [egy102, va_up_ne _ _ (by omega)]))
    have hkpy124 : (uZ F 12 (0)) 13 = F 13 := (fn rfl (by decide))
    have hkpy125 : (uZ F 12 (0)) 14 = F 14 := (fn rfl (by decide))
    have hkpy126 : (uZ F 12 (0)) 15 = F 15 := (fn rfl (by decide))
    have hkpy127 : (uZ F 12 (0)) 16 = F 16 := (fn rfl (by decide))
    have hkpy128 : (uZ F 12 (0)) 17 = F 17 := (fn rfl (by decide))
    have hkpy129 : (uZ F 12 (0)) 18 = F 18 := (fn rfl (by decide))
    have hkpy130 : (uZ F 12 (0)) 19 = F 19 := (fn rfl (by decide))
    have hkpy131 : (uZ F 12 (0)) 20 = F 20 := (fn rfl (by decide))
    have hkpy132 : (uZ F 12 (0)) 21 = F 21 := (fn rfl (by decide))
    have hkpy133 : (uZ F 12 (0)) 23 = F 23 := (fn rfl (by decide))
    have hkpy134 : (uZ F 12 (0)) 24 = F 24 := (fn rfl (by decide))
    have hkpy135 : (uZ F 12 (0)) 25 = F 25 := (fn rfl (by decide))
    have hkpy136 : (uZ F 12 (0)) 26 = F 26 := (fn rfl (by decide))
    have hkpy137 : (uZ F 12 (0)) 27 = F 27 := (fn rfl (by decide))
    have hkpy138 : (uZ F 12 (0)) 29 = F 29 := (fn rfl (by decide))
    exact z_iret C hr hlk dX10_feed_19 (by decide) (by decide) ⟨-1, rfl, rfl, rfl, ⟨_, _, _, hMy123, ⟨hkpy124, hkpy125, hkpy126, hkpy127, hkpy128, hkpy129, hkpy130, hkpy131, hkpy132, rfl, hkpy134⟩, ⟨(hkpy135.trans hp25), (hkpy136.trans hp26), (hkpy137.trans hp27), (hkpy138.trans hp29)⟩, (fun j _ => rfl), Or.inl ⟨by omega, rfl, by omega, rfl⟩⟩, fun j j1 => by rw [egy102, va_up_ne _ _ (by omega)]⟩
end
section
-- 99j.words.lean.txt
-- words of refcmp
theorem q_2039 : (Jvm.Cond.methodLink "SnowRecorderModel" (436 : Nat) ({ cls := "SnowRecorderModel", name := "namesInBoth", desc := "(II)I" } : Jvm.MethodName)) ∈ AW := AW_m9 119 (by decide +kernel) (by decide +kernel)
theorem q_2041 : (Jvm.Cond.instanceMethod ({ cls := "SnowRecorderModel", name := "namesInBoth", desc := "(II)I" } : Jvm.MethodName)) ∈ AW := AW_m9 121 (by decide +kernel) (by decide +kernel)
theorem q_2042 : (Jvm.Cond.code ({ cls := "SnowRecorderModel", name := "namesInBoth", desc := "(II)I" } : Jvm.MethodName) prog_12_method_105_code (6 : Nat) (Option.some Jvm.ClassFile.FieldType.int)) ∈ AW := AW_m9 122 (by decide +kernel) (by decide +kernel)
theorem q_2047 : (Jvm.Cond.methodLink "SnowRecorderModel" (439 : Nat) ({ cls := "SnowRecorderModel", name := "weakestName", desc := "(I)I" } : Jvm.MethodName)) ∈ AW := AW_m9 127 (by decide +kernel) (by decide +kernel)
theorem q_2049 : (Jvm.Cond.instanceMethod ({ cls := "SnowRecorderModel", name := "weakestName", desc := "(I)I" } : Jvm.MethodName)) ∈ AW := AW_m9 129 (by decide +kernel) (by decide +kernel)
theorem q_2050 : (Jvm.Cond.code ({ cls := "SnowRecorderModel", name := "weakestName", desc := "(I)I" } : Jvm.MethodName) prog_12_method_108_code (4 : Nat) (Option.some Jvm.ClassFile.FieldType.int)) ∈ AW := AW_m9 130 (by decide +kernel) (by decide +kernel)
theorem q_2051 : (Jvm.Cond.methodLink "SnowRecorderModel" (442 : Nat) ({ cls := "SnowRecorderModel", name := "laysPit", desc := "(I[I)V" } : Jvm.MethodName)) ∈ AW := AW_m9 131 (by decide +kernel) (by decide +kernel)
theorem q_2053 : (Jvm.Cond.instanceMethod ({ cls := "SnowRecorderModel", name := "laysPit", desc := "(I[I)V" } : Jvm.MethodName)) ∈ AW := AW_m9 133 (by decide +kernel) (by decide +kernel)
theorem q_2054 : (Jvm.Cond.code ({ cls := "SnowRecorderModel", name := "laysPit", desc := "(I[I)V" } : Jvm.MethodName) prog_12_method_106_code (4 : Nat) (Option.none : Option Jvm.ClassFile.FieldType)) ∈ AW := AW_m9 134 (by decide +kernel) (by decide +kernel)
theorem q_2055 : (Jvm.Cond.methodLink "SnowRecorderModel" (446 : Nat) ({ cls := "SnowRecorderModel", name := "folds", desc := "(Z)I" } : Jvm.MethodName)) ∈ AW := AW_m9 135 (by decide +kernel) (by decide +kernel)
theorem q_2057 : (Jvm.Cond.instanceMethod ({ cls := "SnowRecorderModel", name := "folds", desc := "(Z)I" } : Jvm.MethodName)) ∈ AW := AW_m9 137 (by decide +kernel) (by decide +kernel)
theorem q_2058 : (Jvm.Cond.code ({ cls := "SnowRecorderModel", name := "folds", desc := "(Z)I" } : Jvm.MethodName) prog_12_method_107_code (6 : Nat) (Option.some Jvm.ClassFile.FieldType.int)) ∈ AW := AW_m9 138 (by decide +kernel) (by decide +kernel)
theorem s_109 : Cond.selects "SnowRecorderModel" ({ cls := "SnowRecorderModel", name := "namesInBoth", desc := "(II)I" } : Jvm.MethodName) ({ cls := "SnowRecorderModel", name := "namesInBoth", desc := "(II)I" } : Jvm.MethodName) ∈ AW := AW_m 109 (by decide +kernel) (by decide +kernel)
theorem s_111 : Cond.selects "SnowRecorderModel" ({ cls := "SnowRecorderModel", name := "weakestName", desc := "(I)I" } : Jvm.MethodName) ({ cls := "SnowRecorderModel", name := "weakestName", desc := "(I)I" } : Jvm.MethodName) ∈ AW := AW_m 111 (by decide +kernel) (by decide +kernel)
theorem s_112 : Cond.selects "SnowRecorderModel" ({ cls := "SnowRecorderModel", name := "laysPit", desc := "(I[I)V" } : Jvm.MethodName) ({ cls := "SnowRecorderModel", name := "laysPit", desc := "(I[I)V" } : Jvm.MethodName) ∈ AW := AW_m 112 (by decide +kernel) (by decide +kernel)
theorem s_113 : Cond.selects "SnowRecorderModel" ({ cls := "SnowRecorderModel", name := "folds", desc := "(Z)I" } : Jvm.MethodName) ({ cls := "SnowRecorderModel", name := "folds", desc := "(Z)I" } : Jvm.MethodName) ∈ AW := AW_m 113 (by decide +kernel) (by decide +kernel)
theorem hd_yX10_laysPit : yX10_laysPit.cls ≠ "java/lang/invoke/MethodHandle" ∧ yX10_laysPit.cls ≠ "java/lang/invoke/VarHandle" ∧ (parseMethodDescriptor yX10_laysPit.desc).map (fun d => d.parameters.length) = some 2 := by decide +kernel
theorem hd_yX10_folds : yX10_folds.cls ≠ "java/lang/invoke/MethodHandle" ∧ yX10_folds.cls ≠ "java/lang/invoke/VarHandle" ∧ (parseMethodDescriptor yX10_folds.desc).map (fun d => d.parameters.length) = some 1 := by decide +kernel
theorem hd_yX10_weakestName : yX10_weakestName.cls ≠ "java/lang/invoke/MethodHandle" ∧ yX10_weakestName.cls ≠ "java/lang/invoke/VarHandle" ∧ (parseMethodDescriptor yX10_weakestName.desc).map (fun d => d.parameters.length) = some 1 := by decide +kernel
theorem hd_yX10_namesInBoth : yX10_namesInBoth.cls ≠ "java/lang/invoke/MethodHandle" ∧ yX10_namesInBoth.cls ≠ "java/lang/invoke/VarHandle" ∧ (parseMethodDescriptor yX10_namesInBoth.desc).map (fun d => d.parameters.length) = some 2 := by decide +kernel
theorem mv_yX10_laysPit : zWv yX10_laysPit cX10_laysPit 4 none := ⟨q_2053, s_112, q_15, q_2054⟩
theorem mv_yX10_folds : zWv yX10_folds cX10_folds 6 (some .int) := ⟨q_2057, s_113, q_15, q_2058⟩
theorem mv_yX10_weakestName : zWv yX10_weakestName cX10_weakestName 4 (some .int) := ⟨q_2049, s_111, q_15, q_2050⟩
theorem mv_yX10_namesInBoth : zWv yX10_namesInBoth cX10_namesInBoth 6 (some .int) := ⟨q_2041, s_109, q_15, q_2042⟩
end
section
-- 99k.dec.lean.txt
-- decode rows of refcmp
theorem dX10_weakestName_0 : decode cX10_weakestName 0 = .ok (.aload_n 0, 1) := by decide +kernel
theorem dX10_weakestName_1 : decode cX10_weakestName 1 = .ok (.getfield 43, 3) := by decide +kernel
theorem dX10_weakestName_4 : decode cX10_weakestName 4 = .ok (.bipush 90, 2) := by decide +kernel
theorem dX10_weakestName_6 : decode cX10_weakestName 6 = .ok (.iload_n 1, 1) := by decide +kernel
theorem dX10_weakestName_7 : decode cX10_weakestName 7 = .ok (.imul, 1) := by decide +kernel
theorem dX10_weakestName_8 : decode cX10_weakestName 8 = .ok (.iaload, 1) := by decide +kernel
theorem dX10_weakestName_9 : decode cX10_weakestName 9 = .ok (.istore_n 2, 1) := by decide +kernel
theorem dX10_weakestName_10 : decode cX10_weakestName 10 = .ok (.aload_n 0, 1) := by decide +kernel
theorem dX10_weakestName_11 : decode cX10_weakestName 11 = .ok (.invokevirtual 409, 3) := by decide +kernel
theorem dX10_weakestName_14 : decode cX10_weakestName 14 = .ok (.aload_n 0, 1) := by decide +kernel
theorem dX10_weakestName_15 : decode cX10_weakestName 15 = .ok (.sipush 350, 3) := by decide +kernel
theorem dX10_weakestName_18 : decode cX10_weakestName 18 = .ok (.iload_n 2, 1) := by decide +kernel
theorem dX10_weakestName_19 : decode cX10_weakestName 19 = .ok (.aload_n 0, 1) := by decide +kernel
theorem dX10_weakestName_20 : decode cX10_weakestName 20 = .ok (.iload_n 1, 1) := by decide +kernel
theorem dX10_weakestName_21 : decode cX10_weakestName 21 = .ok (.invokevirtual 424, 3) := by decide +kernel
theorem dX10_weakestName_24 : decode cX10_weakestName 24 = .ok (.invokevirtual 135, 3) := by decide +kernel
theorem dX10_weakestName_27 : decode cX10_weakestName 27 = .ok (.iconst 0, 1) := by decide +kernel
theorem dX10_weakestName_28 : decode cX10_weakestName 28 = .ok (.istore_n 3, 1) := by decide +kernel
theorem dX10_weakestName_29 : decode cX10_weakestName 29 = .ok (.iload_n 3, 1) := by decide +kernel
theorem dX10_weakestName_30 : decode cX10_weakestName 30 = .ok (.bipush 84, 2) := by decide +kernel
theorem dX10_weakestName_32 : decode cX10_weakestName 32 = .ok (.if_icmp .ge 39, 3) := by decide +kernel
theorem dX10_weakestName_71 : decode cX10_weakestName 71 = .ok (.aload_n 0, 1) := by decide +kernel
theorem dX10_weakestName_72 : decode cX10_weakestName 72 = .ok (.sipush 350, 3) := by decide +kernel
theorem dX10_weakestName_75 : decode cX10_weakestName 75 = .ok (.iload_n 2, 1) := by decide +kernel
theorem dX10_weakestName_76 : decode cX10_weakestName 76 = .ok (.invokevirtual 363, 3) := by decide +kernel
theorem dX10_weakestName_79 : decode cX10_weakestName 79 = .ok (.istore_n 3, 1) := by decide +kernel
theorem dX10_weakestName_80 : decode cX10_weakestName 80 = .ok (.iload_n 3, 1) := by decide +kernel
theorem dX10_weakestName_81 : decode cX10_weakestName 81 = .ok (.iconst (-1), 1) := by decide +kernel
theorem dX10_weakestName_82 : decode cX10_weakestName 82 = .ok (.if_icmp .ne 7, 3) := by decide +kernel
theorem dX10_weakestName_89 : decode cX10_weakestName 89 = .ok (.aload_n 0, 1) := by decide +kernel
theorem dX10_weakestName_90 : decode cX10_weakestName 90 = .ok (.iload_n 1, 1) := by decide +kernel
theorem dX10_weakestName_91 : decode cX10_weakestName 91 = .ok (.iload_n 3, 1) := by decide +kernel
theorem dX10_weakestName_92 : decode cX10_weakestName 92 = .ok (.bipush 6, 2) := by decide +kernel
theorem dX10_weakestName_94 : decode cX10_weakestName 94 = .ok (.invokevirtual 427, 3) := by decide +kernel
theorem dX10_weakestName_97 : decode cX10_weakestName 97 = .ok (.ireturn, 1) := by decide +kernel
theorem dX10_weakestName_85 : decode cX10_weakestName 85 = .ok (.iconst (-1), 1) := by decide +kernel
theorem dX10_weakestName_86 : decode cX10_weakestName 86 = .ok (.goto 11, 3) := by decide +kernel
theorem dX10_weakestName_35 : decode cX10_weakestName 35 = .ok (.aload_n 0, 1) := by decide +kernel
theorem dX10_weakestName_36 : decode cX10_weakestName 36 = .ok (.getfield 9, 3) := by decide +kernel
theorem dX10_weakestName_39 : decode cX10_weakestName 39 = .ok (.sipush 356, 3) := by decide +kernel
theorem dX10_weakestName_42 : decode cX10_weakestName 42 = .ok (.bipush 86, 2) := by decide +kernel
theorem dX10_weakestName_44 : decode cX10_weakestName 44 = .ok (.iload_n 2, 1) := by decide +kernel
theorem dX10_weakestName_45 : decode cX10_weakestName 45 = .ok (.imul, 1) := by decide +kernel
theorem dX10_weakestName_46 : decode cX10_weakestName 46 = .ok (.iadd, 1) := by decide +kernel
theorem dX10_weakestName_47 : decode cX10_weakestName 47 = .ok (.iconst 2, 1) := by decide +kernel
theorem dX10_weakestName_48 : decode cX10_weakestName 48 = .ok (.iadd, 1) := by decide +kernel
theorem dX10_weakestName_49 : decode cX10_weakestName 49 = .ok (.iload_n 3, 1) := by decide +kernel
theorem dX10_weakestName_50 : decode cX10_weakestName 50 = .ok (.iadd, 1) := by decide +kernel
theorem dX10_weakestName_51 : decode cX10_weakestName 51 = .ok (.aload_n 0, 1) := by decide +kernel
theorem dX10_weakestName_52 : decode cX10_weakestName 52 = .ok (.getfield 43, 3) := by decide +kernel
theorem dX10_weakestName_55 : decode cX10_weakestName 55 = .ok (.bipush 90, 2) := by decide +kernel
theorem dX10_weakestName_57 : decode cX10_weakestName 57 = .ok (.iload_n 1, 1) := by decide +kernel
theorem dX10_weakestName_58 : decode cX10_weakestName 58 = .ok (.imul, 1) := by decide +kernel
theorem dX10_weakestName_59 : decode cX10_weakestName 59 = .ok (.iconst 3, 1) := by decide +kernel
theorem dX10_weakestName_60 : decode cX10_weakestName 60 = .ok (.iadd, 1) := by decide +kernel
theorem dX10_weakestName_61 : decode cX10_weakestName 61 = .ok (.iload_n 3, 1) := by decide +kernel
theorem dX10_weakestName_62 : decode cX10_weakestName 62 = .ok (.iadd, 1) := by decide +kernel
theorem dX10_weakestName_63 : decode cX10_weakestName 63 = .ok (.iaload, 1) := by decide +kernel
theorem dX10_weakestName_64 : decode cX10_weakestName 64 = .ok (.iastore, 1) := by decide +kernel
theorem dX10_weakestName_65 : decode cX10_weakestName 65 = .ok (.iinc 3 1, 3) := by decide +kernel
theorem dX10_weakestName_68 : decode cX10_weakestName 68 = .ok (.goto (-39), 3) := by decide +kernel
theorem dX10_compare_0 : decode cX10_compare 0 = .ok (.aload_n 0, 1) := by decide +kernel
theorem dX10_compare_1 : decode cX10_compare 1 = .ok (.iconst 0, 1) := by decide +kernel
theorem dX10_compare_2 : decode cX10_compare 2 = .ok (.putfield 110, 3) := by decide +kernel
theorem dX10_compare_5 : decode cX10_compare 5 = .ok (.aload_n 0, 1) := by decide +kernel
theorem dX10_compare_6 : decode cX10_compare 6 = .ok (.iload_n 1, 1) := by decide +kernel
theorem dX10_compare_7 : decode cX10_compare 7 = .ok (.invokevirtual 421, 3) := by decide +kernel
theorem dX10_compare_10 : decode cX10_compare 10 = .ok (.ifCond .eq 25, 3) := by decide +kernel
theorem dX10_compare_13 : decode cX10_compare 13 = .ok (.aload_n 0, 1) := by decide +kernel
theorem dX10_compare_14 : decode cX10_compare 14 = .ok (.iload_n 2, 1) := by decide +kernel
theorem dX10_compare_15 : decode cX10_compare 15 = .ok (.invokevirtual 421, 3) := by decide +kernel
theorem dX10_compare_18 : decode cX10_compare 18 = .ok (.ifCond .eq 17, 3) := by decide +kernel
theorem dX10_compare_21 : decode cX10_compare 21 = .ok (.aload_n 0, 1) := by decide +kernel
theorem dX10_compare_22 : decode cX10_compare 22 = .ok (.iload_n 3, 1) := by decide +kernel
theorem dX10_compare_23 : decode cX10_compare 23 = .ok (.iconst 0, 1) := by decide +kernel
theorem dX10_compare_24 : decode cX10_compare 24 = .ok (.iconst 3, 1) := by decide +kernel
theorem dX10_compare_25 : decode cX10_compare 25 = .ok (.invokestatic 281, 3) := by decide +kernel
theorem dX10_compare_28 : decode cX10_compare 28 = .ok (.iconst 1, 1) := by decide +kernel
theorem dX10_compare_29 : decode cX10_compare 29 = .ok (.invokevirtual 324, 3) := by decide +kernel
theorem dX10_compare_32 : decode cX10_compare 32 = .ok (.ifCond .ne 5, 3) := by decide +kernel
theorem dX10_compare_37 : decode cX10_compare 37 = .ok (.iload_n 3, 1) := by decide +kernel
theorem dX10_compare_38 : decode cX10_compare 38 = .ok (.ifCond .ne 10, 3) := by decide +kernel
theorem dX10_compare_48 : decode cX10_compare 48 = .ok (.iload_n 3, 1) := by decide +kernel
theorem dX10_compare_49 : decode cX10_compare 49 = .ok (.iconst 3, 1) := by decide +kernel
theorem dX10_compare_50 : decode cX10_compare 50 = .ok (.if_icmp .ne 31, 3) := by decide +kernel
theorem dX10_compare_81 : decode cX10_compare 81 = .ok (.aload_n 0, 1) := by decide +kernel
theorem dX10_compare_82 : decode cX10_compare 82 = .ok (.aload_n 0, 1) := by decide +kernel
theorem dX10_compare_83 : decode cX10_compare 83 = .ok (.iload_n 1, 1) := by decide +kernel
theorem dX10_compare_84 : decode cX10_compare 84 = .ok (.invokevirtual 424, 3) := by decide +kernel
theorem dX10_compare_87 : decode cX10_compare 87 = .ok (.putfield 430, 3) := by decide +kernel
theorem dX10_compare_90 : decode cX10_compare 90 = .ok (.aload_n 0, 1) := by decide +kernel
theorem dX10_compare_91 : decode cX10_compare 91 = .ok (.aload_n 0, 1) := by decide +kernel
theorem dX10_compare_92 : decode cX10_compare 92 = .ok (.iload_n 2, 1) := by decide +kernel
theorem dX10_compare_93 : decode cX10_compare 93 = .ok (.invokevirtual 424, 3) := by decide +kernel
theorem dX10_compare_96 : decode cX10_compare 96 = .ok (.putfield 433, 3) := by decide +kernel
theorem dX10_compare_99 : decode cX10_compare 99 = .ok (.aload_n 0, 1) := by decide +kernel
theorem dX10_compare_100 : decode cX10_compare 100 = .ok (.iload_n 1, 1) := by decide +kernel
theorem dX10_compare_101 : decode cX10_compare 101 = .ok (.aload_n 0, 1) := by decide +kernel
theorem dX10_compare_102 : decode cX10_compare 102 = .ok (.getfield 92, 3) := by decide +kernel
theorem dX10_compare_105 : decode cX10_compare 105 = .ok (.invokevirtual 442, 3) := by decide +kernel
theorem dX10_compare_108 : decode cX10_compare 108 = .ok (.aload_n 0, 1) := by decide +kernel
theorem dX10_compare_109 : decode cX10_compare 109 = .ok (.iload_n 2, 1) := by decide +kernel
theorem dX10_compare_110 : decode cX10_compare 110 = .ok (.aload_n 0, 1) := by decide +kernel
theorem dX10_compare_111 : decode cX10_compare 111 = .ok (.getfield 95, 3) := by decide +kernel
theorem dX10_compare_114 : decode cX10_compare 114 = .ok (.invokevirtual 442, 3) := by decide +kernel
theorem dX10_compare_117 : decode cX10_compare 117 = .ok (.aload_n 0, 1) := by decide +kernel
theorem dX10_compare_118 : decode cX10_compare 118 = .ok (.iload_n 3, 1) := by decide +kernel
theorem dX10_compare_119 : decode cX10_compare 119 = .ok (.iconst 1, 1) := by decide +kernel
theorem dX10_compare_120 : decode cX10_compare 120 = .ok (.if_icmp .ne 7, 3) := by decide +kernel
theorem dX10_compare_127 : decode cX10_compare 127 = .ok (.iconst 0, 1) := by decide +kernel
theorem dX10_compare_128 : decode cX10_compare 128 = .ok (.invokevirtual 446, 3) := by decide +kernel
theorem dX10_compare_131 : decode cX10_compare 131 = .ok (.ireturn, 1) := by decide +kernel
theorem dX10_compare_123 : decode cX10_compare 123 = .ok (.iconst 1, 1) := by decide +kernel
theorem dX10_compare_124 : decode cX10_compare 124 = .ok (.goto 4, 3) := by decide +kernel
theorem dX10_compare_53 : decode cX10_compare 53 = .ok (.aload_n 0, 1) := by decide +kernel
theorem dX10_compare_54 : decode cX10_compare 54 = .ok (.iload_n 1, 1) := by decide +kernel
theorem dX10_compare_55 : decode cX10_compare 55 = .ok (.invokevirtual 439, 3) := by decide +kernel
theorem dX10_compare_58 : decode cX10_compare 58 = .ok (.iconst (-1), 1) := by decide +kernel
theorem dX10_compare_59 : decode cX10_compare 59 = .ok (.if_icmp .eq 20, 3) := by decide +kernel
theorem dX10_compare_79 : decode cX10_compare 79 = .ok (.iconst 0, 1) := by decide +kernel
theorem dX10_compare_80 : decode cX10_compare 80 = .ok (.ireturn, 1) := by decide +kernel
theorem dX10_compare_62 : decode cX10_compare 62 = .ok (.aload_n 0, 1) := by decide +kernel
theorem dX10_compare_63 : decode cX10_compare 63 = .ok (.iload_n 1, 1) := by decide +kernel
theorem dX10_compare_64 : decode cX10_compare 64 = .ok (.invokevirtual 439, 3) := by decide +kernel
theorem dX10_compare_67 : decode cX10_compare 67 = .ok (.aload_n 0, 1) := by decide +kernel
theorem dX10_compare_68 : decode cX10_compare 68 = .ok (.iload_n 2, 1) := by decide +kernel
theorem dX10_compare_69 : decode cX10_compare 69 = .ok (.invokevirtual 439, 3) := by decide +kernel
theorem dX10_compare_72 : decode cX10_compare 72 = .ok (.if_icmp .ne 7, 3) := by decide +kernel
theorem dX10_compare_75 : decode cX10_compare 75 = .ok (.iconst 1, 1) := by decide +kernel
theorem dX10_compare_76 : decode cX10_compare 76 = .ok (.goto 4, 3) := by decide +kernel
theorem dX10_compare_41 : decode cX10_compare 41 = .ok (.aload_n 0, 1) := by decide +kernel
theorem dX10_compare_42 : decode cX10_compare 42 = .ok (.iload_n 1, 1) := by decide +kernel
theorem dX10_compare_43 : decode cX10_compare 43 = .ok (.iload_n 2, 1) := by decide +kernel
theorem dX10_compare_44 : decode cX10_compare 44 = .ok (.invokevirtual 436, 3) := by decide +kernel
theorem dX10_compare_47 : decode cX10_compare 47 = .ok (.ireturn, 1) := by decide +kernel
theorem dX10_compare_35 : decode cX10_compare 35 = .ok (.iconst 0, 1) := by decide +kernel
theorem dX10_compare_36 : decode cX10_compare 36 = .ok (.ireturn, 1) := by decide +kernel
theorem dX10_nearest_0 : decode cX10_nearest 0 = .ok (.aload_n 0, 1) := by decide +kernel
theorem dX10_nearest_1 : decode cX10_nearest 1 = .ok (.iconst 0, 1) := by decide +kernel
theorem dX10_nearest_2 : decode cX10_nearest 2 = .ok (.putfield 110, 3) := by decide +kernel
theorem dX10_nearest_5 : decode cX10_nearest 5 = .ok (.aload_n 0, 1) := by decide +kernel
theorem dX10_nearest_6 : decode cX10_nearest 6 = .ok (.iload_n 1, 1) := by decide +kernel
theorem dX10_nearest_7 : decode cX10_nearest 7 = .ok (.invokevirtual 421, 3) := by decide +kernel
theorem dX10_nearest_10 : decode cX10_nearest 10 = .ok (.ifCond .ne 5, 3) := by decide +kernel
theorem dX10_nearest_15 : decode cX10_nearest 15 = .ok (.iconst (-1), 1) := by decide +kernel
theorem dX10_nearest_16 : decode cX10_nearest 16 = .ok (.istore_n 2, 1) := by decide +kernel
theorem dX10_nearest_17 : decode cX10_nearest 17 = .ok (.iconst 0, 1) := by decide +kernel
theorem dX10_nearest_18 : decode cX10_nearest 18 = .ok (.istore_n 3, 1) := by decide +kernel
theorem dX10_nearest_19 : decode cX10_nearest 19 = .ok (.aload_n 0, 1) := by decide +kernel
theorem dX10_nearest_20 : decode cX10_nearest 20 = .ok (.aload_n 0, 1) := by decide +kernel
theorem dX10_nearest_21 : decode cX10_nearest 21 = .ok (.iload_n 1, 1) := by decide +kernel
theorem dX10_nearest_22 : decode cX10_nearest 22 = .ok (.invokevirtual 424, 3) := by decide +kernel
theorem dX10_nearest_25 : decode cX10_nearest 25 = .ok (.putfield 430, 3) := by decide +kernel
theorem dX10_nearest_28 : decode cX10_nearest 28 = .ok (.aload_n 0, 1) := by decide +kernel
theorem dX10_nearest_29 : decode cX10_nearest 29 = .ok (.iload_n 1, 1) := by decide +kernel
theorem dX10_nearest_30 : decode cX10_nearest 30 = .ok (.aload_n 0, 1) := by decide +kernel
theorem dX10_nearest_31 : decode cX10_nearest 31 = .ok (.getfield 92, 3) := by decide +kernel
theorem dX10_nearest_34 : decode cX10_nearest 34 = .ok (.invokevirtual 442, 3) := by decide +kernel
theorem dX10_nearest_37 : decode cX10_nearest 37 = .ok (.iconst 0, 1) := by decide +kernel
theorem dX10_nearest_38 : decode cX10_nearest 38 = .ok (.istore 4, 2) := by decide +kernel
theorem dX10_nearest_40 : decode cX10_nearest 40 = .ok (.iload 4, 2) := by decide +kernel
theorem dX10_nearest_42 : decode cX10_nearest 42 = .ok (.aload_n 0, 1) := by decide +kernel
theorem dX10_nearest_43 : decode cX10_nearest 43 = .ok (.getfield 198, 3) := by decide +kernel
theorem dX10_nearest_46 : decode cX10_nearest 46 = .ok (.if_icmp .ge 82, 3) := by decide +kernel
theorem dX10_nearest_128 : decode cX10_nearest 128 = .ok (.iload_n 2, 1) := by decide +kernel
theorem dX10_nearest_129 : decode cX10_nearest 129 = .ok (.ireturn, 1) := by decide +kernel
theorem dX10_nearest_49 : decode cX10_nearest 49 = .ok (.aload_n 0, 1) := by decide +kernel
theorem dX10_nearest_50 : decode cX10_nearest 50 = .ok (.aload_n 0, 1) := by decide +kernel
theorem dX10_nearest_51 : decode cX10_nearest 51 = .ok (.iconst 0, 1) := by decide +kernel
theorem dX10_nearest_52 : decode cX10_nearest 52 = .ok (.iload 4, 2) := by decide +kernel
theorem dX10_nearest_54 : decode cX10_nearest 54 = .ok (.invokevirtual 121, 3) := by decide +kernel
theorem dX10_nearest_57 : decode cX10_nearest 57 = .ok (.putfield 433, 3) := by decide +kernel
theorem dX10_nearest_60 : decode cX10_nearest 60 = .ok (.iconst 0, 1) := by decide +kernel
theorem dX10_nearest_61 : decode cX10_nearest 61 = .ok (.istore 5, 2) := by decide +kernel
theorem dX10_nearest_63 : decode cX10_nearest 63 = .ok (.iload 5, 2) := by decide +kernel
theorem dX10_nearest_65 : decode cX10_nearest 65 = .ok (.aload_n 0, 1) := by decide +kernel
theorem dX10_nearest_66 : decode cX10_nearest 66 = .ok (.getfield 433, 3) := by decide +kernel
theorem dX10_nearest_69 : decode cX10_nearest 69 = .ok (.if_icmp .ge 26, 3) := by decide +kernel
theorem dX10_nearest_95 : decode cX10_nearest 95 = .ok (.aload_n 0, 1) := by decide +kernel
theorem dX10_nearest_96 : decode cX10_nearest 96 = .ok (.iconst 0, 1) := by decide +kernel
theorem dX10_nearest_97 : decode cX10_nearest 97 = .ok (.invokevirtual 446, 3) := by decide +kernel
theorem dX10_nearest_100 : decode cX10_nearest 100 = .ok (.istore 5, 2) := by decide +kernel
theorem dX10_nearest_102 : decode cX10_nearest 102 = .ok (.iload_n 2, 1) := by decide +kernel
theorem dX10_nearest_103 : decode cX10_nearest 103 = .ok (.iconst (-1), 1) := by decide +kernel
theorem dX10_nearest_104 : decode cX10_nearest 104 = .ok (.if_icmp .eq 12, 3) := by decide +kernel
theorem dX10_nearest_116 : decode cX10_nearest 116 = .ok (.iload 4, 2) := by decide +kernel
theorem dX10_nearest_118 : decode cX10_nearest 118 = .ok (.istore_n 2, 1) := by decide +kernel
theorem dX10_nearest_119 : decode cX10_nearest 119 = .ok (.iload 5, 2) := by decide +kernel
theorem dX10_nearest_121 : decode cX10_nearest 121 = .ok (.istore_n 3, 1) := by decide +kernel
theorem dX10_nearest_122 : decode cX10_nearest 122 = .ok (.iinc 4 1, 3) := by decide +kernel
theorem dX10_nearest_125 : decode cX10_nearest 125 = .ok (.goto (-85), 3) := by decide +kernel
theorem dX10_nearest_107 : decode cX10_nearest 107 = .ok (.iload 5, 2) := by decide +kernel
theorem dX10_nearest_109 : decode cX10_nearest 109 = .ok (.iload_n 3, 1) := by decide +kernel
theorem dX10_nearest_110 : decode cX10_nearest 110 = .ok (.if_icmp .lt 6, 3) := by decide +kernel
theorem dX10_nearest_113 : decode cX10_nearest 113 = .ok (.goto 9, 3) := by decide +kernel
theorem dX10_nearest_72 : decode cX10_nearest 72 = .ok (.aload_n 0, 1) := by decide +kernel
theorem dX10_nearest_73 : decode cX10_nearest 73 = .ok (.getfield 95, 3) := by decide +kernel
theorem dX10_nearest_76 : decode cX10_nearest 76 = .ok (.iload 5, 2) := by decide +kernel
theorem dX10_nearest_78 : decode cX10_nearest 78 = .ok (.aload_n 0, 1) := by decide +kernel
theorem dX10_nearest_79 : decode cX10_nearest 79 = .ok (.iconst 0, 1) := by decide +kernel
theorem dX10_nearest_80 : decode cX10_nearest 80 = .ok (.iload 4, 2) := by decide +kernel
theorem dX10_nearest_82 : decode cX10_nearest 82 = .ok (.iload 5, 2) := by decide +kernel
theorem dX10_nearest_84 : decode cX10_nearest 84 = .ok (.iconst 0, 1) := by decide +kernel
theorem dX10_nearest_85 : decode cX10_nearest 85 = .ok (.invokevirtual 117, 3) := by decide +kernel
theorem dX10_nearest_88 : decode cX10_nearest 88 = .ok (.iastore, 1) := by decide +kernel
theorem dX10_nearest_89 : decode cX10_nearest 89 = .ok (.iinc 5 1, 3) := by decide +kernel
theorem dX10_nearest_92 : decode cX10_nearest 92 = .ok (.goto (-29), 3) := by decide +kernel
theorem dX10_nearest_13 : decode cX10_nearest 13 = .ok (.iconst 0, 1) := by decide +kernel
theorem dX10_nearest_14 : decode cX10_nearest 14 = .ok (.ireturn, 1) := by decide +kernel
end
