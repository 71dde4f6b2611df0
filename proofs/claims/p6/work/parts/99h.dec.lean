-- decode rows of refpit
theorem dX10_pitMany_0 : decode cX10_pitMany 0 = .ok (.aload_n 0, 1) := by decide +kernel
theorem dX10_pitMany_1 : decode cX10_pitMany 1 = .ok (.getfield 43, 3) := by decide +kernel
theorem dX10_pitMany_4 : decode cX10_pitMany 4 = .ok (.bipush 90, 2) := by decide +kernel
theorem dX10_pitMany_6 : decode cX10_pitMany 6 = .ok (.iload_n 1, 1) := by decide +kernel
theorem dX10_pitMany_7 : decode cX10_pitMany 7 = .ok (.imul, 1) := by decide +kernel
theorem dX10_pitMany_8 : decode cX10_pitMany 8 = .ok (.iconst 2, 1) := by decide +kernel
theorem dX10_pitMany_9 : decode cX10_pitMany 9 = .ok (.iadd, 1) := by decide +kernel
theorem dX10_pitMany_10 : decode cX10_pitMany 10 = .ok (.iaload, 1) := by decide +kernel
theorem dX10_pitMany_11 : decode cX10_pitMany 11 = .ok (.ireturn, 1) := by decide +kernel
theorem dX10_inPit_0 : decode cX10_inPit 0 = .ok (.aload_n 0, 1) := by decide +kernel
theorem dX10_inPit_1 : decode cX10_inPit 1 = .ok (.getfield 43, 3) := by decide +kernel
theorem dX10_inPit_4 : decode cX10_inPit 4 = .ok (.bipush 90, 2) := by decide +kernel
theorem dX10_inPit_6 : decode cX10_inPit 6 = .ok (.iload_n 1, 1) := by decide +kernel
theorem dX10_inPit_7 : decode cX10_inPit 7 = .ok (.imul, 1) := by decide +kernel
theorem dX10_inPit_8 : decode cX10_inPit 8 = .ok (.iconst 3, 1) := by decide +kernel
theorem dX10_inPit_9 : decode cX10_inPit 9 = .ok (.iadd, 1) := by decide +kernel
theorem dX10_inPit_10 : decode cX10_inPit 10 = .ok (.bipush 7, 2) := by decide +kernel
theorem dX10_inPit_12 : decode cX10_inPit 12 = .ok (.iload_n 2, 1) := by decide +kernel
theorem dX10_inPit_13 : decode cX10_inPit 13 = .ok (.imul, 1) := by decide +kernel
theorem dX10_inPit_14 : decode cX10_inPit 14 = .ok (.iadd, 1) := by decide +kernel
theorem dX10_inPit_15 : decode cX10_inPit 15 = .ok (.iload_n 3, 1) := by decide +kernel
theorem dX10_inPit_16 : decode cX10_inPit 16 = .ok (.iadd, 1) := by decide +kernel
theorem dX10_inPit_17 : decode cX10_inPit 17 = .ok (.iaload, 1) := by decide +kernel
theorem dX10_inPit_18 : decode cX10_inPit 18 = .ok (.ireturn, 1) := by decide +kernel
theorem dX10_pitOf_0 : decode cX10_pitOf 0 = .ok (.aload_n 0, 1) := by decide +kernel
theorem dX10_pitOf_1 : decode cX10_pitOf 1 = .ok (.iconst 0, 1) := by decide +kernel
theorem dX10_pitOf_2 : decode cX10_pitOf 2 = .ok (.putfield 110, 3) := by decide +kernel
theorem dX10_pitOf_5 : decode cX10_pitOf 5 = .ok (.aload_n 0, 1) := by decide +kernel
theorem dX10_pitOf_6 : decode cX10_pitOf 6 = .ok (.iload_n 1, 1) := by decide +kernel
theorem dX10_pitOf_7 : decode cX10_pitOf 7 = .ok (.invokevirtual 421, 3) := by decide +kernel
theorem dX10_pitOf_10 : decode cX10_pitOf 10 = .ok (.ifCond .eq 17, 3) := by decide +kernel
theorem dX10_pitOf_13 : decode cX10_pitOf 13 = .ok (.aload_n 0, 1) := by decide +kernel
theorem dX10_pitOf_14 : decode cX10_pitOf 14 = .ok (.iload_n 2, 1) := by decide +kernel
theorem dX10_pitOf_15 : decode cX10_pitOf 15 = .ok (.iconst 0, 1) := by decide +kernel
theorem dX10_pitOf_16 : decode cX10_pitOf 16 = .ok (.iconst 2, 1) := by decide +kernel
theorem dX10_pitOf_17 : decode cX10_pitOf 17 = .ok (.invokestatic 281, 3) := by decide +kernel
theorem dX10_pitOf_20 : decode cX10_pitOf 20 = .ok (.iconst 1, 1) := by decide +kernel
theorem dX10_pitOf_21 : decode cX10_pitOf 21 = .ok (.invokevirtual 324, 3) := by decide +kernel
theorem dX10_pitOf_24 : decode cX10_pitOf 24 = .ok (.ifCond .ne 5, 3) := by decide +kernel
theorem dX10_pitOf_29 : decode cX10_pitOf 29 = .ok (.iload_n 2, 1) := by decide +kernel
theorem dX10_pitOf_30 : decode cX10_pitOf 30 = .ok (.ifCond .ne 15, 3) := by decide +kernel
theorem dX10_pitOf_45 : decode cX10_pitOf 45 = .ok (.iload_n 2, 1) := by decide +kernel
theorem dX10_pitOf_46 : decode cX10_pitOf 46 = .ok (.iconst 1, 1) := by decide +kernel
theorem dX10_pitOf_47 : decode cX10_pitOf 47 = .ok (.if_icmp .ne 11, 3) := by decide +kernel
theorem dX10_pitOf_58 : decode cX10_pitOf 58 = .ok (.aload_n 0, 1) := by decide +kernel
theorem dX10_pitOf_59 : decode cX10_pitOf 59 = .ok (.getfield 43, 3) := by decide +kernel
theorem dX10_pitOf_62 : decode cX10_pitOf 62 = .ok (.bipush 90, 2) := by decide +kernel
theorem dX10_pitOf_64 : decode cX10_pitOf 64 = .ok (.iload_n 1, 1) := by decide +kernel
theorem dX10_pitOf_65 : decode cX10_pitOf 65 = .ok (.imul, 1) := by decide +kernel
theorem dX10_pitOf_66 : decode cX10_pitOf 66 = .ok (.iconst 1, 1) := by decide +kernel
theorem dX10_pitOf_67 : decode cX10_pitOf 67 = .ok (.iadd, 1) := by decide +kernel
theorem dX10_pitOf_68 : decode cX10_pitOf 68 = .ok (.iaload, 1) := by decide +kernel
theorem dX10_pitOf_69 : decode cX10_pitOf 69 = .ok (.ireturn, 1) := by decide +kernel
theorem dX10_pitOf_50 : decode cX10_pitOf 50 = .ok (.aload_n 0, 1) := by decide +kernel
theorem dX10_pitOf_51 : decode cX10_pitOf 51 = .ok (.iload_n 1, 1) := by decide +kernel
theorem dX10_pitOf_52 : decode cX10_pitOf 52 = .ok (.invokevirtual 424, 3) := by decide +kernel
theorem dX10_pitOf_55 : decode cX10_pitOf 55 = .ok (.goto 14, 3) := by decide +kernel
theorem dX10_pitOf_33 : decode cX10_pitOf 33 = .ok (.aload_n 0, 1) := by decide +kernel
theorem dX10_pitOf_34 : decode cX10_pitOf 34 = .ok (.getfield 43, 3) := by decide +kernel
theorem dX10_pitOf_37 : decode cX10_pitOf 37 = .ok (.bipush 90, 2) := by decide +kernel
theorem dX10_pitOf_39 : decode cX10_pitOf 39 = .ok (.iload_n 1, 1) := by decide +kernel
theorem dX10_pitOf_40 : decode cX10_pitOf 40 = .ok (.imul, 1) := by decide +kernel
theorem dX10_pitOf_41 : decode cX10_pitOf 41 = .ok (.iaload, 1) := by decide +kernel
theorem dX10_pitOf_42 : decode cX10_pitOf 42 = .ok (.goto 27, 3) := by decide +kernel
theorem dX10_pitOf_27 : decode cX10_pitOf 27 = .ok (.iconst 0, 1) := by decide +kernel
theorem dX10_pitOf_28 : decode cX10_pitOf 28 = .ok (.ireturn, 1) := by decide +kernel
theorem dX10_namesInBoth_5 : decode cX10_namesInBoth 5 = .ok (.iload 4, 2) := by decide +kernel
theorem dX10_namesInBoth_7 : decode cX10_namesInBoth 7 = .ok (.aload_n 0, 1) := by decide +kernel
theorem dX10_namesInBoth_8 : decode cX10_namesInBoth 8 = .ok (.iload_n 1, 1) := by decide +kernel
theorem dX10_namesInBoth_9 : decode cX10_namesInBoth 9 = .ok (.invokevirtual 424, 3) := by decide +kernel
theorem dX10_namesInBoth_12 : decode cX10_namesInBoth 12 = .ok (.if_icmp .ge 57, 3) := by decide +kernel
theorem dX10_namesInBoth_69 : decode cX10_namesInBoth 69 = .ok (.iload_n 3, 1) := by decide +kernel
theorem dX10_namesInBoth_70 : decode cX10_namesInBoth 70 = .ok (.ireturn, 1) := by decide +kernel
theorem dX10_namesInBoth_15 : decode cX10_namesInBoth 15 = .ok (.iconst 0, 1) := by decide +kernel
theorem dX10_namesInBoth_16 : decode cX10_namesInBoth 16 = .ok (.istore 5, 2) := by decide +kernel
theorem dX10_namesInBoth_18 : decode cX10_namesInBoth 18 = .ok (.iload 5, 2) := by decide +kernel
theorem dX10_namesInBoth_20 : decode cX10_namesInBoth 20 = .ok (.aload_n 0, 1) := by decide +kernel
theorem dX10_namesInBoth_21 : decode cX10_namesInBoth 21 = .ok (.iload_n 2, 1) := by decide +kernel
theorem dX10_namesInBoth_22 : decode cX10_namesInBoth 22 = .ok (.invokevirtual 424, 3) := by decide +kernel
theorem dX10_namesInBoth_25 : decode cX10_namesInBoth 25 = .ok (.if_icmp .ge 38, 3) := by decide +kernel
theorem dX10_namesInBoth_63 : decode cX10_namesInBoth 63 = .ok (.iinc 4 1, 3) := by decide +kernel
theorem dX10_namesInBoth_66 : decode cX10_namesInBoth 66 = .ok (.goto (-61), 3) := by decide +kernel
theorem dX10_namesInBoth_28 : decode cX10_namesInBoth 28 = .ok (.iload_n 3, 1) := by decide +kernel
theorem dX10_namesInBoth_29 : decode cX10_namesInBoth 29 = .ok (.aload_n 0, 1) := by decide +kernel
theorem dX10_namesInBoth_30 : decode cX10_namesInBoth 30 = .ok (.iload_n 1, 1) := by decide +kernel
theorem dX10_namesInBoth_31 : decode cX10_namesInBoth 31 = .ok (.iload 4, 2) := by decide +kernel
theorem dX10_namesInBoth_33 : decode cX10_namesInBoth 33 = .ok (.bipush 6, 2) := by decide +kernel
theorem dX10_namesInBoth_35 : decode cX10_namesInBoth 35 = .ok (.invokevirtual 427, 3) := by decide +kernel
theorem dX10_namesInBoth_38 : decode cX10_namesInBoth 38 = .ok (.aload_n 0, 1) := by decide +kernel
theorem dX10_namesInBoth_39 : decode cX10_namesInBoth 39 = .ok (.iload_n 2, 1) := by decide +kernel
theorem dX10_namesInBoth_40 : decode cX10_namesInBoth 40 = .ok (.iload 5, 2) := by decide +kernel
theorem dX10_namesInBoth_42 : decode cX10_namesInBoth 42 = .ok (.bipush 6, 2) := by decide +kernel
theorem dX10_namesInBoth_44 : decode cX10_namesInBoth 44 = .ok (.invokevirtual 427, 3) := by decide +kernel
theorem dX10_namesInBoth_47 : decode cX10_namesInBoth 47 = .ok (.if_icmp .ne 7, 3) := by decide +kernel
theorem dX10_namesInBoth_54 : decode cX10_namesInBoth 54 = .ok (.iconst 0, 1) := by decide +kernel
theorem dX10_namesInBoth_55 : decode cX10_namesInBoth 55 = .ok (.iadd, 1) := by decide +kernel
theorem dX10_namesInBoth_56 : decode cX10_namesInBoth 56 = .ok (.istore_n 3, 1) := by decide +kernel
theorem dX10_namesInBoth_57 : decode cX10_namesInBoth 57 = .ok (.iinc 5 1, 3) := by decide +kernel
theorem dX10_namesInBoth_60 : decode cX10_namesInBoth 60 = .ok (.goto (-42), 3) := by decide +kernel
theorem dX10_namesInBoth_50 : decode cX10_namesInBoth 50 = .ok (.iconst 1, 1) := by decide +kernel
theorem dX10_namesInBoth_51 : decode cX10_namesInBoth 51 = .ok (.goto 4, 3) := by decide +kernel
theorem dX10_namesInBoth_0 : decode cX10_namesInBoth 0 = .ok (.iconst 0, 1) := by decide +kernel
theorem dX10_namesInBoth_1 : decode cX10_namesInBoth 1 = .ok (.istore_n 3, 1) := by decide +kernel
theorem dX10_namesInBoth_2 : decode cX10_namesInBoth 2 = .ok (.iconst 0, 1) := by decide +kernel
theorem dX10_namesInBoth_3 : decode cX10_namesInBoth 3 = .ok (.istore 4, 2) := by decide +kernel
theorem dX10_laysPit_2 : decode cX10_laysPit 2 = .ok (.iload_n 3, 1) := by decide +kernel
theorem dX10_laysPit_3 : decode cX10_laysPit 3 = .ok (.aload_n 0, 1) := by decide +kernel
theorem dX10_laysPit_4 : decode cX10_laysPit 4 = .ok (.iload_n 1, 1) := by decide +kernel
theorem dX10_laysPit_5 : decode cX10_laysPit 5 = .ok (.invokevirtual 424, 3) := by decide +kernel
theorem dX10_laysPit_8 : decode cX10_laysPit 8 = .ok (.if_icmp .ge 19, 3) := by decide +kernel
theorem dX10_laysPit_27 : decode cX10_laysPit 27 = .ok (.return_, 1) := by decide +kernel
theorem dX10_laysPit_11 : decode cX10_laysPit 11 = .ok (.aload_n 2, 1) := by decide +kernel
theorem dX10_laysPit_12 : decode cX10_laysPit 12 = .ok (.iload_n 3, 1) := by decide +kernel
theorem dX10_laysPit_13 : decode cX10_laysPit 13 = .ok (.aload_n 0, 1) := by decide +kernel
theorem dX10_laysPit_14 : decode cX10_laysPit 14 = .ok (.iload_n 1, 1) := by decide +kernel
theorem dX10_laysPit_15 : decode cX10_laysPit 15 = .ok (.iload_n 3, 1) := by decide +kernel
theorem dX10_laysPit_16 : decode cX10_laysPit 16 = .ok (.iconst 0, 1) := by decide +kernel
theorem dX10_laysPit_17 : decode cX10_laysPit 17 = .ok (.invokevirtual 427, 3) := by decide +kernel
theorem dX10_laysPit_20 : decode cX10_laysPit 20 = .ok (.iastore, 1) := by decide +kernel
theorem dX10_laysPit_21 : decode cX10_laysPit 21 = .ok (.iinc 3 1, 3) := by decide +kernel
theorem dX10_laysPit_24 : decode cX10_laysPit 24 = .ok (.goto (-22), 3) := by decide +kernel
theorem dX10_laysPit_0 : decode cX10_laysPit 0 = .ok (.iconst 0, 1) := by decide +kernel
theorem dX10_laysPit_1 : decode cX10_laysPit 1 = .ok (.istore_n 3, 1) := by decide +kernel
theorem dX10_folds_2 : decode cX10_folds 2 = .ok (.iload_n 2, 1) := by decide +kernel
theorem dX10_folds_3 : decode cX10_folds 3 = .ok (.aload_n 0, 1) := by decide +kernel
theorem dX10_folds_4 : decode cX10_folds 4 = .ok (.getfield 430, 3) := by decide +kernel
theorem dX10_folds_7 : decode cX10_folds 7 = .ok (.if_icmp .gt 203, 3) := by decide +kernel
theorem dX10_folds_210 : decode cX10_folds 210 = .ok (.aload_n 0, 1) := by decide +kernel
theorem dX10_folds_211 : decode cX10_folds 211 = .ok (.getfield 98, 3) := by decide +kernel
theorem dX10_folds_214 : decode cX10_folds 214 = .ok (.bipush 13, 2) := by decide +kernel
theorem dX10_folds_216 : decode cX10_folds 216 = .ok (.aload_n 0, 1) := by decide +kernel
theorem dX10_folds_217 : decode cX10_folds 217 = .ok (.getfield 430, 3) := by decide +kernel
theorem dX10_folds_220 : decode cX10_folds 220 = .ok (.imul, 1) := by decide +kernel
theorem dX10_folds_221 : decode cX10_folds 221 = .ok (.aload_n 0, 1) := by decide +kernel
theorem dX10_folds_222 : decode cX10_folds 222 = .ok (.getfield 433, 3) := by decide +kernel
theorem dX10_folds_225 : decode cX10_folds 225 = .ok (.iadd, 1) := by decide +kernel
theorem dX10_folds_226 : decode cX10_folds 226 = .ok (.iaload, 1) := by decide +kernel
theorem dX10_folds_227 : decode cX10_folds 227 = .ok (.ireturn, 1) := by decide +kernel
theorem dX10_folds_10 : decode cX10_folds 10 = .ok (.iconst 0, 1) := by decide +kernel
theorem dX10_folds_11 : decode cX10_folds 11 = .ok (.istore_n 3, 1) := by decide +kernel
theorem dX10_folds_12 : decode cX10_folds 12 = .ok (.iload_n 3, 1) := by decide +kernel
theorem dX10_folds_13 : decode cX10_folds 13 = .ok (.aload_n 0, 1) := by decide +kernel
theorem dX10_folds_14 : decode cX10_folds 14 = .ok (.getfield 433, 3) := by decide +kernel
theorem dX10_folds_17 : decode cX10_folds 17 = .ok (.if_icmp .gt 187, 3) := by decide +kernel
theorem dX10_folds_204 : decode cX10_folds 204 = .ok (.iinc 2 1, 3) := by decide +kernel
theorem dX10_folds_207 : decode cX10_folds 207 = .ok (.goto (-205), 3) := by decide +kernel
theorem dX10_folds_20 : decode cX10_folds 20 = .ok (.bipush 13, 2) := by decide +kernel
theorem dX10_folds_22 : decode cX10_folds 22 = .ok (.iload_n 2, 1) := by decide +kernel
theorem dX10_folds_23 : decode cX10_folds 23 = .ok (.imul, 1) := by decide +kernel
theorem dX10_folds_24 : decode cX10_folds 24 = .ok (.iload_n 3, 1) := by decide +kernel
theorem dX10_folds_25 : decode cX10_folds 25 = .ok (.iadd, 1) := by decide +kernel
theorem dX10_folds_26 : decode cX10_folds 26 = .ok (.istore 4, 2) := by decide +kernel
theorem dX10_folds_28 : decode cX10_folds 28 = .ok (.iload_n 2, 1) := by decide +kernel
theorem dX10_folds_29 : decode cX10_folds 29 = .ok (.ifCond .eq 7, 3) := by decide +kernel
theorem dX10_folds_36 : decode cX10_folds 36 = .ok (.aload_n 0, 1) := by decide +kernel
theorem dX10_folds_37 : decode cX10_folds 37 = .ok (.getfield 98, 3) := by decide +kernel
theorem dX10_folds_40 : decode cX10_folds 40 = .ok (.iload 4, 2) := by decide +kernel
theorem dX10_folds_42 : decode cX10_folds 42 = .ok (.iload_n 1, 1) := by decide +kernel
theorem dX10_folds_43 : decode cX10_folds 43 = .ok (.ifCond .eq 7, 3) := by decide +kernel
theorem dX10_folds_50 : decode cX10_folds 50 = .ok (.iload_n 2, 1) := by decide +kernel
theorem dX10_folds_51 : decode cX10_folds 51 = .ok (.iload_n 3, 1) := by decide +kernel
theorem dX10_folds_52 : decode cX10_folds 52 = .ok (.iadd, 1) := by decide +kernel
theorem dX10_folds_53 : decode cX10_folds 53 = .ok (.iastore, 1) := by decide +kernel
theorem dX10_folds_54 : decode cX10_folds 54 = .ok (.goto 144, 3) := by decide +kernel
theorem dX10_folds_198 : decode cX10_folds 198 = .ok (.iinc 3 1, 3) := by decide +kernel
theorem dX10_folds_201 : decode cX10_folds 201 = .ok (.goto (-189), 3) := by decide +kernel
theorem dX10_folds_46 : decode cX10_folds 46 = .ok (.iconst 0, 1) := by decide +kernel
theorem dX10_folds_47 : decode cX10_folds 47 = .ok (.goto 6, 3) := by decide +kernel
theorem dX10_folds_32 : decode cX10_folds 32 = .ok (.iload_n 3, 1) := by decide +kernel
theorem dX10_folds_33 : decode cX10_folds 33 = .ok (.ifCond .ne 24, 3) := by decide +kernel
theorem dX10_folds_57 : decode cX10_folds 57 = .ok (.aload_n 0, 1) := by decide +kernel
theorem dX10_folds_58 : decode cX10_folds 58 = .ok (.getfield 92, 3) := by decide +kernel
theorem dX10_folds_61 : decode cX10_folds 61 = .ok (.iload_n 2, 1) := by decide +kernel
theorem dX10_folds_62 : decode cX10_folds 62 = .ok (.iconst 1, 1) := by decide +kernel
theorem dX10_folds_63 : decode cX10_folds 63 = .ok (.isub, 1) := by decide +kernel
theorem dX10_folds_64 : decode cX10_folds 64 = .ok (.iaload, 1) := by decide +kernel
theorem dX10_folds_65 : decode cX10_folds 65 = .ok (.aload_n 0, 1) := by decide +kernel
theorem dX10_folds_66 : decode cX10_folds 66 = .ok (.getfield 95, 3) := by decide +kernel
theorem dX10_folds_69 : decode cX10_folds 69 = .ok (.iload_n 3, 1) := by decide +kernel
theorem dX10_folds_70 : decode cX10_folds 70 = .ok (.iconst 1, 1) := by decide +kernel
theorem dX10_folds_71 : decode cX10_folds 71 = .ok (.isub, 1) := by decide +kernel
theorem dX10_folds_72 : decode cX10_folds 72 = .ok (.iaload, 1) := by decide +kernel
theorem dX10_folds_73 : decode cX10_folds 73 = .ok (.if_icmp .ne 7, 3) := by decide +kernel
theorem dX10_folds_80 : decode cX10_folds 80 = .ok (.iconst 0, 1) := by decide +kernel
theorem dX10_folds_81 : decode cX10_folds 81 = .ok (.istore 5, 2) := by decide +kernel
theorem dX10_folds_83 : decode cX10_folds 83 = .ok (.iload_n 1, 1) := by decide +kernel
theorem dX10_folds_84 : decode cX10_folds 84 = .ok (.ifCond .eq 59, 3) := by decide +kernel
theorem dX10_folds_143 : decode cX10_folds 143 = .ok (.aload_n 0, 1) := by decide +kernel
theorem dX10_folds_144 : decode cX10_folds 144 = .ok (.getfield 98, 3) := by decide +kernel
theorem dX10_folds_147 : decode cX10_folds 147 = .ok (.iload 4, 2) := by decide +kernel
theorem dX10_folds_149 : decode cX10_folds 149 = .ok (.aload_n 0, 1) := by decide +kernel
theorem dX10_folds_150 : decode cX10_folds 150 = .ok (.getfield 98, 3) := by decide +kernel
theorem dX10_folds_153 : decode cX10_folds 153 = .ok (.iload 4, 2) := by decide +kernel
theorem dX10_folds_155 : decode cX10_folds 155 = .ok (.bipush 13, 2) := by decide +kernel
theorem dX10_folds_157 : decode cX10_folds 157 = .ok (.isub, 1) := by decide +kernel
theorem dX10_folds_158 : decode cX10_folds 158 = .ok (.iaload, 1) := by decide +kernel
theorem dX10_folds_159 : decode cX10_folds 159 = .ok (.aload_n 0, 1) := by decide +kernel
theorem dX10_folds_160 : decode cX10_folds 160 = .ok (.getfield 98, 3) := by decide +kernel
theorem dX10_folds_163 : decode cX10_folds 163 = .ok (.iload 4, 2) := by decide +kernel
theorem dX10_folds_165 : decode cX10_folds 165 = .ok (.iconst 1, 1) := by decide +kernel
theorem dX10_folds_166 : decode cX10_folds 166 = .ok (.isub, 1) := by decide +kernel
theorem dX10_folds_167 : decode cX10_folds 167 = .ok (.iaload, 1) := by decide +kernel
theorem dX10_folds_168 : decode cX10_folds 168 = .ok (.invokestatic 143, 3) := by decide +kernel
theorem dX10_folds_171 : decode cX10_folds 171 = .ok (.iconst 1, 1) := by decide +kernel
theorem dX10_folds_172 : decode cX10_folds 172 = .ok (.iadd, 1) := by decide +kernel
theorem dX10_folds_173 : decode cX10_folds 173 = .ok (.aload_n 0, 1) := by decide +kernel
theorem dX10_folds_174 : decode cX10_folds 174 = .ok (.getfield 98, 3) := by decide +kernel
theorem dX10_folds_177 : decode cX10_folds 177 = .ok (.iload 4, 2) := by decide +kernel
theorem dX10_folds_179 : decode cX10_folds 179 = .ok (.bipush 14, 2) := by decide +kernel
theorem dX10_folds_181 : decode cX10_folds 181 = .ok (.isub, 1) := by decide +kernel
theorem dX10_folds_182 : decode cX10_folds 182 = .ok (.iaload, 1) := by decide +kernel
theorem dX10_folds_183 : decode cX10_folds 183 = .ok (.iload 5, 2) := by decide +kernel
theorem dX10_folds_185 : decode cX10_folds 185 = .ok (.ifCond .eq 7, 3) := by decide +kernel
theorem dX10_folds_192 : decode cX10_folds 192 = .ok (.iconst 1, 1) := by decide +kernel
theorem dX10_folds_193 : decode cX10_folds 193 = .ok (.iadd, 1) := by decide +kernel
theorem dX10_folds_194 : decode cX10_folds 194 = .ok (.invokestatic 143, 3) := by decide +kernel
theorem dX10_folds_197 : decode cX10_folds 197 = .ok (.iastore, 1) := by decide +kernel
theorem dX10_folds_87 : decode cX10_folds 87 = .ok (.aload_n 0, 1) := by decide +kernel
theorem dX10_folds_88 : decode cX10_folds 88 = .ok (.getfield 98, 3) := by decide +kernel
theorem dX10_folds_91 : decode cX10_folds 91 = .ok (.iload 4, 2) := by decide +kernel
theorem dX10_folds_93 : decode cX10_folds 93 = .ok (.aload_n 0, 1) := by decide +kernel
theorem dX10_folds_94 : decode cX10_folds 94 = .ok (.getfield 98, 3) := by decide +kernel
theorem dX10_folds_97 : decode cX10_folds 97 = .ok (.iload 4, 2) := by decide +kernel
theorem dX10_folds_99 : decode cX10_folds 99 = .ok (.bipush 13, 2) := by decide +kernel
theorem dX10_folds_101 : decode cX10_folds 101 = .ok (.isub, 1) := by decide +kernel
theorem dX10_folds_102 : decode cX10_folds 102 = .ok (.iaload, 1) := by decide +kernel
theorem dX10_folds_103 : decode cX10_folds 103 = .ok (.aload_n 0, 1) := by decide +kernel
theorem dX10_folds_104 : decode cX10_folds 104 = .ok (.getfield 98, 3) := by decide +kernel
theorem dX10_folds_107 : decode cX10_folds 107 = .ok (.iload 4, 2) := by decide +kernel
theorem dX10_folds_109 : decode cX10_folds 109 = .ok (.iconst 1, 1) := by decide +kernel
theorem dX10_folds_110 : decode cX10_folds 110 = .ok (.isub, 1) := by decide +kernel
theorem dX10_folds_111 : decode cX10_folds 111 = .ok (.iaload, 1) := by decide +kernel
theorem dX10_folds_112 : decode cX10_folds 112 = .ok (.invokestatic 128, 3) := by decide +kernel
theorem dX10_folds_115 : decode cX10_folds 115 = .ok (.aload_n 0, 1) := by decide +kernel
theorem dX10_folds_116 : decode cX10_folds 116 = .ok (.getfield 98, 3) := by decide +kernel
theorem dX10_folds_119 : decode cX10_folds 119 = .ok (.iload 4, 2) := by decide +kernel
theorem dX10_folds_121 : decode cX10_folds 121 = .ok (.bipush 14, 2) := by decide +kernel
theorem dX10_folds_123 : decode cX10_folds 123 = .ok (.isub, 1) := by decide +kernel
theorem dX10_folds_124 : decode cX10_folds 124 = .ok (.iaload, 1) := by decide +kernel
theorem dX10_folds_125 : decode cX10_folds 125 = .ok (.iload 5, 2) := by decide +kernel
theorem dX10_folds_127 : decode cX10_folds 127 = .ok (.ifCond .eq 7, 3) := by decide +kernel
theorem dX10_folds_134 : decode cX10_folds 134 = .ok (.iconst 0, 1) := by decide +kernel
theorem dX10_folds_135 : decode cX10_folds 135 = .ok (.iadd, 1) := by decide +kernel
theorem dX10_folds_136 : decode cX10_folds 136 = .ok (.invokestatic 128, 3) := by decide +kernel
theorem dX10_folds_139 : decode cX10_folds 139 = .ok (.iastore, 1) := by decide +kernel
theorem dX10_folds_140 : decode cX10_folds 140 = .ok (.goto 58, 3) := by decide +kernel
theorem dX10_folds_76 : decode cX10_folds 76 = .ok (.iconst 1, 1) := by decide +kernel
theorem dX10_folds_77 : decode cX10_folds 77 = .ok (.goto 4, 3) := by decide +kernel
theorem dX10_folds_188 : decode cX10_folds 188 = .ok (.iconst 0, 1) := by decide +kernel
theorem dX10_folds_189 : decode cX10_folds 189 = .ok (.goto 4, 3) := by decide +kernel
theorem dX10_folds_130 : decode cX10_folds 130 = .ok (.iconst 1, 1) := by decide +kernel
theorem dX10_folds_131 : decode cX10_folds 131 = .ok (.goto 4, 3) := by decide +kernel
theorem dX10_folds_0 : decode cX10_folds 0 = .ok (.iconst 0, 1) := by decide +kernel
theorem dX10_folds_1 : decode cX10_folds 1 = .ok (.istore_n 2, 1) := by decide +kernel
theorem dX10_feed_23 : decode cX10_feed 23 = .ok (.iload 6, 2) := by decide +kernel
theorem dX10_feed_25 : decode cX10_feed 25 = .ok (.bipush 20, 2) := by decide +kernel
theorem dX10_feed_27 : decode cX10_feed 27 = .ok (.if_icmp .ge 86, 3) := by decide +kernel
theorem dX10_feed_113 : decode cX10_feed 113 = .ok (.aload_n 0, 1) := by decide +kernel
theorem dX10_feed_114 : decode cX10_feed 114 = .ok (.dup, 1) := by decide +kernel
theorem dX10_feed_115 : decode cX10_feed 115 = .ok (.getfield 321, 3) := by decide +kernel
theorem dX10_feed_118 : decode cX10_feed 118 = .ok (.bipush 20, 2) := by decide +kernel
theorem dX10_feed_120 : decode cX10_feed 120 = .ok (.iadd, 1) := by decide +kernel
theorem dX10_feed_121 : decode cX10_feed 121 = .ok (.putfield 321, 3) := by decide +kernel
theorem dX10_feed_124 : decode cX10_feed 124 = .ok (.aload_n 0, 1) := by decide +kernel
theorem dX10_feed_125 : decode cX10_feed 125 = .ok (.getfield 321, 3) := by decide +kernel
theorem dX10_feed_128 : decode cX10_feed 128 = .ok (.ireturn, 1) := by decide +kernel
theorem dX10_feed_30 : decode cX10_feed 30 = .ok (.iload 6, 2) := by decide +kernel
theorem dX10_feed_32 : decode cX10_feed 32 = .ok (.iconst 4, 1) := by decide +kernel
theorem dX10_feed_33 : decode cX10_feed 33 = .ok (.if_icmp .ge 7, 3) := by decide +kernel
theorem dX10_feed_40 : decode cX10_feed 40 = .ok (.iload 6, 2) := by decide +kernel
theorem dX10_feed_42 : decode cX10_feed 42 = .ok (.bipush 8, 2) := by decide +kernel
theorem dX10_feed_44 : decode cX10_feed 44 = .ok (.if_icmp .ge 7, 3) := by decide +kernel
theorem dX10_feed_51 : decode cX10_feed 51 = .ok (.iload 6, 2) := by decide +kernel
theorem dX10_feed_53 : decode cX10_feed 53 = .ok (.bipush 12, 2) := by decide +kernel
theorem dX10_feed_55 : decode cX10_feed 55 = .ok (.if_icmp .ge 7, 3) := by decide +kernel
theorem dX10_feed_62 : decode cX10_feed 62 = .ok (.iload 6, 2) := by decide +kernel
theorem dX10_feed_64 : decode cX10_feed 64 = .ok (.bipush 16, 2) := by decide +kernel
theorem dX10_feed_66 : decode cX10_feed 66 = .ok (.if_icmp .ge 8, 3) := by decide +kernel
theorem dX10_feed_74 : decode cX10_feed 74 = .ok (.iload 5, 2) := by decide +kernel
theorem dX10_feed_76 : decode cX10_feed 76 = .ok (.istore 7, 2) := by decide +kernel
theorem dX10_feed_78 : decode cX10_feed 78 = .ok (.aload_n 0, 1) := by decide +kernel
theorem dX10_feed_79 : decode cX10_feed 79 = .ok (.getfield 46, 3) := by decide +kernel
theorem dX10_feed_82 : decode cX10_feed 82 = .ok (.aload_n 0, 1) := by decide +kernel
theorem dX10_feed_83 : decode cX10_feed 83 = .ok (.getfield 321, 3) := by decide +kernel
theorem dX10_feed_86 : decode cX10_feed 86 = .ok (.iload 6, 2) := by decide +kernel
theorem dX10_feed_88 : decode cX10_feed 88 = .ok (.iadd, 1) := by decide +kernel
theorem dX10_feed_89 : decode cX10_feed 89 = .ok (.iload 7, 2) := by decide +kernel
theorem dX10_feed_91 : decode cX10_feed 91 = .ok (.bipush 24, 2) := by decide +kernel
theorem dX10_feed_93 : decode cX10_feed 93 = .ok (.bipush 8, 2) := by decide +kernel
theorem dX10_feed_95 : decode cX10_feed 95 = .ok (.iload 6, 2) := by decide +kernel
theorem dX10_feed_97 : decode cX10_feed 97 = .ok (.iconst 4, 1) := by decide +kernel
theorem dX10_feed_98 : decode cX10_feed 98 = .ok (.irem, 1) := by decide +kernel
theorem dX10_feed_99 : decode cX10_feed 99 = .ok (.imul, 1) := by decide +kernel
theorem dX10_feed_100 : decode cX10_feed 100 = .ok (.isub, 1) := by decide +kernel
theorem dX10_feed_101 : decode cX10_feed 101 = .ok (.ishr, 1) := by decide +kernel
theorem dX10_feed_102 : decode cX10_feed 102 = .ok (.sipush 255, 3) := by decide +kernel
theorem dX10_feed_105 : decode cX10_feed 105 = .ok (.iand, 1) := by decide +kernel
theorem dX10_feed_106 : decode cX10_feed 106 = .ok (.iastore, 1) := by decide +kernel
theorem dX10_feed_107 : decode cX10_feed 107 = .ok (.iinc 6 1, 3) := by decide +kernel
theorem dX10_feed_110 : decode cX10_feed 110 = .ok (.goto (-87), 3) := by decide +kernel
theorem dX10_feed_69 : decode cX10_feed 69 = .ok (.iload 4, 2) := by decide +kernel
theorem dX10_feed_71 : decode cX10_feed 71 = .ok (.goto 5, 3) := by decide +kernel
theorem dX10_feed_58 : decode cX10_feed 58 = .ok (.iload_n 3, 1) := by decide +kernel
theorem dX10_feed_59 : decode cX10_feed 59 = .ok (.goto 17, 3) := by decide +kernel
theorem dX10_feed_47 : decode cX10_feed 47 = .ok (.iload_n 2, 1) := by decide +kernel
theorem dX10_feed_48 : decode cX10_feed 48 = .ok (.goto 28, 3) := by decide +kernel
theorem dX10_feed_36 : decode cX10_feed 36 = .ok (.iload_n 1, 1) := by decide +kernel
theorem dX10_feed_37 : decode cX10_feed 37 = .ok (.goto 39, 3) := by decide +kernel
theorem dX10_feed_0 : decode cX10_feed 0 = .ok (.aload_n 0, 1) := by decide +kernel
theorem dX10_feed_1 : decode cX10_feed 1 = .ok (.iconst 0, 1) := by decide +kernel
theorem dX10_feed_2 : decode cX10_feed 2 = .ok (.putfield 110, 3) := by decide +kernel
theorem dX10_feed_5 : decode cX10_feed 5 = .ok (.aload_n 0, 1) := by decide +kernel
theorem dX10_feed_6 : decode cX10_feed 6 = .ok (.getfield 321, 3) := by decide +kernel
theorem dX10_feed_9 : decode cX10_feed 9 = .ok (.bipush 20, 2) := by decide +kernel
theorem dX10_feed_11 : decode cX10_feed 11 = .ok (.iadd, 1) := by decide +kernel
theorem dX10_feed_12 : decode cX10_feed 12 = .ok (.sipush 900, 3) := by decide +kernel
theorem dX10_feed_15 : decode cX10_feed 15 = .ok (.if_icmp .le 5, 3) := by decide +kernel
theorem dX10_feed_20 : decode cX10_feed 20 = .ok (.iconst 0, 1) := by decide +kernel
theorem dX10_feed_21 : decode cX10_feed 21 = .ok (.istore 6, 2) := by decide +kernel
theorem dX10_feed_18 : decode cX10_feed 18 = .ok (.iconst (-1), 1) := by decide +kernel
theorem dX10_feed_19 : decode cX10_feed 19 = .ok (.ireturn, 1) := by decide +kernel
