-- decode rows of pack
theorem dX9_part_0 : decode cX9_part 0 = .ok (.lload_n 2, 1) := by decide +kernel
theorem dX9_part_1 : decode cX9_part 1 = .ok (.lconst 0, 1) := by decide +kernel
theorem dX9_part_2 : decode cX9_part 2 = .ok (.lcmp, 1) := by decide +kernel
theorem dX9_part_3 : decode cX9_part 3 = .ok (.ifCond .ne 7, 3) := by decide +kernel
theorem dX9_part_10 : decode cX9_part 10 = .ok (.lload_n 0, 1) := by decide +kernel
theorem dX9_part_11 : decode cX9_part 11 = .ok (.lload_n 2, 1) := by decide +kernel
theorem dX9_part_12 : decode cX9_part 12 = .ok (.ldiv, 1) := by decide +kernel
theorem dX9_part_13 : decode cX9_part 13 = .ok (.l2i, 1) := by decide +kernel
theorem dX9_part_14 : decode cX9_part 14 = .ok (.ireturn, 1) := by decide +kernel
theorem dX9_part_6 : decode cX9_part 6 = .ok (.iconst 0, 1) := by decide +kernel
theorem dX9_part_7 : decode cX9_part 7 = .ok (.goto 7, 3) := by decide +kernel
theorem dX9_burden_0 : decode cX9_burden 0 = .ok (.iload_n 0, 1) := by decide +kernel
theorem dX9_burden_1 : decode cX9_burden 1 = .ok (.i2l, 1) := by decide +kernel
theorem dX9_burden_2 : decode cX9_burden 2 = .ok (.iload_n 1, 1) := by decide +kernel
theorem dX9_burden_3 : decode cX9_burden 3 = .ok (.i2l, 1) := by decide +kernel
theorem dX9_burden_4 : decode cX9_burden 4 = .ok (.lmul, 1) := by decide +kernel
theorem dX9_burden_5 : decode cX9_burden 5 = .ok (.ldc2_w 505, 3) := by decide +kernel
theorem dX9_burden_8 : decode cX9_burden 8 = .ok (.invokestatic 507, 3) := by decide +kernel
theorem dX9_burden_11 : decode cX9_burden 11 = .ok (.ireturn, 1) := by decide +kernel
theorem dX3_mass_0 : decode cX3_mass 0 = .ok (.aload_n 0, 1) := by decide +kernel
theorem dX3_mass_1 : decode cX3_mass 1 = .ok (.getfield 18, 3) := by decide +kernel
theorem dX3_mass_4 : decode cX3_mass 4 = .ok (.bipush 12, 2) := by decide +kernel
theorem dX3_mass_6 : decode cX3_mass 6 = .ok (.iload_n 1, 1) := by decide +kernel
theorem dX3_mass_7 : decode cX3_mass 7 = .ok (.iadd, 1) := by decide +kernel
theorem dX3_mass_8 : decode cX3_mass 8 = .ok (.iaload, 1) := by decide +kernel
theorem dX3_mass_9 : decode cX3_mass 9 = .ok (.aload_n 0, 1) := by decide +kernel
theorem dX3_mass_10 : decode cX3_mass 10 = .ok (.getfield 18, 3) := by decide +kernel
theorem dX3_mass_13 : decode cX3_mass 13 = .ok (.bipush 24, 2) := by decide +kernel
theorem dX3_mass_15 : decode cX3_mass 15 = .ok (.iload_n 1, 1) := by decide +kernel
theorem dX3_mass_16 : decode cX3_mass 16 = .ok (.iadd, 1) := by decide +kernel
theorem dX3_mass_17 : decode cX3_mass 17 = .ok (.iaload, 1) := by decide +kernel
theorem dX3_mass_18 : decode cX3_mass 18 = .ok (.iadd, 1) := by decide +kernel
theorem dX3_mass_19 : decode cX3_mass 19 = .ok (.ireturn, 1) := by decide +kernel
theorem dX3_sum_4 : decode cX3_sum 4 = .ok (.iload_n 3, 1) := by decide +kernel
theorem dX3_sum_5 : decode cX3_sum 5 = .ok (.aload_n 0, 1) := by decide +kernel
theorem dX3_sum_6 : decode cX3_sum 6 = .ok (.getfield 9, 3) := by decide +kernel
theorem dX3_sum_9 : decode cX3_sum 9 = .ok (.if_icmp .ge 20, 3) := by decide +kernel
theorem dX3_sum_29 : decode cX3_sum 29 = .ok (.iload_n 2, 1) := by decide +kernel
theorem dX3_sum_30 : decode cX3_sum 30 = .ok (.ireturn, 1) := by decide +kernel
theorem dX3_sum_12 : decode cX3_sum 12 = .ok (.iload_n 2, 1) := by decide +kernel
theorem dX3_sum_13 : decode cX3_sum 13 = .ok (.aload_n 0, 1) := by decide +kernel
theorem dX3_sum_14 : decode cX3_sum 14 = .ok (.getfield 18, 3) := by decide +kernel
theorem dX3_sum_17 : decode cX3_sum 17 = .ok (.iload_n 1, 1) := by decide +kernel
theorem dX3_sum_18 : decode cX3_sum 18 = .ok (.iload_n 3, 1) := by decide +kernel
theorem dX3_sum_19 : decode cX3_sum 19 = .ok (.iadd, 1) := by decide +kernel
theorem dX3_sum_20 : decode cX3_sum 20 = .ok (.iaload, 1) := by decide +kernel
theorem dX3_sum_21 : decode cX3_sum 21 = .ok (.iadd, 1) := by decide +kernel
theorem dX3_sum_22 : decode cX3_sum 22 = .ok (.istore_n 2, 1) := by decide +kernel
theorem dX3_sum_23 : decode cX3_sum 23 = .ok (.iinc 3 1, 3) := by decide +kernel
theorem dX3_sum_26 : decode cX3_sum 26 = .ok (.goto (-22), 3) := by decide +kernel
theorem dX3_sum_0 : decode cX3_sum 0 = .ok (.iconst 0, 1) := by decide +kernel
theorem dX3_sum_1 : decode cX3_sum 1 = .ok (.istore_n 2, 1) := by decide +kernel
theorem dX3_sum_2 : decode cX3_sum 2 = .ok (.iconst 0, 1) := by decide +kernel
theorem dX3_sum_3 : decode cX3_sum 3 = .ok (.istore_n 3, 1) := by decide +kernel
theorem dX3_massAbove_6 : decode cX3_massAbove 6 = .ok (.iload_n 3, 1) := by decide +kernel
theorem dX3_massAbove_7 : decode cX3_massAbove 7 = .ok (.aload_n 0, 1) := by decide +kernel
theorem dX3_massAbove_8 : decode cX3_massAbove 8 = .ok (.getfield 9, 3) := by decide +kernel
theorem dX3_massAbove_11 : decode cX3_massAbove 11 = .ok (.if_icmp .ge 17, 3) := by decide +kernel
theorem dX3_massAbove_28 : decode cX3_massAbove 28 = .ok (.iload_n 2, 1) := by decide +kernel
theorem dX3_massAbove_29 : decode cX3_massAbove 29 = .ok (.ireturn, 1) := by decide +kernel
theorem dX3_massAbove_14 : decode cX3_massAbove 14 = .ok (.iload_n 2, 1) := by decide +kernel
theorem dX3_massAbove_15 : decode cX3_massAbove 15 = .ok (.aload_n 0, 1) := by decide +kernel
theorem dX3_massAbove_16 : decode cX3_massAbove 16 = .ok (.iload_n 3, 1) := by decide +kernel
theorem dX3_massAbove_17 : decode cX3_massAbove 17 = .ok (.invokevirtual 28, 3) := by decide +kernel
theorem dX3_massAbove_20 : decode cX3_massAbove 20 = .ok (.iadd, 1) := by decide +kernel
theorem dX3_massAbove_21 : decode cX3_massAbove 21 = .ok (.istore_n 2, 1) := by decide +kernel
theorem dX3_massAbove_22 : decode cX3_massAbove 22 = .ok (.iinc 3 1, 3) := by decide +kernel
theorem dX3_massAbove_25 : decode cX3_massAbove 25 = .ok (.goto (-19), 3) := by decide +kernel
theorem dX3_massAbove_0 : decode cX3_massAbove 0 = .ok (.iconst 0, 1) := by decide +kernel
theorem dX3_massAbove_1 : decode cX3_massAbove 1 = .ok (.istore_n 2, 1) := by decide +kernel
theorem dX3_massAbove_2 : decode cX3_massAbove 2 = .ok (.iload_n 1, 1) := by decide +kernel
theorem dX3_massAbove_3 : decode cX3_massAbove 3 = .ok (.iconst 1, 1) := by decide +kernel
theorem dX3_massAbove_4 : decode cX3_massAbove 4 = .ok (.iadd, 1) := by decide +kernel
theorem dX3_massAbove_5 : decode cX3_massAbove 5 = .ok (.istore_n 3, 1) := by decide +kernel
theorem dX3_nameOf_0 : decode cX3_nameOf 0 = .ok (.iload_n 1, 1) := by decide +kernel
theorem dX3_nameOf_1 : decode cX3_nameOf 1 = .ok (.ifCond .lt 23, 3) := by decide +kernel
theorem dX3_nameOf_24 : decode cX3_nameOf 24 = .ok (.iconst (-1), 1) := by decide +kernel
theorem dX3_nameOf_25 : decode cX3_nameOf 25 = .ok (.ireturn, 1) := by decide +kernel
theorem dX3_nameOf_4 : decode cX3_nameOf 4 = .ok (.iload_n 1, 1) := by decide +kernel
theorem dX3_nameOf_5 : decode cX3_nameOf 5 = .ok (.aload_n 0, 1) := by decide +kernel
theorem dX3_nameOf_6 : decode cX3_nameOf 6 = .ok (.getfield 9, 3) := by decide +kernel
theorem dX3_nameOf_9 : decode cX3_nameOf 9 = .ok (.if_icmp .ge 15, 3) := by decide +kernel
theorem dX3_nameOf_12 : decode cX3_nameOf 12 = .ok (.aload_n 0, 1) := by decide +kernel
theorem dX3_nameOf_13 : decode cX3_nameOf 13 = .ok (.getfield 18, 3) := by decide +kernel
theorem dX3_nameOf_16 : decode cX3_nameOf 16 = .ok (.bipush 72, 2) := by decide +kernel
theorem dX3_nameOf_18 : decode cX3_nameOf 18 = .ok (.iload_n 1, 1) := by decide +kernel
theorem dX3_nameOf_19 : decode cX3_nameOf 19 = .ok (.iadd, 1) := by decide +kernel
theorem dX3_nameOf_20 : decode cX3_nameOf 20 = .ok (.iaload, 1) := by decide +kernel
theorem dX3_nameOf_21 : decode cX3_nameOf 21 = .ok (.goto 4, 3) := by decide +kernel
theorem dX3_has_2 : decode cX3_has 2 = .ok (.iload_n 2, 1) := by decide +kernel
theorem dX3_has_3 : decode cX3_has 3 = .ok (.aload_n 0, 1) := by decide +kernel
theorem dX3_has_4 : decode cX3_has 4 = .ok (.getfield 9, 3) := by decide +kernel
theorem dX3_has_7 : decode cX3_has 7 = .ok (.if_icmp .ge 24, 3) := by decide +kernel
theorem dX3_has_31 : decode cX3_has 31 = .ok (.iconst 0, 1) := by decide +kernel
theorem dX3_has_32 : decode cX3_has 32 = .ok (.ireturn, 1) := by decide +kernel
theorem dX3_has_10 : decode cX3_has 10 = .ok (.aload_n 0, 1) := by decide +kernel
theorem dX3_has_11 : decode cX3_has 11 = .ok (.getfield 18, 3) := by decide +kernel
theorem dX3_has_14 : decode cX3_has 14 = .ok (.bipush 72, 2) := by decide +kernel
theorem dX3_has_16 : decode cX3_has 16 = .ok (.iload_n 2, 1) := by decide +kernel
theorem dX3_has_17 : decode cX3_has 17 = .ok (.iadd, 1) := by decide +kernel
theorem dX3_has_18 : decode cX3_has 18 = .ok (.iaload, 1) := by decide +kernel
theorem dX3_has_19 : decode cX3_has 19 = .ok (.iload_n 1, 1) := by decide +kernel
theorem dX3_has_20 : decode cX3_has 20 = .ok (.if_icmp .ne 5, 3) := by decide +kernel
theorem dX3_has_25 : decode cX3_has 25 = .ok (.iinc 2 1, 3) := by decide +kernel
theorem dX3_has_28 : decode cX3_has 28 = .ok (.goto (-26), 3) := by decide +kernel
theorem dX3_has_23 : decode cX3_has 23 = .ok (.iconst 1, 1) := by decide +kernel
theorem dX3_has_24 : decode cX3_has 24 = .ok (.ireturn, 1) := by decide +kernel
theorem dX3_has_0 : decode cX3_has 0 = .ok (.iconst 0, 1) := by decide +kernel
theorem dX3_has_1 : decode cX3_has 1 = .ok (.istore_n 2, 1) := by decide +kernel
theorem dX3_namesIn_4 : decode cX3_namesIn 4 = .ok (.iload_n 3, 1) := by decide +kernel
theorem dX3_namesIn_5 : decode cX3_namesIn 5 = .ok (.aload_n 0, 1) := by decide +kernel
theorem dX3_namesIn_6 : decode cX3_namesIn 6 = .ok (.getfield 9, 3) := by decide +kernel
theorem dX3_namesIn_9 : decode cX3_namesIn 9 = .ok (.if_icmp .ge 28, 3) := by decide +kernel
theorem dX3_namesIn_37 : decode cX3_namesIn 37 = .ok (.iload_n 2, 1) := by decide +kernel
theorem dX3_namesIn_38 : decode cX3_namesIn 38 = .ok (.ireturn, 1) := by decide +kernel
theorem dX3_namesIn_12 : decode cX3_namesIn 12 = .ok (.aload_n 1, 1) := by decide +kernel
theorem dX3_namesIn_13 : decode cX3_namesIn 13 = .ok (.aload_n 0, 1) := by decide +kernel
theorem dX3_namesIn_14 : decode cX3_namesIn 14 = .ok (.getfield 18, 3) := by decide +kernel
theorem dX3_namesIn_17 : decode cX3_namesIn 17 = .ok (.bipush 72, 2) := by decide +kernel
theorem dX3_namesIn_19 : decode cX3_namesIn 19 = .ok (.iload_n 3, 1) := by decide +kernel
theorem dX3_namesIn_20 : decode cX3_namesIn 20 = .ok (.iadd, 1) := by decide +kernel
theorem dX3_namesIn_21 : decode cX3_namesIn 21 = .ok (.iaload, 1) := by decide +kernel
theorem dX3_namesIn_22 : decode cX3_namesIn 22 = .ok (.invokevirtual 32, 3) := by decide +kernel
theorem dX3_namesIn_25 : decode cX3_namesIn 25 = .ok (.ifCond .eq 6, 3) := by decide +kernel
theorem dX3_namesIn_31 : decode cX3_namesIn 31 = .ok (.iinc 3 1, 3) := by decide +kernel
theorem dX3_namesIn_34 : decode cX3_namesIn 34 = .ok (.goto (-30), 3) := by decide +kernel
theorem dX3_namesIn_28 : decode cX3_namesIn 28 = .ok (.iinc 2 1, 3) := by decide +kernel
theorem dX3_namesIn_0 : decode cX3_namesIn 0 = .ok (.iconst 0, 1) := by decide +kernel
theorem dX3_namesIn_1 : decode cX3_namesIn 1 = .ok (.istore_n 2, 1) := by decide +kernel
theorem dX3_namesIn_2 : decode cX3_namesIn 2 = .ok (.iconst 0, 1) := by decide +kernel
theorem dX3_namesIn_3 : decode cX3_namesIn 3 = .ok (.istore_n 3, 1) := by decide +kernel
theorem dX5_of_0 : decode cX5_of 0 = .ok (.iload_n 1, 1) := by decide +kernel
theorem dX5_of_1 : decode cX5_of 1 = .ok (.iload_n 2, 1) := by decide +kernel
theorem dX5_of_2 : decode cX5_of 2 = .ok (.iadd, 1) := by decide +kernel
theorem dX5_of_3 : decode cX5_of 3 = .ok (.istore_n 3, 1) := by decide +kernel
theorem dX5_of_4 : decode cX5_of 4 = .ok (.iload_n 3, 1) := by decide +kernel
theorem dX5_of_5 : decode cX5_of 5 = .ok (.ifCond .lt 21, 3) := by decide +kernel
theorem dX5_of_26 : decode cX5_of 26 = .ok (.iconst 0, 1) := by decide +kernel
theorem dX5_of_27 : decode cX5_of 27 = .ok (.ireturn, 1) := by decide +kernel
theorem dX5_of_8 : decode cX5_of 8 = .ok (.iload_n 3, 1) := by decide +kernel
theorem dX5_of_9 : decode cX5_of 9 = .ok (.aload_n 0, 1) := by decide +kernel
theorem dX5_of_10 : decode cX5_of 10 = .ok (.getfield 45, 3) := by decide +kernel
theorem dX5_of_13 : decode cX5_of 13 = .ok (.arraylength, 1) := by decide +kernel
theorem dX5_of_14 : decode cX5_of 14 = .ok (.if_icmp .ge 12, 3) := by decide +kernel
theorem dX5_of_17 : decode cX5_of 17 = .ok (.aload_n 0, 1) := by decide +kernel
theorem dX5_of_18 : decode cX5_of 18 = .ok (.getfield 45, 3) := by decide +kernel
theorem dX5_of_21 : decode cX5_of 21 = .ok (.iload_n 3, 1) := by decide +kernel
theorem dX5_of_22 : decode cX5_of 22 = .ok (.iaload, 1) := by decide +kernel
theorem dX5_of_23 : decode cX5_of 23 = .ok (.goto 4, 3) := by decide +kernel
theorem dX3_grade_0 : decode cX3_grade 0 = .ok (.iload_n 1, 1) := by decide +kernel
theorem dX3_grade_1 : decode cX3_grade 1 = .ok (.iconst 1, 1) := by decide +kernel
theorem dX3_grade_2 : decode cX3_grade 2 = .ok (.iadd, 1) := by decide +kernel
theorem dX3_grade_3 : decode cX3_grade 3 = .ok (.aload_n 0, 1) := by decide +kernel
theorem dX3_grade_4 : decode cX3_grade 4 = .ok (.getfield 9, 3) := by decide +kernel
theorem dX3_grade_7 : decode cX3_grade 7 = .ok (.if_icmp .ge 17, 3) := by decide +kernel
theorem dX3_grade_24 : decode cX3_grade 24 = .ok (.iload_n 2, 1) := by decide +kernel
theorem dX3_grade_25 : decode cX3_grade 25 = .ok (.iconst 0, 1) := by decide +kernel
theorem dX3_grade_26 : decode cX3_grade 26 = .ok (.invokestatic 46, 3) := by decide +kernel
theorem dX3_grade_29 : decode cX3_grade 29 = .ok (.istore_n 3, 1) := by decide +kernel
theorem dX3_grade_30 : decode cX3_grade 30 = .ok (.iload_n 1, 1) := by decide +kernel
theorem dX3_grade_31 : decode cX3_grade 31 = .ok (.ifCond .le 17, 3) := by decide +kernel
theorem dX3_grade_48 : decode cX3_grade 48 = .ok (.iconst 0, 1) := by decide +kernel
theorem dX3_grade_49 : decode cX3_grade 49 = .ok (.istore 4, 2) := by decide +kernel
theorem dX3_grade_51 : decode cX3_grade 51 = .ok (.ldc2_w 73, 3) := by decide +kernel
theorem dX3_grade_54 : decode cX3_grade 54 = .ok (.iload_n 3, 1) := by decide +kernel
theorem dX3_grade_55 : decode cX3_grade 55 = .ok (.iload 4, 2) := by decide +kernel
theorem dX3_grade_57 : decode cX3_grade 57 = .ok (.isub, 1) := by decide +kernel
theorem dX3_grade_58 : decode cX3_grade 58 = .ok (.invokestatic 75, 3) := by decide +kernel
theorem dX3_grade_61 : decode cX3_grade 61 = .ok (.i2l, 1) := by decide +kernel
theorem dX3_grade_62 : decode cX3_grade 62 = .ok (.lmul, 1) := by decide +kernel
theorem dX3_grade_63 : decode cX3_grade 63 = .ok (.aload_n 0, 1) := by decide +kernel
theorem dX3_grade_64 : decode cX3_grade 64 = .ok (.getfield 18, 3) := by decide +kernel
theorem dX3_grade_67 : decode cX3_grade 67 = .ok (.bipush 36, 2) := by decide +kernel
theorem dX3_grade_69 : decode cX3_grade 69 = .ok (.iload_n 1, 1) := by decide +kernel
theorem dX3_grade_70 : decode cX3_grade 70 = .ok (.iadd, 1) := by decide +kernel
theorem dX3_grade_71 : decode cX3_grade 71 = .ok (.iaload, 1) := by decide +kernel
theorem dX3_grade_72 : decode cX3_grade 72 = .ok (.i2l, 1) := by decide +kernel
theorem dX3_grade_73 : decode cX3_grade 73 = .ok (.invokestatic 36, 3) := by decide +kernel
theorem dX3_grade_76 : decode cX3_grade 76 = .ok (.ireturn, 1) := by decide +kernel
theorem dX3_grade_34 : decode cX3_grade 34 = .ok (.aload_n 0, 1) := by decide +kernel
theorem dX3_grade_35 : decode cX3_grade 35 = .ok (.getfield 18, 3) := by decide +kernel
theorem dX3_grade_38 : decode cX3_grade 38 = .ok (.bipush 48, 2) := by decide +kernel
theorem dX3_grade_40 : decode cX3_grade 40 = .ok (.iload_n 1, 1) := by decide +kernel
theorem dX3_grade_41 : decode cX3_grade 41 = .ok (.iadd, 1) := by decide +kernel
theorem dX3_grade_42 : decode cX3_grade 42 = .ok (.iconst 1, 1) := by decide +kernel
theorem dX3_grade_43 : decode cX3_grade 43 = .ok (.isub, 1) := by decide +kernel
theorem dX3_grade_44 : decode cX3_grade 44 = .ok (.iaload, 1) := by decide +kernel
theorem dX3_grade_45 : decode cX3_grade 45 = .ok (.goto 4, 3) := by decide +kernel
theorem dX3_grade_10 : decode cX3_grade 10 = .ok (.aload_n 0, 1) := by decide +kernel
theorem dX3_grade_11 : decode cX3_grade 11 = .ok (.getfield 18, 3) := by decide +kernel
theorem dX3_grade_14 : decode cX3_grade 14 = .ok (.bipush 48, 2) := by decide +kernel
theorem dX3_grade_16 : decode cX3_grade 16 = .ok (.iload_n 1, 1) := by decide +kernel
theorem dX3_grade_17 : decode cX3_grade 17 = .ok (.iadd, 1) := by decide +kernel
theorem dX3_grade_18 : decode cX3_grade 18 = .ok (.iconst 1, 1) := by decide +kernel
theorem dX3_grade_19 : decode cX3_grade 19 = .ok (.iadd, 1) := by decide +kernel
theorem dX3_grade_20 : decode cX3_grade 20 = .ok (.iaload, 1) := by decide +kernel
theorem dX3_grade_21 : decode cX3_grade 21 = .ok (.goto 8, 3) := by decide +kernel
theorem dX3_strength_0 : decode cX3_strength 0 = .ok (.aload_n 2, 1) := by decide +kernel
theorem dX3_strength_1 : decode cX3_strength 1 = .ok (.iconst 0, 1) := by decide +kernel
theorem dX3_strength_2 : decode cX3_strength 2 = .ok (.aload_n 0, 1) := by decide +kernel
theorem dX3_strength_3 : decode cX3_strength 3 = .ok (.getfield 18, 3) := by decide +kernel
theorem dX3_strength_6 : decode cX3_strength 6 = .ok (.iconst 0, 1) := by decide +kernel
theorem dX3_strength_7 : decode cX3_strength 7 = .ok (.iload_n 1, 1) := by decide +kernel
theorem dX3_strength_8 : decode cX3_strength 8 = .ok (.iadd, 1) := by decide +kernel
theorem dX3_strength_9 : decode cX3_strength 9 = .ok (.iaload, 1) := by decide +kernel
theorem dX3_strength_10 : decode cX3_strength 10 = .ok (.invokevirtual 57, 3) := by decide +kernel
theorem dX3_strength_13 : decode cX3_strength 13 = .ok (.istore_n 3, 1) := by decide +kernel
theorem dX3_strength_14 : decode cX3_strength 14 = .ok (.ldc2_w 73, 3) := by decide +kernel
theorem dX3_strength_17 : decode cX3_strength 17 = .ok (.iload_n 3, 1) := by decide +kernel
theorem dX3_strength_18 : decode cX3_strength 18 = .ok (.i2l, 1) := by decide +kernel
theorem dX3_strength_19 : decode cX3_strength 19 = .ok (.lmul, 1) := by decide +kernel
theorem dX3_strength_20 : decode cX3_strength 20 = .ok (.aload_n 0, 1) := by decide +kernel
theorem dX3_strength_21 : decode cX3_strength 21 = .ok (.iload_n 1, 1) := by decide +kernel
theorem dX3_strength_22 : decode cX3_strength 22 = .ok (.invokevirtual 28, 3) := by decide +kernel
theorem dX3_strength_25 : decode cX3_strength 25 = .ok (.i2l, 1) := by decide +kernel
theorem dX3_strength_26 : decode cX3_strength 26 = .ok (.lmul, 1) := by decide +kernel
theorem dX3_strength_27 : decode cX3_strength 27 = .ok (.aload_n 0, 1) := by decide +kernel
theorem dX3_strength_28 : decode cX3_strength 28 = .ok (.getfield 18, 3) := by decide +kernel
theorem dX3_strength_31 : decode cX3_strength 31 = .ok (.bipush 36, 2) := by decide +kernel
theorem dX3_strength_33 : decode cX3_strength 33 = .ok (.iload_n 1, 1) := by decide +kernel
theorem dX3_strength_34 : decode cX3_strength 34 = .ok (.iadd, 1) := by decide +kernel
theorem dX3_strength_35 : decode cX3_strength 35 = .ok (.iaload, 1) := by decide +kernel
theorem dX3_strength_36 : decode cX3_strength 36 = .ok (.i2l, 1) := by decide +kernel
theorem dX3_strength_37 : decode cX3_strength 37 = .ok (.invokestatic 36, 3) := by decide +kernel
theorem dX3_strength_40 : decode cX3_strength 40 = .ok (.istore 4, 2) := by decide +kernel
theorem dX3_strength_42 : decode cX3_strength 42 = .ok (.ldc2_w 62, 3) := by decide +kernel
theorem dX3_strength_45 : decode cX3_strength 45 = .ok (.aload_n 0, 1) := by decide +kernel
theorem dX3_strength_46 : decode cX3_strength 46 = .ok (.getfield 18, 3) := by decide +kernel
theorem dX3_strength_49 : decode cX3_strength 49 = .ok (.bipush 24, 2) := by decide +kernel
theorem dX3_strength_51 : decode cX3_strength 51 = .ok (.iload_n 1, 1) := by decide +kernel
theorem dX3_strength_52 : decode cX3_strength 52 = .ok (.iadd, 1) := by decide +kernel
theorem dX3_strength_53 : decode cX3_strength 53 = .ok (.iaload, 1) := by decide +kernel
theorem dX3_strength_54 : decode cX3_strength 54 = .ok (.i2l, 1) := by decide +kernel
theorem dX3_strength_55 : decode cX3_strength 55 = .ok (.lmul, 1) := by decide +kernel
theorem dX3_strength_56 : decode cX3_strength 56 = .ok (.ldc2_w 78, 3) := by decide +kernel
theorem dX3_strength_59 : decode cX3_strength 59 = .ok (.aload_n 0, 1) := by decide +kernel
theorem dX3_strength_60 : decode cX3_strength 60 = .ok (.getfield 18, 3) := by decide +kernel
theorem dX3_strength_63 : decode cX3_strength 63 = .ok (.bipush 12, 2) := by decide +kernel
theorem dX3_strength_65 : decode cX3_strength 65 = .ok (.iload_n 1, 1) := by decide +kernel
theorem dX3_strength_66 : decode cX3_strength 66 = .ok (.iadd, 1) := by decide +kernel
theorem dX3_strength_67 : decode cX3_strength 67 = .ok (.iaload, 1) := by decide +kernel
theorem dX3_strength_68 : decode cX3_strength 68 = .ok (.i2l, 1) := by decide +kernel
theorem dX3_strength_69 : decode cX3_strength 69 = .ok (.lmul, 1) := by decide +kernel
theorem dX3_strength_70 : decode cX3_strength 70 = .ok (.lcmp, 1) := by decide +kernel
theorem dX3_strength_71 : decode cX3_strength 71 = .ok (.ifCond .lt 7, 3) := by decide +kernel
theorem dX3_strength_78 : decode cX3_strength 78 = .ok (.iconst 0, 1) := by decide +kernel
theorem dX3_strength_79 : decode cX3_strength 79 = .ok (.istore 5, 2) := by decide +kernel
theorem dX3_strength_81 : decode cX3_strength 81 = .ok (.iload 5, 2) := by decide +kernel
theorem dX3_strength_83 : decode cX3_strength 83 = .ok (.ifCond .eq 10, 3) := by decide +kernel
theorem dX3_strength_93 : decode cX3_strength 93 = .ok (.iload 4, 2) := by decide +kernel
theorem dX3_strength_95 : decode cX3_strength 95 = .ok (.ireturn, 1) := by decide +kernel
theorem dX3_strength_74 : decode cX3_strength 74 = .ok (.iconst 1, 1) := by decide +kernel
theorem dX3_strength_75 : decode cX3_strength 75 = .ok (.goto 4, 3) := by decide +kernel
theorem dX3_strength_86 : decode cX3_strength 86 = .ok (.iload 4, 2) := by decide +kernel
theorem dX3_strength_88 : decode cX3_strength 88 = .ok (.iconst 2, 1) := by decide +kernel
theorem dX3_strength_89 : decode cX3_strength 89 = .ok (.idiv, 1) := by decide +kernel
theorem dX3_strength_90 : decode cX3_strength 90 = .ok (.goto 5, 3) := by decide +kernel
theorem dX3_ratio_0 : decode cX3_ratio 0 = .ok (.iload_n 2, 1) := by decide +kernel
theorem dX3_ratio_1 : decode cX3_ratio 1 = .ok (.ifCond .gt 7, 3) := by decide +kernel
theorem dX3_ratio_8 : decode cX3_ratio 8 = .ok (.ldc2_w 62, 3) := by decide +kernel
theorem dX3_ratio_11 : decode cX3_ratio 11 = .ok (.aload_n 0, 1) := by decide +kernel
theorem dX3_ratio_12 : decode cX3_ratio 12 = .ok (.iload_n 1, 1) := by decide +kernel
theorem dX3_ratio_13 : decode cX3_ratio 13 = .ok (.aload_n 3, 1) := by decide +kernel
theorem dX3_ratio_14 : decode cX3_ratio 14 = .ok (.invokevirtual 80, 3) := by decide +kernel
theorem dX3_ratio_17 : decode cX3_ratio 17 = .ok (.i2l, 1) := by decide +kernel
theorem dX3_ratio_18 : decode cX3_ratio 18 = .ok (.lmul, 1) := by decide +kernel
theorem dX3_ratio_19 : decode cX3_ratio 19 = .ok (.iload_n 2, 1) := by decide +kernel
theorem dX3_ratio_20 : decode cX3_ratio 20 = .ok (.i2l, 1) := by decide +kernel
theorem dX3_ratio_21 : decode cX3_ratio 21 = .ok (.ldiv, 1) := by decide +kernel
theorem dX3_ratio_22 : decode cX3_ratio 22 = .ok (.ldc2_w 84, 3) := by decide +kernel
theorem dX3_ratio_25 : decode cX3_ratio 25 = .ok (.invokestatic 86, 3) := by decide +kernel
theorem dX3_ratio_28 : decode cX3_ratio 28 = .ok (.l2i, 1) := by decide +kernel
theorem dX3_ratio_29 : decode cX3_ratio 29 = .ok (.ireturn, 1) := by decide +kernel
theorem dX3_ratio_4 : decode cX3_ratio 4 = .ok (.sipush 9999, 3) := by decide +kernel
theorem dX3_ratio_7 : decode cX3_ratio 7 = .ok (.ireturn, 1) := by decide +kernel
theorem dX3_weakest_18 : decode cX3_weakest 18 = .ok (.iload 6, 2) := by decide +kernel
theorem dX3_weakest_20 : decode cX3_weakest 20 = .ok (.ifCond .lt 49, 3) := by decide +kernel
theorem dX3_weakest_69 : decode cX3_weakest 69 = .ok (.iload_n 3, 1) := by decide +kernel
theorem dX3_weakest_70 : decode cX3_weakest 70 = .ok (.ireturn, 1) := by decide +kernel
theorem dX3_weakest_23 : decode cX3_weakest 23 = .ok (.aload_n 0, 1) := by decide +kernel
theorem dX3_weakest_24 : decode cX3_weakest 24 = .ok (.iload 6, 2) := by decide +kernel
theorem dX3_weakest_26 : decode cX3_weakest 26 = .ok (.iload 5, 2) := by decide +kernel
theorem dX3_weakest_28 : decode cX3_weakest 28 = .ok (.iload_n 1, 1) := by decide +kernel
theorem dX3_weakest_29 : decode cX3_weakest 29 = .ok (.invokestatic 88, 3) := by decide +kernel
theorem dX3_weakest_32 : decode cX3_weakest 32 = .ok (.aload_n 2, 1) := by decide +kernel
theorem dX3_weakest_33 : decode cX3_weakest 33 = .ok (.invokevirtual 91, 3) := by decide +kernel
theorem dX3_weakest_36 : decode cX3_weakest 36 = .ok (.istore 7, 2) := by decide +kernel
theorem dX3_weakest_38 : decode cX3_weakest 38 = .ok (.iload 7, 2) := by decide +kernel
theorem dX3_weakest_40 : decode cX3_weakest 40 = .ok (.iload 4, 2) := by decide +kernel
theorem dX3_weakest_42 : decode cX3_weakest 42 = .ok (.if_icmp .gt 10, 3) := by decide +kernel
theorem dX3_weakest_52 : decode cX3_weakest 52 = .ok (.iload 5, 2) := by decide +kernel
theorem dX3_weakest_54 : decode cX3_weakest 54 = .ok (.aload_n 0, 1) := by decide +kernel
theorem dX3_weakest_55 : decode cX3_weakest 55 = .ok (.iload 6, 2) := by decide +kernel
theorem dX3_weakest_57 : decode cX3_weakest 57 = .ok (.invokevirtual 28, 3) := by decide +kernel
theorem dX3_weakest_60 : decode cX3_weakest 60 = .ok (.iadd, 1) := by decide +kernel
theorem dX3_weakest_61 : decode cX3_weakest 61 = .ok (.istore 5, 2) := by decide +kernel
theorem dX3_weakest_63 : decode cX3_weakest 63 = .ok (.iinc 6 (-1), 3) := by decide +kernel
theorem dX3_weakest_66 : decode cX3_weakest 66 = .ok (.goto (-48), 3) := by decide +kernel
theorem dX3_weakest_45 : decode cX3_weakest 45 = .ok (.iload 6, 2) := by decide +kernel
theorem dX3_weakest_47 : decode cX3_weakest 47 = .ok (.istore_n 3, 1) := by decide +kernel
theorem dX3_weakest_48 : decode cX3_weakest 48 = .ok (.iload 7, 2) := by decide +kernel
theorem dX3_weakest_50 : decode cX3_weakest 50 = .ok (.istore 4, 2) := by decide +kernel
theorem dX3_weakest_0 : decode cX3_weakest 0 = .ok (.iconst (-1), 1) := by decide +kernel
theorem dX3_weakest_1 : decode cX3_weakest 1 = .ok (.istore_n 3, 1) := by decide +kernel
theorem dX3_weakest_2 : decode cX3_weakest 2 = .ok (.sipush 9999, 3) := by decide +kernel
theorem dX3_weakest_5 : decode cX3_weakest 5 = .ok (.istore 4, 2) := by decide +kernel
theorem dX3_weakest_7 : decode cX3_weakest 7 = .ok (.iconst 0, 1) := by decide +kernel
theorem dX3_weakest_8 : decode cX3_weakest 8 = .ok (.istore 5, 2) := by decide +kernel
theorem dX3_weakest_10 : decode cX3_weakest 10 = .ok (.aload_n 0, 1) := by decide +kernel
theorem dX3_weakest_11 : decode cX3_weakest 11 = .ok (.getfield 9, 3) := by decide +kernel
theorem dX3_weakest_14 : decode cX3_weakest 14 = .ok (.iconst 1, 1) := by decide +kernel
theorem dX3_weakest_15 : decode cX3_weakest 15 = .ok (.isub, 1) := by decide +kernel
theorem dX3_weakest_16 : decode cX3_weakest 16 = .ok (.istore 6, 2) := by decide +kernel
theorem dX3_leastRatio_0 : decode cX3_leastRatio 0 = .ok (.aload_n 0, 1) := by decide +kernel
theorem dX3_leastRatio_1 : decode cX3_leastRatio 1 = .ok (.iload_n 1, 1) := by decide +kernel
theorem dX3_leastRatio_2 : decode cX3_leastRatio 2 = .ok (.aload_n 2, 1) := by decide +kernel
theorem dX3_leastRatio_3 : decode cX3_leastRatio 3 = .ok (.invokevirtual 95, 3) := by decide +kernel
theorem dX3_leastRatio_6 : decode cX3_leastRatio 6 = .ok (.istore_n 3, 1) := by decide +kernel
theorem dX3_leastRatio_7 : decode cX3_leastRatio 7 = .ok (.iload_n 3, 1) := by decide +kernel
theorem dX3_leastRatio_8 : decode cX3_leastRatio 8 = .ok (.iconst (-1), 1) := by decide +kernel
theorem dX3_leastRatio_9 : decode cX3_leastRatio 9 = .ok (.if_icmp .ne 9, 3) := by decide +kernel
theorem dX3_leastRatio_18 : decode cX3_leastRatio 18 = .ok (.aload_n 0, 1) := by decide +kernel
theorem dX3_leastRatio_19 : decode cX3_leastRatio 19 = .ok (.iload_n 3, 1) := by decide +kernel
theorem dX3_leastRatio_20 : decode cX3_leastRatio 20 = .ok (.aload_n 0, 1) := by decide +kernel
theorem dX3_leastRatio_21 : decode cX3_leastRatio 21 = .ok (.iload_n 3, 1) := by decide +kernel
theorem dX3_leastRatio_22 : decode cX3_leastRatio 22 = .ok (.invokevirtual 98, 3) := by decide +kernel
theorem dX3_leastRatio_25 : decode cX3_leastRatio 25 = .ok (.iload_n 1, 1) := by decide +kernel
theorem dX3_leastRatio_26 : decode cX3_leastRatio 26 = .ok (.invokestatic 88, 3) := by decide +kernel
theorem dX3_leastRatio_29 : decode cX3_leastRatio 29 = .ok (.aload_n 2, 1) := by decide +kernel
theorem dX3_leastRatio_30 : decode cX3_leastRatio 30 = .ok (.invokevirtual 91, 3) := by decide +kernel
theorem dX3_leastRatio_33 : decode cX3_leastRatio 33 = .ok (.ireturn, 1) := by decide +kernel
theorem dX3_leastRatio_12 : decode cX3_leastRatio 12 = .ok (.sipush 9999, 3) := by decide +kernel
theorem dX3_leastRatio_15 : decode cX3_leastRatio 15 = .ok (.goto 18, 3) := by decide +kernel
theorem dX3_lowestUnstable_14 : decode cX3_lowestUnstable 14 = .ok (.iload 6, 2) := by decide +kernel
theorem dX3_lowestUnstable_16 : decode cX3_lowestUnstable 16 = .ok (.ifCond .lt 42, 3) := by decide +kernel
theorem dX3_lowestUnstable_58 : decode cX3_lowestUnstable 58 = .ok (.iload 4, 2) := by decide +kernel
theorem dX3_lowestUnstable_60 : decode cX3_lowestUnstable 60 = .ok (.ireturn, 1) := by decide +kernel
theorem dX3_lowestUnstable_19 : decode cX3_lowestUnstable 19 = .ok (.aload_n 0, 1) := by decide +kernel
theorem dX3_lowestUnstable_20 : decode cX3_lowestUnstable 20 = .ok (.iload 6, 2) := by decide +kernel
theorem dX3_lowestUnstable_22 : decode cX3_lowestUnstable 22 = .ok (.iload 5, 2) := by decide +kernel
theorem dX3_lowestUnstable_24 : decode cX3_lowestUnstable 24 = .ok (.iload_n 1, 1) := by decide +kernel
theorem dX3_lowestUnstable_25 : decode cX3_lowestUnstable 25 = .ok (.invokestatic 88, 3) := by decide +kernel
theorem dX3_lowestUnstable_28 : decode cX3_lowestUnstable 28 = .ok (.aload_n 3, 1) := by decide +kernel
theorem dX3_lowestUnstable_29 : decode cX3_lowestUnstable 29 = .ok (.invokevirtual 91, 3) := by decide +kernel
theorem dX3_lowestUnstable_32 : decode cX3_lowestUnstable 32 = .ok (.bipush 100, 2) := by decide +kernel
theorem dX3_lowestUnstable_34 : decode cX3_lowestUnstable 34 = .ok (.if_icmp .ge 7, 3) := by decide +kernel
theorem dX3_lowestUnstable_41 : decode cX3_lowestUnstable 41 = .ok (.iload 5, 2) := by decide +kernel
theorem dX3_lowestUnstable_43 : decode cX3_lowestUnstable 43 = .ok (.aload_n 0, 1) := by decide +kernel
theorem dX3_lowestUnstable_44 : decode cX3_lowestUnstable 44 = .ok (.iload 6, 2) := by decide +kernel
theorem dX3_lowestUnstable_46 : decode cX3_lowestUnstable 46 = .ok (.invokevirtual 28, 3) := by decide +kernel
theorem dX3_lowestUnstable_49 : decode cX3_lowestUnstable 49 = .ok (.iadd, 1) := by decide +kernel
theorem dX3_lowestUnstable_50 : decode cX3_lowestUnstable 50 = .ok (.istore 5, 2) := by decide +kernel
theorem dX3_lowestUnstable_52 : decode cX3_lowestUnstable 52 = .ok (.iinc 6 (-1), 3) := by decide +kernel
theorem dX3_lowestUnstable_55 : decode cX3_lowestUnstable 55 = .ok (.goto (-41), 3) := by decide +kernel
theorem dX3_lowestUnstable_37 : decode cX3_lowestUnstable 37 = .ok (.iload 6, 2) := by decide +kernel
theorem dX3_lowestUnstable_39 : decode cX3_lowestUnstable 39 = .ok (.istore 4, 2) := by decide +kernel
theorem dX3_lowestUnstable_0 : decode cX3_lowestUnstable 0 = .ok (.iconst (-1), 1) := by decide +kernel
theorem dX3_lowestUnstable_1 : decode cX3_lowestUnstable 1 = .ok (.istore 4, 2) := by decide +kernel
theorem dX3_lowestUnstable_3 : decode cX3_lowestUnstable 3 = .ok (.iload_n 2, 1) := by decide +kernel
theorem dX3_lowestUnstable_4 : decode cX3_lowestUnstable 4 = .ok (.istore 5, 2) := by decide +kernel
theorem dX3_lowestUnstable_6 : decode cX3_lowestUnstable 6 = .ok (.aload_n 0, 1) := by decide +kernel
theorem dX3_lowestUnstable_7 : decode cX3_lowestUnstable 7 = .ok (.getfield 9, 3) := by decide +kernel
theorem dX3_lowestUnstable_10 : decode cX3_lowestUnstable 10 = .ok (.iconst 1, 1) := by decide +kernel
theorem dX3_lowestUnstable_11 : decode cX3_lowestUnstable 11 = .ok (.isub, 1) := by decide +kernel
theorem dX3_lowestUnstable_12 : decode cX3_lowestUnstable 12 = .ok (.istore 6, 2) := by decide +kernel
