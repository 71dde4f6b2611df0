-- decode rows of ytable
theorem dX10_table1_0 : decode cX10_table1 0 = .ok (.aload_n 0, 1) := by decide +kernel
theorem dX10_table1_1 : decode cX10_table1 1 = .ok (.getfield 257, 3) := by decide +kernel
theorem dX10_table1_4 : decode cX10_table1 4 = .ok (.bipush 6, 2) := by decide +kernel
theorem dX10_table1_6 : decode cX10_table1 6 = .ok (.isub, 1) := by decide +kernel
theorem dX10_table1_7 : decode cX10_table1 7 = .ok (.istore_n 1, 1) := by decide +kernel
theorem dX10_table1_8 : decode cX10_table1 8 = .ok (.aload_n 0, 1) := by decide +kernel
theorem dX10_table1_9 : decode cX10_table1 9 = .ok (.invokevirtual 285, 3) := by decide +kernel
theorem dX10_table1_12 : decode cX10_table1 12 = .ok (.aload_n 0, 1) := by decide +kernel
theorem dX10_table1_13 : decode cX10_table1 13 = .ok (.aload_n 0, 1) := by decide +kernel
theorem dX10_table1_14 : decode cX10_table1 14 = .ok (.invokevirtual 294, 3) := by decide +kernel
theorem dX10_table1_17 : decode cX10_table1 17 = .ok (.iconst 1, 1) := by decide +kernel
theorem dX10_table1_18 : decode cX10_table1 18 = .ok (.invokevirtual 277, 3) := by decide +kernel
theorem dX10_table1_21 : decode cX10_table1 21 = .ok (.ifCond .ne 4, 3) := by decide +kernel
theorem dX10_table1_25 : decode cX10_table1 25 = .ok (.iconst 5, 1) := by decide +kernel
theorem dX10_table1_26 : decode cX10_table1 26 = .ok (.iload_n 1, 1) := by decide +kernel
theorem dX10_table1_27 : decode cX10_table1 27 = .ok (.imul, 1) := by decide +kernel
theorem dX10_table1_28 : decode cX10_table1 28 = .ok (.aload_n 0, 1) := by decide +kernel
theorem dX10_table1_29 : decode cX10_table1 29 = .ok (.invokevirtual 298, 3) := by decide +kernel
theorem dX10_table1_32 : decode cX10_table1 32 = .ok (.iadd, 1) := by decide +kernel
theorem dX10_table1_33 : decode cX10_table1 33 = .ok (.istore_n 2, 1) := by decide +kernel
theorem dX10_table1_34 : decode cX10_table1 34 = .ok (.aload_n 0, 1) := by decide +kernel
theorem dX10_table1_35 : decode cX10_table1 35 = .ok (.aload_n 0, 1) := by decide +kernel
theorem dX10_table1_36 : decode cX10_table1 36 = .ok (.getfield 83, 3) := by decide +kernel
theorem dX10_table1_39 : decode cX10_table1 39 = .ok (.iload_n 2, 1) := by decide +kernel
theorem dX10_table1_40 : decode cX10_table1 40 = .ok (.iaload, 1) := by decide +kernel
theorem dX10_table1_41 : decode cX10_table1 41 = .ok (.iconst (-1), 1) := by decide +kernel
theorem dX10_table1_42 : decode cX10_table1 42 = .ok (.if_icmp .ne 7, 3) := by decide +kernel
theorem dX10_table1_49 : decode cX10_table1 49 = .ok (.iconst 0, 1) := by decide +kernel
theorem dX10_table1_50 : decode cX10_table1 50 = .ok (.iconst 4, 1) := by decide +kernel
theorem dX10_table1_51 : decode cX10_table1 51 = .ok (.invokevirtual 277, 3) := by decide +kernel
theorem dX10_table1_54 : decode cX10_table1 54 = .ok (.ifCond .ne 4, 3) := by decide +kernel
theorem dX10_table1_57 : decode cX10_table1 57 = .ok (.return_, 1) := by decide +kernel
theorem dX10_table1_45 : decode cX10_table1 45 = .ok (.iconst 1, 1) := by decide +kernel
theorem dX10_table1_46 : decode cX10_table1 46 = .ok (.goto 4, 3) := by decide +kernel
theorem dX10_table1_58 : decode cX10_table1 58 = .ok (.aload_n 0, 1) := by decide +kernel
theorem dX10_table1_59 : decode cX10_table1 59 = .ok (.invokevirtual 285, 3) := by decide +kernel
theorem dX10_table1_62 : decode cX10_table1 62 = .ok (.aload_n 0, 1) := by decide +kernel
theorem dX10_table1_63 : decode cX10_table1 63 = .ok (.getfield 83, 3) := by decide +kernel
theorem dX10_table1_66 : decode cX10_table1 66 = .ok (.iload_n 2, 1) := by decide +kernel
theorem dX10_table1_67 : decode cX10_table1 67 = .ok (.aload_n 0, 1) := by decide +kernel
theorem dX10_table1_68 : decode cX10_table1 68 = .ok (.iload_n 1, 1) := by decide +kernel
theorem dX10_table1_69 : decode cX10_table1 69 = .ok (.iconst 2, 1) := by decide +kernel
theorem dX10_table1_70 : decode cX10_table1 70 = .ok (.if_icmp .ne 7, 3) := by decide +kernel
theorem dX10_table1_77 : decode cX10_table1 77 = .ok (.iconst 0, 1) := by decide +kernel
theorem dX10_table1_78 : decode cX10_table1 78 = .ok (.iload_n 1, 1) := by decide +kernel
theorem dX10_table1_79 : decode cX10_table1 79 = .ok (.iconst 2, 1) := by decide +kernel
theorem dX10_table1_80 : decode cX10_table1 80 = .ok (.if_icmp .ne 9, 3) := by decide +kernel
theorem dX10_table1_89 : decode cX10_table1 89 = .ok (.bipush 99, 2) := by decide +kernel
theorem dX10_table1_91 : decode cX10_table1 91 = .ok (.invokevirtual 291, 3) := by decide +kernel
theorem dX10_table1_94 : decode cX10_table1 94 = .ok (.iastore, 1) := by decide +kernel
theorem dX10_table1_95 : decode cX10_table1 95 = .ok (.return_, 1) := by decide +kernel
theorem dX10_table1_24 : decode cX10_table1 24 = .ok (.return_, 1) := by decide +kernel
theorem dX10_table1_73 : decode cX10_table1 73 = .ok (.iconst 1, 1) := by decide +kernel
theorem dX10_table1_74 : decode cX10_table1 74 = .ok (.goto 4, 3) := by decide +kernel
theorem dX10_table1_83 : decode cX10_table1 83 = .ok (.sipush 9999, 3) := by decide +kernel
theorem dX10_table1_86 : decode cX10_table1 86 = .ok (.goto 5, 3) := by decide +kernel
