-- decode rows of yclause1
theorem dX10_clause1_0 : decode cX10_clause1 0 = .ok (.aload_n 0, 1) := by decide +kernel
theorem dX10_clause1_1 : decode cX10_clause1 1 = .ok (.getfield 263, 3) := by decide +kernel
theorem dX10_clause1_4 : decode cX10_clause1 4 = .ok (.iconst 1, 1) := by decide +kernel
theorem dX10_clause1_5 : decode cX10_clause1 5 = .ok (.if_icmp .ne 10, 3) := by decide +kernel
theorem dX10_clause1_15 : decode cX10_clause1 15 = .ok (.iconst (-1), 1) := by decide +kernel
theorem dX10_clause1_16 : decode cX10_clause1 16 = .ok (.istore_n 1, 1) := by decide +kernel
theorem dX10_clause1_17 : decode cX10_clause1 17 = .ok (.iload_n 1, 1) := by decide +kernel
theorem dX10_clause1_18 : decode cX10_clause1 18 = .ok (.ifCond .ne 10, 3) := by decide +kernel
theorem dX10_clause1_28 : decode cX10_clause1 28 = .ok (.iload_n 1, 1) := by decide +kernel
theorem dX10_clause1_29 : decode cX10_clause1 29 = .ok (.iconst 1, 1) := by decide +kernel
theorem dX10_clause1_30 : decode cX10_clause1 30 = .ok (.if_icmp .ne 10, 3) := by decide +kernel
theorem dX10_clause1_40 : decode cX10_clause1 40 = .ok (.iload_n 1, 1) := by decide +kernel
theorem dX10_clause1_41 : decode cX10_clause1 41 = .ok (.iconst 2, 1) := by decide +kernel
theorem dX10_clause1_42 : decode cX10_clause1 42 = .ok (.if_icmp .ne 10, 3) := by decide +kernel
theorem dX10_clause1_52 : decode cX10_clause1 52 = .ok (.iload_n 1, 1) := by decide +kernel
theorem dX10_clause1_53 : decode cX10_clause1 53 = .ok (.bipush 6, 2) := by decide +kernel
theorem dX10_clause1_55 : decode cX10_clause1 55 = .ok (.bipush 8, 2) := by decide +kernel
theorem dX10_clause1_57 : decode cX10_clause1 57 = .ok (.invokestatic 281, 3) := by decide +kernel
theorem dX10_clause1_60 : decode cX10_clause1 60 = .ok (.ifCond .eq 10, 3) := by decide +kernel
theorem dX10_clause1_70 : decode cX10_clause1 70 = .ok (.aload_n 0, 1) := by decide +kernel
theorem dX10_clause1_71 : decode cX10_clause1 71 = .ok (.iconst 0, 1) := by decide +kernel
theorem dX10_clause1_72 : decode cX10_clause1 72 = .ok (.iconst 1, 1) := by decide +kernel
theorem dX10_clause1_73 : decode cX10_clause1 73 = .ok (.invokevirtual 277, 3) := by decide +kernel
theorem dX10_clause1_76 : decode cX10_clause1 76 = .ok (.pop, 1) := by decide +kernel
theorem dX10_clause1_77 : decode cX10_clause1 77 = .ok (.return_, 1) := by decide +kernel
theorem dX10_clause1_8 : decode cX10_clause1 8 = .ok (.aload_n 0, 1) := by decide +kernel
theorem dX10_clause1_9 : decode cX10_clause1 9 = .ok (.getfield 257, 3) := by decide +kernel
theorem dX10_clause1_12 : decode cX10_clause1 12 = .ok (.goto 4, 3) := by decide +kernel
theorem dX10_clause1_63 : decode cX10_clause1 63 = .ok (.aload_n 0, 1) := by decide +kernel
theorem dX10_clause1_64 : decode cX10_clause1 64 = .ok (.invokevirtual 319, 3) := by decide +kernel
theorem dX10_clause1_67 : decode cX10_clause1 67 = .ok (.goto 10, 3) := by decide +kernel
theorem dX10_clause1_45 : decode cX10_clause1 45 = .ok (.aload_n 0, 1) := by decide +kernel
theorem dX10_clause1_46 : decode cX10_clause1 46 = .ok (.invokevirtual 316, 3) := by decide +kernel
theorem dX10_clause1_49 : decode cX10_clause1 49 = .ok (.goto 28, 3) := by decide +kernel
theorem dX10_clause1_33 : decode cX10_clause1 33 = .ok (.aload_n 0, 1) := by decide +kernel
theorem dX10_clause1_34 : decode cX10_clause1 34 = .ok (.invokevirtual 314, 3) := by decide +kernel
theorem dX10_clause1_37 : decode cX10_clause1 37 = .ok (.goto 40, 3) := by decide +kernel
theorem dX10_clause1_21 : decode cX10_clause1 21 = .ok (.aload_n 0, 1) := by decide +kernel
theorem dX10_clause1_22 : decode cX10_clause1 22 = .ok (.invokevirtual 311, 3) := by decide +kernel
theorem dX10_clause1_25 : decode cX10_clause1 25 = .ok (.goto 52, 3) := by decide +kernel
