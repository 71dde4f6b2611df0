-- decode rows of refsay
theorem dX10_says_0 : decode cX10_says 0 = .ok (.aload_n 0, 1) := by decide +kernel
theorem dX10_says_1 : decode cX10_says 1 = .ok (.getfield 89, 3) := by decide +kernel
theorem dX10_says_4 : decode cX10_says 4 = .ok (.aload_n 0, 1) := by decide +kernel
theorem dX10_says_5 : decode cX10_says 5 = .ok (.getfield 373, 3) := by decide +kernel
theorem dX10_says_8 : decode cX10_says 8 = .ok (.iload_n 1, 1) := by decide +kernel
theorem dX10_says_9 : decode cX10_says 9 = .ok (.iastore, 1) := by decide +kernel
theorem dX10_says_10 : decode cX10_says 10 = .ok (.aload_n 0, 1) := by decide +kernel
theorem dX10_says_11 : decode cX10_says 11 = .ok (.dup, 1) := by decide +kernel
theorem dX10_says_12 : decode cX10_says 12 = .ok (.getfield 373, 3) := by decide +kernel
theorem dX10_says_15 : decode cX10_says 15 = .ok (.iconst 1, 1) := by decide +kernel
theorem dX10_says_16 : decode cX10_says 16 = .ok (.iadd, 1) := by decide +kernel
theorem dX10_says_17 : decode cX10_says 17 = .ok (.putfield 373, 3) := by decide +kernel
theorem dX10_says_20 : decode cX10_says 20 = .ok (.return_, 1) := by decide +kernel
theorem dX10_saysNumber_0 : decode cX10_saysNumber 0 = .ok (.iload_n 1, 1) := by decide +kernel
theorem dX10_saysNumber_1 : decode cX10_saysNumber 1 = .ok (.ifCond .ge 9, 3) := by decide +kernel
theorem dX10_saysNumber_10 : decode cX10_saysNumber 10 = .ok (.iload_n 1, 1) := by decide +kernel
theorem dX10_saysNumber_11 : decode cX10_saysNumber 11 = .ok (.invokestatic 186, 3) := by decide +kernel
theorem dX10_saysNumber_14 : decode cX10_saysNumber 14 = .ok (.istore_n 2, 1) := by decide +kernel
theorem dX10_saysNumber_15 : decode cX10_saysNumber 15 = .ok (.iconst 1, 1) := by decide +kernel
theorem dX10_saysNumber_16 : decode cX10_saysNumber 16 = .ok (.istore_n 3, 1) := by decide +kernel
theorem dX10_saysNumber_17 : decode cX10_saysNumber 17 = .ok (.iload_n 2, 1) := by decide +kernel
theorem dX10_saysNumber_18 : decode cX10_saysNumber 18 = .ok (.iload_n 3, 1) := by decide +kernel
theorem dX10_saysNumber_19 : decode cX10_saysNumber 19 = .ok (.idiv, 1) := by decide +kernel
theorem dX10_saysNumber_20 : decode cX10_saysNumber 20 = .ok (.bipush 9, 2) := by decide +kernel
theorem dX10_saysNumber_22 : decode cX10_saysNumber 22 = .ok (.if_icmp .le 11, 3) := by decide +kernel
theorem dX10_saysNumber_33 : decode cX10_saysNumber 33 = .ok (.iload_n 3, 1) := by decide +kernel
theorem dX10_saysNumber_34 : decode cX10_saysNumber 34 = .ok (.ifCond .le 24, 3) := by decide +kernel
theorem dX10_saysNumber_37 : decode cX10_saysNumber 37 = .ok (.aload_n 0, 1) := by decide +kernel
theorem dX10_saysNumber_38 : decode cX10_saysNumber 38 = .ok (.bipush 48, 2) := by decide +kernel
theorem dX10_saysNumber_40 : decode cX10_saysNumber 40 = .ok (.iload_n 2, 1) := by decide +kernel
theorem dX10_saysNumber_41 : decode cX10_saysNumber 41 = .ok (.iload_n 3, 1) := by decide +kernel
theorem dX10_saysNumber_42 : decode cX10_saysNumber 42 = .ok (.idiv, 1) := by decide +kernel
theorem dX10_saysNumber_43 : decode cX10_saysNumber 43 = .ok (.bipush 10, 2) := by decide +kernel
theorem dX10_saysNumber_45 : decode cX10_saysNumber 45 = .ok (.irem, 1) := by decide +kernel
theorem dX10_saysNumber_46 : decode cX10_saysNumber 46 = .ok (.iadd, 1) := by decide +kernel
theorem dX10_saysNumber_47 : decode cX10_saysNumber 47 = .ok (.invokevirtual 376, 3) := by decide +kernel
theorem dX10_saysNumber_50 : decode cX10_saysNumber 50 = .ok (.iload_n 3, 1) := by decide +kernel
theorem dX10_saysNumber_51 : decode cX10_saysNumber 51 = .ok (.bipush 10, 2) := by decide +kernel
theorem dX10_saysNumber_53 : decode cX10_saysNumber 53 = .ok (.idiv, 1) := by decide +kernel
theorem dX10_saysNumber_54 : decode cX10_saysNumber 54 = .ok (.istore_n 3, 1) := by decide +kernel
theorem dX10_saysNumber_55 : decode cX10_saysNumber 55 = .ok (.goto (-22), 3) := by decide +kernel
theorem dX10_saysNumber_58 : decode cX10_saysNumber 58 = .ok (.return_, 1) := by decide +kernel
theorem dX10_saysNumber_25 : decode cX10_saysNumber 25 = .ok (.iload_n 3, 1) := by decide +kernel
theorem dX10_saysNumber_26 : decode cX10_saysNumber 26 = .ok (.bipush 10, 2) := by decide +kernel
theorem dX10_saysNumber_28 : decode cX10_saysNumber 28 = .ok (.imul, 1) := by decide +kernel
theorem dX10_saysNumber_29 : decode cX10_saysNumber 29 = .ok (.istore_n 3, 1) := by decide +kernel
theorem dX10_saysNumber_30 : decode cX10_saysNumber 30 = .ok (.goto (-13), 3) := by decide +kernel
theorem dX10_saysNumber_4 : decode cX10_saysNumber 4 = .ok (.aload_n 0, 1) := by decide +kernel
theorem dX10_saysNumber_5 : decode cX10_saysNumber 5 = .ok (.bipush 45, 2) := by decide +kernel
theorem dX10_saysNumber_7 : decode cX10_saysNumber 7 = .ok (.invokevirtual 376, 3) := by decide +kernel
theorem dX10_saysWord_0 : decode cX10_saysWord 0 = .ok (.aload_n 0, 1) := by decide +kernel
theorem dX10_saysWord_1 : decode cX10_saysWord 1 = .ok (.bipush 32, 2) := by decide +kernel
theorem dX10_saysWord_3 : decode cX10_saysWord 3 = .ok (.invokevirtual 376, 3) := by decide +kernel
theorem dX10_saysWord_6 : decode cX10_saysWord 6 = .ok (.aload_n 0, 1) := by decide +kernel
theorem dX10_saysWord_7 : decode cX10_saysWord 7 = .ok (.iload_n 1, 1) := by decide +kernel
theorem dX10_saysWord_8 : decode cX10_saysWord 8 = .ok (.invokevirtual 376, 3) := by decide +kernel
theorem dX10_saysWord_11 : decode cX10_saysWord 11 = .ok (.aload_n 0, 1) := by decide +kernel
theorem dX10_saysWord_12 : decode cX10_saysWord 12 = .ok (.iload_n 2, 1) := by decide +kernel
theorem dX10_saysWord_13 : decode cX10_saysWord 13 = .ok (.invokevirtual 376, 3) := by decide +kernel
theorem dX10_saysWord_16 : decode cX10_saysWord 16 = .ok (.aload_n 0, 1) := by decide +kernel
theorem dX10_saysWord_17 : decode cX10_saysWord 17 = .ok (.bipush 32, 2) := by decide +kernel
theorem dX10_saysWord_19 : decode cX10_saysWord 19 = .ok (.invokevirtual 376, 3) := by decide +kernel
theorem dX10_saysWord_22 : decode cX10_saysWord 22 = .ok (.return_, 1) := by decide +kernel
