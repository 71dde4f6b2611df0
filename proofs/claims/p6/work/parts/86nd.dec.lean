-- decode rows of yslope
theorem dX10_slope1_0 : decode cX10_slope1 0 = .ok (.aload_n 0, 1) := by decide +kernel
theorem dX10_slope1_1 : decode cX10_slope1 1 = .ok (.aload_n 0, 1) := by decide +kernel
theorem dX10_slope1_2 : decode cX10_slope1 2 = .ok (.getfield 288, 3) := by decide +kernel
theorem dX10_slope1_5 : decode cX10_slope1 5 = .ok (.iconst 4, 1) := by decide +kernel
theorem dX10_slope1_6 : decode cX10_slope1 6 = .ok (.if_icmp .ge 7, 3) := by decide +kernel
theorem dX10_slope1_13 : decode cX10_slope1 13 = .ok (.iconst 0, 1) := by decide +kernel
theorem dX10_slope1_14 : decode cX10_slope1 14 = .ok (.iconst 2, 1) := by decide +kernel
theorem dX10_slope1_15 : decode cX10_slope1 15 = .ok (.invokevirtual 277, 3) := by decide +kernel
theorem dX10_slope1_18 : decode cX10_slope1 18 = .ok (.ifCond .ne 4, 3) := by decide +kernel
theorem dX10_slope1_21 : decode cX10_slope1 21 = .ok (.return_, 1) := by decide +kernel
theorem dX10_slope1_9 : decode cX10_slope1 9 = .ok (.iconst 1, 1) := by decide +kernel
theorem dX10_slope1_10 : decode cX10_slope1 10 = .ok (.goto 4, 3) := by decide +kernel
theorem dX10_slope1_22 : decode cX10_slope1 22 = .ok (.aload_n 0, 1) := by decide +kernel
theorem dX10_slope1_23 : decode cX10_slope1 23 = .ok (.invokevirtual 285, 3) := by decide +kernel
theorem dX10_slope1_26 : decode cX10_slope1 26 = .ok (.aload_n 0, 1) := by decide +kernel
theorem dX10_slope1_27 : decode cX10_slope1 27 = .ok (.getfield 65, 3) := by decide +kernel
theorem dX10_slope1_30 : decode cX10_slope1 30 = .ok (.aload_n 0, 1) := by decide +kernel
theorem dX10_slope1_31 : decode cX10_slope1 31 = .ok (.getfield 288, 3) := by decide +kernel
theorem dX10_slope1_34 : decode cX10_slope1 34 = .ok (.aload_n 0, 1) := by decide +kernel
theorem dX10_slope1_35 : decode cX10_slope1 35 = .ok (.iconst 0, 1) := by decide +kernel
theorem dX10_slope1_36 : decode cX10_slope1 36 = .ok (.bipush 90, 2) := by decide +kernel
theorem dX10_slope1_38 : decode cX10_slope1 38 = .ok (.invokevirtual 291, 3) := by decide +kernel
theorem dX10_slope1_41 : decode cX10_slope1 41 = .ok (.iastore, 1) := by decide +kernel
theorem dX10_slope1_42 : decode cX10_slope1 42 = .ok (.aload_n 0, 1) := by decide +kernel
theorem dX10_slope1_43 : decode cX10_slope1 43 = .ok (.getfield 274, 3) := by decide +kernel
theorem dX10_slope1_46 : decode cX10_slope1 46 = .ok (.ifCond .ne 19, 3) := by decide +kernel
theorem dX10_slope1_49 : decode cX10_slope1 49 = .ok (.aload_n 0, 1) := by decide +kernel
theorem dX10_slope1_50 : decode cX10_slope1 50 = .ok (.getfield 68, 3) := by decide +kernel
theorem dX10_slope1_53 : decode cX10_slope1 53 = .ok (.aload_n 0, 1) := by decide +kernel
theorem dX10_slope1_54 : decode cX10_slope1 54 = .ok (.getfield 288, 3) := by decide +kernel
theorem dX10_slope1_57 : decode cX10_slope1 57 = .ok (.aload_n 0, 1) := by decide +kernel
theorem dX10_slope1_58 : decode cX10_slope1 58 = .ok (.iconst 0, 1) := by decide +kernel
theorem dX10_slope1_59 : decode cX10_slope1 59 = .ok (.bipush 20, 2) := by decide +kernel
theorem dX10_slope1_61 : decode cX10_slope1 61 = .ok (.invokevirtual 291, 3) := by decide +kernel
theorem dX10_slope1_64 : decode cX10_slope1 64 = .ok (.iastore, 1) := by decide +kernel
theorem dX10_slope1_65 : decode cX10_slope1 65 = .ok (.aload_n 0, 1) := by decide +kernel
theorem dX10_slope1_66 : decode cX10_slope1 66 = .ok (.getfield 71, 3) := by decide +kernel
theorem dX10_slope1_69 : decode cX10_slope1 69 = .ok (.aload_n 0, 1) := by decide +kernel
theorem dX10_slope1_70 : decode cX10_slope1 70 = .ok (.getfield 288, 3) := by decide +kernel
theorem dX10_slope1_73 : decode cX10_slope1 73 = .ok (.iconst 0, 1) := by decide +kernel
theorem dX10_slope1_74 : decode cX10_slope1 74 = .ok (.iastore, 1) := by decide +kernel
theorem dX10_slope1_75 : decode cX10_slope1 75 = .ok (.aload_n 0, 1) := by decide +kernel
theorem dX10_slope1_76 : decode cX10_slope1 76 = .ok (.dup, 1) := by decide +kernel
theorem dX10_slope1_77 : decode cX10_slope1 77 = .ok (.getfield 288, 3) := by decide +kernel
theorem dX10_slope1_80 : decode cX10_slope1 80 = .ok (.iconst 1, 1) := by decide +kernel
theorem dX10_slope1_81 : decode cX10_slope1 81 = .ok (.iadd, 1) := by decide +kernel
theorem dX10_slope1_82 : decode cX10_slope1 82 = .ok (.putfield 288, 3) := by decide +kernel
theorem dX10_slope1_85 : decode cX10_slope1 85 = .ok (.return_, 1) := by decide +kernel
