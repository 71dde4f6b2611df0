-- decode rows of toldc
theorem dX9_told_0 : decode cX9_told 0 = .ok (.aload_n 0, 1) := by decide +kernel
theorem dX9_told_1 : decode cX9_told 1 = .ok (.iload_n 1, 1) := by decide +kernel
theorem dX9_told_2 : decode cX9_told 2 = .ok (.invokevirtual 183, 3) := by decide +kernel
theorem dX9_told_5 : decode cX9_told 5 = .ok (.astore 4, 2) := by decide +kernel
theorem dX9_told_7 : decode cX9_told 7 = .ok (.aload_n 0, 1) := by decide +kernel
theorem dX9_told_8 : decode cX9_told 8 = .ok (.aload 4, 2) := by decide +kernel
theorem dX9_told_10 : decode cX9_told 10 = .ok (.iload_n 2, 1) := by decide +kernel
theorem dX9_told_11 : decode cX9_told 11 = .ok (.invokevirtual 212, 3) := by decide +kernel
theorem dX9_told_14 : decode cX9_told 14 = .ok (.aload_n 0, 1) := by decide +kernel
theorem dX9_told_15 : decode cX9_told 15 = .ok (.aload 4, 2) := by decide +kernel
theorem dX9_told_17 : decode cX9_told 17 = .ok (.iload_n 2, 1) := by decide +kernel
theorem dX9_told_18 : decode cX9_told 18 = .ok (.invokevirtual 243, 3) := by decide +kernel
theorem dX9_told_21 : decode cX9_told 21 = .ok (.iload_n 3, 1) := by decide +kernel
theorem dX9_told_22 : decode cX9_told 22 = .ok (.iconst (-1), 1) := by decide +kernel
theorem dX9_told_23 : decode cX9_told 23 = .ok (.if_icmp .ne 11, 3) := by decide +kernel
theorem dX9_told_34 : decode cX9_told 34 = .ok (.iload_n 3, 1) := by decide +kernel
theorem dX9_told_35 : decode cX9_told 35 = .ok (.ifCond .lt 14, 3) := by decide +kernel
theorem dX9_told_49 : decode cX9_told 49 = .ok (.new 165, 3) := by decide +kernel
theorem dX9_told_52 : decode cX9_told 52 = .ok (.dup, 1) := by decide +kernel
theorem dX9_told_53 : decode cX9_told 53 = .ok (.ldc 249, 2) := by decide +kernel
theorem dX9_told_55 : decode cX9_told 55 = .ok (.invokespecial 169, 3) := by decide +kernel
theorem dX9_told_58 : decode cX9_told 58 = .ok (.athrow, 1) := by decide +kernel
theorem dX9_told_38 : decode cX9_told 38 = .ok (.iload_n 3, 1) := by decide +kernel
theorem dX9_told_39 : decode cX9_told 39 = .ok (.aload_n 0, 1) := by decide +kernel
theorem dX9_told_40 : decode cX9_told 40 = .ok (.getfield 78, 3) := by decide +kernel
theorem dX9_told_43 : decode cX9_told 43 = .ok (.invokevirtual 246, 3) := by decide +kernel
theorem dX9_told_46 : decode cX9_told 46 = .ok (.if_icmp .lt 13, 3) := by decide +kernel
theorem dX9_told_59 : decode cX9_told 59 = .ok (.aload_n 0, 1) := by decide +kernel
theorem dX9_told_60 : decode cX9_told 60 = .ok (.getfield 78, 3) := by decide +kernel
theorem dX9_told_63 : decode cX9_told 63 = .ok (.iload_n 3, 1) := by decide +kernel
theorem dX9_told_64 : decode cX9_told 64 = .ok (.invokevirtual 251, 3) := by decide +kernel
theorem dX9_told_67 : decode cX9_told 67 = .ok (.ireturn, 1) := by decide +kernel
theorem dX9_told_26 : decode cX9_told 26 = .ok (.aload_n 0, 1) := by decide +kernel
theorem dX9_told_27 : decode cX9_told 27 = .ok (.getfield 78, 3) := by decide +kernel
theorem dX9_told_30 : decode cX9_told 30 = .ok (.invokevirtual 246, 3) := by decide +kernel
theorem dX9_told_33 : decode cX9_told 33 = .ok (.ireturn, 1) := by decide +kernel
