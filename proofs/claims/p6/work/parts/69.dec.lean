-- decode rows of snow
theorem dX5_clear_0 : decode cX5_clear 0 = .ok (.aload_n 0, 1) := by decide +kernel
theorem dX5_clear_1 : decode cX5_clear 1 = .ok (.iconst 0, 1) := by decide +kernel
theorem dX5_clear_2 : decode cX5_clear 2 = .ok (.putfield 9, 3) := by decide +kernel
theorem dX5_clear_5 : decode cX5_clear 5 = .ok (.aload_n 0, 1) := by decide +kernel
theorem dX5_clear_6 : decode cX5_clear 6 = .ok (.iconst 0, 1) := by decide +kernel
theorem dX5_clear_7 : decode cX5_clear 7 = .ok (.putfield 15, 3) := by decide +kernel
theorem dX5_clear_10 : decode cX5_clear 10 = .ok (.aload_n 0, 1) := by decide +kernel
theorem dX5_clear_11 : decode cX5_clear 11 = .ok (.iconst 0, 1) := by decide +kernel
theorem dX5_clear_12 : decode cX5_clear 12 = .ok (.putfield 18, 3) := by decide +kernel
theorem dX5_clear_15 : decode cX5_clear 15 = .ok (.getstatic 37, 3) := by decide +kernel
theorem dX5_clear_18 : decode cX5_clear 18 = .ok (.iconst 0, 1) := by decide +kernel
theorem dX5_clear_19 : decode cX5_clear 19 = .ok (.aload_n 0, 1) := by decide +kernel
theorem dX5_clear_20 : decode cX5_clear 20 = .ok (.getfield 45, 3) := by decide +kernel
theorem dX5_clear_23 : decode cX5_clear 23 = .ok (.iconst 0, 1) := by decide +kernel
theorem dX5_clear_24 : decode cX5_clear 24 = .ok (.aload_n 0, 1) := by decide +kernel
theorem dX5_clear_25 : decode cX5_clear 25 = .ok (.getfield 45, 3) := by decide +kernel
theorem dX5_clear_28 : decode cX5_clear 28 = .ok (.arraylength, 1) := by decide +kernel
theorem dX5_clear_29 : decode cX5_clear 29 = .ok (.invokestatic 48, 3) := by decide +kernel
theorem dX5_clear_32 : decode cX5_clear 32 = .ok (.return_, 1) := by decide +kernel
theorem dX7_read_0 : decode cX7_read 0 = .ok (.aload_n 0, 1) := by decide +kernel
theorem dX7_read_1 : decode cX7_read 1 = .ok (.aload_n 1, 1) := by decide +kernel
theorem dX7_read_2 : decode cX7_read 2 = .ok (.putfield 18, 3) := by decide +kernel
theorem dX7_read_5 : decode cX7_read 5 = .ok (.aload_n 0, 1) := by decide +kernel
theorem dX7_read_6 : decode cX7_read 6 = .ok (.iload_n 2, 1) := by decide +kernel
theorem dX7_read_7 : decode cX7_read 7 = .ok (.aload_n 1, 1) := by decide +kernel
theorem dX7_read_8 : decode cX7_read 8 = .ok (.arraylength, 1) := by decide +kernel
theorem dX7_read_9 : decode cX7_read 9 = .ok (.invokestatic 40, 3) := by decide +kernel
theorem dX7_read_12 : decode cX7_read 12 = .ok (.putfield 22, 3) := by decide +kernel
theorem dX7_read_15 : decode cX7_read 15 = .ok (.aload_n 0, 1) := by decide +kernel
theorem dX7_read_16 : decode cX7_read 16 = .ok (.iconst 0, 1) := by decide +kernel
theorem dX7_read_17 : decode cX7_read 17 = .ok (.putfield 31, 3) := by decide +kernel
theorem dX7_read_20 : decode cX7_read 20 = .ok (.aload_n 0, 1) := by decide +kernel
theorem dX7_read_21 : decode cX7_read 21 = .ok (.iconst 0, 1) := by decide +kernel
theorem dX7_read_22 : decode cX7_read 22 = .ok (.putfield 15, 3) := by decide +kernel
theorem dX7_read_25 : decode cX7_read 25 = .ok (.aload_n 0, 1) := by decide +kernel
theorem dX7_read_26 : decode cX7_read 26 = .ok (.iconst (-1), 1) := by decide +kernel
theorem dX7_read_27 : decode cX7_read 27 = .ok (.putfield 9, 3) := by decide +kernel
theorem dX7_read_30 : decode cX7_read 30 = .ok (.aload_n 0, 1) := by decide +kernel
theorem dX7_read_31 : decode cX7_read 31 = .ok (.iconst 0, 1) := by decide +kernel
theorem dX7_read_32 : decode cX7_read 32 = .ok (.putfield 37, 3) := by decide +kernel
theorem dX7_read_35 : decode cX7_read 35 = .ok (.aload_n 3, 1) := by decide +kernel
theorem dX7_read_36 : decode cX7_read 36 = .ok (.invokevirtual 46, 3) := by decide +kernel
theorem dX7_read_39 : decode cX7_read 39 = .ok (.aload 4, 2) := by decide +kernel
theorem dX7_read_41 : decode cX7_read 41 = .ok (.invokevirtual 51, 3) := by decide +kernel
theorem dX7_read_44 : decode cX7_read 44 = .ok (.aload_n 0, 1) := by decide +kernel
theorem dX7_read_45 : decode cX7_read 45 = .ok (.invokevirtual 54, 3) := by decide +kernel
theorem dX7_read_48 : decode cX7_read 48 = .ok (.iconst 0, 1) := by decide +kernel
theorem dX7_read_49 : decode cX7_read 49 = .ok (.istore 5, 2) := by decide +kernel
theorem dX7_read_51 : decode cX7_read 51 = .ok (.iload 5, 2) := by decide +kernel
theorem dX7_read_53 : decode cX7_read 53 = .ok (.aload_n 0, 1) := by decide +kernel
theorem dX7_read_54 : decode cX7_read 54 = .ok (.getfield 22, 3) := by decide +kernel
theorem dX7_read_57 : decode cX7_read 57 = .ok (.if_icmp .gt 30, 3) := by decide +kernel
theorem dX7_read_87 : decode cX7_read 87 = .ok (.aload_n 0, 1) := by decide +kernel
theorem dX7_read_88 : decode cX7_read 88 = .ok (.getfield 15, 3) := by decide +kernel
theorem dX7_read_91 : decode cX7_read 91 = .ok (.ireturn, 1) := by decide +kernel
theorem dX7_read_60 : decode cX7_read 60 = .ok (.aload_n 0, 1) := by decide +kernel
theorem dX7_read_61 : decode cX7_read 61 = .ok (.getfield 15, 3) := by decide +kernel
theorem dX7_read_64 : decode cX7_read 64 = .ok (.ifCond .ne 23, 3) := by decide +kernel
theorem dX7_read_67 : decode cX7_read 67 = .ok (.aload_n 0, 1) := by decide +kernel
theorem dX7_read_68 : decode cX7_read 68 = .ok (.getfield 25, 3) := by decide +kernel
theorem dX7_read_71 : decode cX7_read 71 = .ok (.ifCond .eq 16, 3) := by decide +kernel
theorem dX7_read_74 : decode cX7_read 74 = .ok (.aload_n 0, 1) := by decide +kernel
theorem dX7_read_75 : decode cX7_read 75 = .ok (.aload_n 3, 1) := by decide +kernel
theorem dX7_read_76 : decode cX7_read 76 = .ok (.aload 4, 2) := by decide +kernel
theorem dX7_read_78 : decode cX7_read 78 = .ok (.invokevirtual 57, 3) := by decide +kernel
theorem dX7_read_81 : decode cX7_read 81 = .ok (.iinc 5 1, 3) := by decide +kernel
theorem dX7_read_84 : decode cX7_read 84 = .ok (.goto (-33), 3) := by decide +kernel
theorem dX9_snow_0 : decode cX9_snow 0 = .ok (.iload_n 1, 1) := by decide +kernel
theorem dX9_snow_1 : decode cX9_snow 1 = .ok (.ifCond .lt 11, 3) := by decide +kernel
theorem dX9_snow_12 : decode cX9_snow 12 = .ok (.new 86, 3) := by decide +kernel
theorem dX9_snow_15 : decode cX9_snow 15 = .ok (.dup, 1) := by decide +kernel
theorem dX9_snow_16 : decode cX9_snow 16 = .ok (.ldc 88, 2) := by decide +kernel
theorem dX9_snow_18 : decode cX9_snow 18 = .ok (.invokespecial 90, 3) := by decide +kernel
theorem dX9_snow_21 : decode cX9_snow 21 = .ok (.athrow, 1) := by decide +kernel
theorem dX9_snow_4 : decode cX9_snow 4 = .ok (.iload_n 1, 1) := by decide +kernel
theorem dX9_snow_5 : decode cX9_snow 5 = .ok (.aload_n 0, 1) := by decide +kernel
theorem dX9_snow_6 : decode cX9_snow 6 = .ok (.getfield 13, 3) := by decide +kernel
theorem dX9_snow_9 : decode cX9_snow 9 = .ok (.if_icmp .le 13, 3) := by decide +kernel
theorem dX9_snow_22 : decode cX9_snow 22 = .ok (.aload_n 0, 1) := by decide +kernel
theorem dX9_snow_23 : decode cX9_snow 23 = .ok (.getfield 23, 3) := by decide +kernel
theorem dX9_snow_26 : decode cX9_snow 26 = .ok (.aload_n 0, 1) := by decide +kernel
theorem dX9_snow_27 : decode cX9_snow 27 = .ok (.getfield 9, 3) := by decide +kernel
theorem dX9_snow_30 : decode cX9_snow 30 = .ok (.iload_n 1, 1) := by decide +kernel
theorem dX9_snow_31 : decode cX9_snow 31 = .ok (.aload_n 0, 1) := by decide +kernel
theorem dX9_snow_32 : decode cX9_snow 32 = .ok (.getfield 48, 3) := by decide +kernel
theorem dX9_snow_35 : decode cX9_snow 35 = .ok (.aload_n 0, 1) := by decide +kernel
theorem dX9_snow_36 : decode cX9_snow 36 = .ok (.getfield 54, 3) := by decide +kernel
theorem dX9_snow_39 : decode cX9_snow 39 = .ok (.invokevirtual 93, 3) := by decide +kernel
theorem dX9_snow_42 : decode cX9_snow 42 = .ok (.istore_n 2, 1) := by decide +kernel
theorem dX9_snow_43 : decode cX9_snow 43 = .ok (.aload_n 0, 1) := by decide +kernel
theorem dX9_snow_44 : decode cX9_snow 44 = .ok (.iconst 0, 1) := by decide +kernel
theorem dX9_snow_45 : decode cX9_snow 45 = .ok (.putfield 13, 3) := by decide +kernel
theorem dX9_snow_48 : decode cX9_snow 48 = .ok (.aload_n 0, 1) := by decide +kernel
theorem dX9_snow_49 : decode cX9_snow 49 = .ok (.aload_n 0, 1) := by decide +kernel
theorem dX9_snow_50 : decode cX9_snow 50 = .ok (.getfield 23, 3) := by decide +kernel
theorem dX9_snow_53 : decode cX9_snow 53 = .ok (.getfield 97, 3) := by decide +kernel
theorem dX9_snow_56 : decode cX9_snow 56 = .ok (.putfield 17, 3) := by decide +kernel
theorem dX9_snow_59 : decode cX9_snow 59 = .ok (.iload_n 2, 1) := by decide +kernel
theorem dX9_snow_60 : decode cX9_snow 60 = .ok (.ifCond .eq 18, 3) := by decide +kernel
theorem dX9_snow_78 : decode cX9_snow 78 = .ok (.aload_n 0, 1) := by decide +kernel
theorem dX9_snow_79 : decode cX9_snow 79 = .ok (.getfield 30, 3) := by decide +kernel
theorem dX9_snow_82 : decode cX9_snow 82 = .ok (.aload_n 0, 1) := by decide +kernel
theorem dX9_snow_83 : decode cX9_snow 83 = .ok (.getfield 48, 3) := by decide +kernel
theorem dX9_snow_86 : decode cX9_snow 86 = .ok (.invokevirtual 104, 3) := by decide +kernel
theorem dX9_snow_89 : decode cX9_snow 89 = .ok (.aload_n 0, 1) := by decide +kernel
theorem dX9_snow_90 : decode cX9_snow 90 = .ok (.getfield 37, 3) := by decide +kernel
theorem dX9_snow_93 : decode cX9_snow 93 = .ok (.aload_n 0, 1) := by decide +kernel
theorem dX9_snow_94 : decode cX9_snow 94 = .ok (.getfield 54, 3) := by decide +kernel
theorem dX9_snow_97 : decode cX9_snow 97 = .ok (.invokevirtual 108, 3) := by decide +kernel
theorem dX9_snow_100 : decode cX9_snow 100 = .ok (.aload_n 0, 1) := by decide +kernel
theorem dX9_snow_101 : decode cX9_snow 101 = .ok (.iconst 0, 1) := by decide +kernel
theorem dX9_snow_102 : decode cX9_snow 102 = .ok (.putfield 44, 3) := by decide +kernel
theorem dX9_snow_105 : decode cX9_snow 105 = .ok (.iconst 0, 1) := by decide +kernel
theorem dX9_snow_106 : decode cX9_snow 106 = .ok (.ireturn, 1) := by decide +kernel
theorem dX9_snow_63 : decode cX9_snow 63 = .ok (.aload_n 0, 1) := by decide +kernel
theorem dX9_snow_64 : decode cX9_snow 64 = .ok (.getfield 37, 3) := by decide +kernel
theorem dX9_snow_67 : decode cX9_snow 67 = .ok (.getfield 100, 3) := by decide +kernel
theorem dX9_snow_70 : decode cX9_snow 70 = .ok (.iconst 0, 1) := by decide +kernel
theorem dX9_snow_71 : decode cX9_snow 71 = .ok (.dup2, 1) := by decide +kernel
theorem dX9_snow_72 : decode cX9_snow 72 = .ok (.iaload, 1) := by decide +kernel
theorem dX9_snow_73 : decode cX9_snow 73 = .ok (.iconst 1, 1) := by decide +kernel
theorem dX9_snow_74 : decode cX9_snow 74 = .ok (.iadd, 1) := by decide +kernel
theorem dX9_snow_75 : decode cX9_snow 75 = .ok (.iastore, 1) := by decide +kernel
theorem dX9_snow_76 : decode cX9_snow 76 = .ok (.iload_n 2, 1) := by decide +kernel
theorem dX9_snow_77 : decode cX9_snow 77 = .ok (.ireturn, 1) := by decide +kernel
