-- decode rows of snow
theorem dX9_needWhat_0 : decode cX9_needWhat 0 = .ok (.iload_n 0, 1) := by decide +kernel
theorem dX9_needWhat_1 : decode cX9_needWhat 1 = .ok (.ifCond .lt 8, 3) := by decide +kernel
theorem dX9_needWhat_9 : decode cX9_needWhat 9 = .ok (.new 165, 3) := by decide +kernel
theorem dX9_needWhat_12 : decode cX9_needWhat 12 = .ok (.dup, 1) := by decide +kernel
theorem dX9_needWhat_13 : decode cX9_needWhat 13 = .ok (.ldc_w 420, 3) := by decide +kernel
theorem dX9_needWhat_16 : decode cX9_needWhat 16 = .ok (.invokespecial 169, 3) := by decide +kernel
theorem dX9_needWhat_19 : decode cX9_needWhat 19 = .ok (.athrow, 1) := by decide +kernel
theorem dX9_needWhat_4 : decode cX9_needWhat 4 = .ok (.iload_n 0, 1) := by decide +kernel
theorem dX9_needWhat_5 : decode cX9_needWhat 5 = .ok (.iload_n 1, 1) := by decide +kernel
theorem dX9_needWhat_6 : decode cX9_needWhat 6 = .ok (.if_icmp .le 14, 3) := by decide +kernel
theorem dX9_needWhat_20 : decode cX9_needWhat 20 = .ok (.return_, 1) := by decide +kernel
theorem dX6_keepAct_0 : decode cX6_keepAct 0 = .ok (.aload_n 0, 1) := by decide +kernel
theorem dX6_keepAct_1 : decode cX6_keepAct 1 = .ok (.getfield 22, 3) := by decide +kernel
theorem dX6_keepAct_4 : decode cX6_keepAct 4 = .ok (.bipush 40, 2) := by decide +kernel
theorem dX6_keepAct_6 : decode cX6_keepAct 6 = .ok (.if_icmp .ne 7, 3) := by decide +kernel
theorem dX6_keepAct_13 : decode cX6_keepAct 13 = .ok (.aload_n 0, 1) := by decide +kernel
theorem dX6_keepAct_14 : decode cX6_keepAct 14 = .ok (.getfield 18, 3) := by decide +kernel
theorem dX6_keepAct_17 : decode cX6_keepAct 17 = .ok (.aload_n 0, 1) := by decide +kernel
theorem dX6_keepAct_18 : decode cX6_keepAct 18 = .ok (.getfield 22, 3) := by decide +kernel
theorem dX6_keepAct_21 : decode cX6_keepAct 21 = .ok (.aaload, 1) := by decide +kernel
theorem dX6_keepAct_22 : decode cX6_keepAct 22 = .ok (.aload_n 0, 1) := by decide +kernel
theorem dX6_keepAct_23 : decode cX6_keepAct 23 = .ok (.getfield 12, 3) := by decide +kernel
theorem dX6_keepAct_26 : decode cX6_keepAct 26 = .ok (.invokevirtual 44, 3) := by decide +kernel
theorem dX6_keepAct_29 : decode cX6_keepAct 29 = .ok (.aload_n 0, 1) := by decide +kernel
theorem dX6_keepAct_30 : decode cX6_keepAct 30 = .ok (.dup, 1) := by decide +kernel
theorem dX6_keepAct_31 : decode cX6_keepAct 31 = .ok (.getfield 22, 3) := by decide +kernel
theorem dX6_keepAct_34 : decode cX6_keepAct 34 = .ok (.iconst 1, 1) := by decide +kernel
theorem dX6_keepAct_35 : decode cX6_keepAct 35 = .ok (.iadd, 1) := by decide +kernel
theorem dX6_keepAct_36 : decode cX6_keepAct 36 = .ok (.putfield 22, 3) := by decide +kernel
theorem dX6_keepAct_39 : decode cX6_keepAct 39 = .ok (.return_, 1) := by decide +kernel
theorem dX9_hours_0 : decode cX9_hours 0 = .ok (.iload_n 1, 1) := by decide +kernel
theorem dX9_hours_1 : decode cX9_hours 1 = .ok (.iconst 1, 1) := by decide +kernel
theorem dX9_hours_2 : decode cX9_hours 2 = .ok (.if_icmp .lt 27, 3) := by decide +kernel
theorem dX9_hours_29 : decode cX9_hours 29 = .ok (.aload_n 0, 1) := by decide +kernel
theorem dX9_hours_30 : decode cX9_hours 30 = .ok (.iconst 1, 1) := by decide +kernel
theorem dX9_hours_31 : decode cX9_hours 31 = .ok (.invokevirtual 255, 3) := by decide +kernel
theorem dX9_hours_34 : decode cX9_hours 34 = .ok (.ireturn, 1) := by decide +kernel
theorem dX9_hours_5 : decode cX9_hours 5 = .ok (.iload_n 1, 1) := by decide +kernel
theorem dX9_hours_6 : decode cX9_hours 6 = .ok (.bipush 24, 2) := by decide +kernel
theorem dX9_hours_8 : decode cX9_hours 8 = .ok (.if_icmp .gt 21, 3) := by decide +kernel
theorem dX9_hours_11 : decode cX9_hours 11 = .ok (.aload_n 0, 1) := by decide +kernel
theorem dX9_hours_12 : decode cX9_hours 12 = .ok (.getfield 37, 3) := by decide +kernel
theorem dX9_hours_15 : decode cX9_hours 15 = .ok (.getfield 112, 3) := by decide +kernel
theorem dX9_hours_18 : decode cX9_hours 18 = .ok (.getfield 121, 3) := by decide +kernel
theorem dX9_hours_21 : decode cX9_hours 21 = .ok (.iload_n 1, 1) := by decide +kernel
theorem dX9_hours_22 : decode cX9_hours 22 = .ok (.iadd, 1) := by decide +kernel
theorem dX9_hours_23 : decode cX9_hours 23 = .ok (.sipush 2000, 3) := by decide +kernel
theorem dX9_hours_26 : decode cX9_hours 26 = .ok (.if_icmp .le 9, 3) := by decide +kernel
theorem dX9_hours_35 : decode cX9_hours 35 = .ok (.aload_n 0, 1) := by decide +kernel
theorem dX9_hours_36 : decode cX9_hours 36 = .ok (.getfield 37, 3) := by decide +kernel
theorem dX9_hours_39 : decode cX9_hours 39 = .ok (.invokevirtual 258, 3) := by decide +kernel
theorem dX9_hours_42 : decode cX9_hours 42 = .ok (.iconst 0, 1) := by decide +kernel
theorem dX9_hours_43 : decode cX9_hours 43 = .ok (.istore_n 2, 1) := by decide +kernel
theorem dX9_hours_44 : decode cX9_hours 44 = .ok (.iload_n 2, 1) := by decide +kernel
theorem dX9_hours_45 : decode cX9_hours 45 = .ok (.iload_n 1, 1) := by decide +kernel
theorem dX9_hours_46 : decode cX9_hours 46 = .ok (.if_icmp .ge 31, 3) := by decide +kernel
theorem dX9_hours_77 : decode cX9_hours 77 = .ok (.aload_n 0, 1) := by decide +kernel
theorem dX9_hours_78 : decode cX9_hours 78 = .ok (.getfield 37, 3) := by decide +kernel
theorem dX9_hours_81 : decode cX9_hours 81 = .ok (.getfield 112, 3) := by decide +kernel
theorem dX9_hours_84 : decode cX9_hours 84 = .ok (.getfield 121, 3) := by decide +kernel
theorem dX9_hours_87 : decode cX9_hours 87 = .ok (.ireturn, 1) := by decide +kernel
theorem dX9_hours_49 : decode cX9_hours 49 = .ok (.aload_n 0, 1) := by decide +kernel
theorem dX9_hours_50 : decode cX9_hours 50 = .ok (.getfield 37, 3) := by decide +kernel
theorem dX9_hours_53 : decode cX9_hours 53 = .ok (.getfield 112, 3) := by decide +kernel
theorem dX9_hours_56 : decode cX9_hours 56 = .ok (.aload_n 0, 1) := by decide +kernel
theorem dX9_hours_57 : decode cX9_hours 57 = .ok (.getfield 30, 3) := by decide +kernel
theorem dX9_hours_60 : decode cX9_hours 60 = .ok (.aload_n 0, 1) := by decide +kernel
theorem dX9_hours_61 : decode cX9_hours 61 = .ok (.getfield 30, 3) := by decide +kernel
theorem dX9_hours_64 : decode cX9_hours 64 = .ok (.invokevirtual 261, 3) := by decide +kernel
theorem dX9_hours_67 : decode cX9_hours 67 = .ok (.iconst 1, 1) := by decide +kernel
theorem dX9_hours_68 : decode cX9_hours 68 = .ok (.invokevirtual 264, 3) := by decide +kernel
theorem dX9_hours_71 : decode cX9_hours 71 = .ok (.iinc 2 1, 3) := by decide +kernel
theorem dX9_hours_74 : decode cX9_hours 74 = .ok (.goto (-30), 3) := by decide +kernel
theorem dX3_clear_0 : decode cX3_clear 0 = .ok (.aload_n 0, 1) := by decide +kernel
theorem dX3_clear_1 : decode cX3_clear 1 = .ok (.iconst 0, 1) := by decide +kernel
theorem dX3_clear_2 : decode cX3_clear 2 = .ok (.putfield 9, 3) := by decide +kernel
theorem dX3_clear_5 : decode cX3_clear 5 = .ok (.aload_n 0, 1) := by decide +kernel
theorem dX3_clear_6 : decode cX3_clear 6 = .ok (.iconst 0, 1) := by decide +kernel
theorem dX3_clear_7 : decode cX3_clear 7 = .ok (.putfield 15, 3) := by decide +kernel
theorem dX3_clear_10 : decode cX3_clear 10 = .ok (.return_, 1) := by decide +kernel
theorem dX8_clear_0 : decode cX8_clear 0 = .ok (.aload_n 0, 1) := by decide +kernel
theorem dX8_clear_1 : decode cX8_clear 1 = .ok (.iconst 0, 1) := by decide +kernel
theorem dX8_clear_2 : decode cX8_clear 2 = .ok (.putfield 9, 3) := by decide +kernel
theorem dX8_clear_5 : decode cX8_clear 5 = .ok (.aload_n 0, 1) := by decide +kernel
theorem dX8_clear_6 : decode cX8_clear 6 = .ok (.iconst 0, 1) := by decide +kernel
theorem dX8_clear_7 : decode cX8_clear 7 = .ok (.putfield 15, 3) := by decide +kernel
theorem dX8_clear_10 : decode cX8_clear 10 = .ok (.aload_n 0, 1) := by decide +kernel
theorem dX8_clear_11 : decode cX8_clear 11 = .ok (.iconst 0, 1) := by decide +kernel
theorem dX8_clear_12 : decode cX8_clear 12 = .ok (.putfield 18, 3) := by decide +kernel
theorem dX8_clear_15 : decode cX8_clear 15 = .ok (.aload_n 0, 1) := by decide +kernel
theorem dX8_clear_16 : decode cX8_clear 16 = .ok (.iconst 0, 1) := by decide +kernel
theorem dX8_clear_17 : decode cX8_clear 17 = .ok (.putfield 21, 3) := by decide +kernel
theorem dX8_clear_20 : decode cX8_clear 20 = .ok (.aload_n 0, 1) := by decide +kernel
theorem dX8_clear_21 : decode cX8_clear 21 = .ok (.iconst 0, 1) := by decide +kernel
theorem dX8_clear_22 : decode cX8_clear 22 = .ok (.putfield 24, 3) := by decide +kernel
theorem dX8_clear_25 : decode cX8_clear 25 = .ok (.aload_n 0, 1) := by decide +kernel
theorem dX8_clear_26 : decode cX8_clear 26 = .ok (.iconst 0, 1) := by decide +kernel
theorem dX8_clear_27 : decode cX8_clear 27 = .ok (.putfield 27, 3) := by decide +kernel
theorem dX8_clear_30 : decode cX8_clear 30 = .ok (.iconst 0, 1) := by decide +kernel
theorem dX8_clear_31 : decode cX8_clear 31 = .ok (.istore_n 1, 1) := by decide +kernel
theorem dX8_clear_32 : decode cX8_clear 32 = .ok (.iload_n 1, 1) := by decide +kernel
theorem dX8_clear_33 : decode cX8_clear 33 = .ok (.aload_n 0, 1) := by decide +kernel
theorem dX8_clear_34 : decode cX8_clear 34 = .ok (.getfield 32, 3) := by decide +kernel
theorem dX8_clear_37 : decode cX8_clear 37 = .ok (.arraylength, 1) := by decide +kernel
theorem dX8_clear_38 : decode cX8_clear 38 = .ok (.if_icmp .ge 18, 3) := by decide +kernel
theorem dX8_clear_41 : decode cX8_clear 41 = .ok (.aload_n 0, 1) := by decide +kernel
theorem dX8_clear_42 : decode cX8_clear 42 = .ok (.getfield 32, 3) := by decide +kernel
theorem dX8_clear_45 : decode cX8_clear 45 = .ok (.iload_n 1, 1) := by decide +kernel
theorem dX8_clear_46 : decode cX8_clear 46 = .ok (.aaload, 1) := by decide +kernel
theorem dX8_clear_47 : decode cX8_clear 47 = .ok (.invokevirtual 37, 3) := by decide +kernel
theorem dX8_clear_50 : decode cX8_clear 50 = .ok (.iinc 1 1, 3) := by decide +kernel
theorem dX8_clear_53 : decode cX8_clear 53 = .ok (.goto (-21), 3) := by decide +kernel
theorem dX8_clear_56 : decode cX8_clear 56 = .ok (.return_, 1) := by decide +kernel
theorem dX5_clear_0 : decode cX5_clear 0 = .ok (.aload_n 0, 1) := by decide +kernel
theorem dX5_clear_1 : decode cX5_clear 1 = .ok (.iconst 0, 1) := by decide +kernel
theorem dX5_clear_2 : decode cX5_clear 2 = .ok (.putfield 9, 3) := by decide +kernel
theorem dX5_clear_5 : decode cX5_clear 5 = .ok (.aload_n 0, 1) := by decide +kernel
theorem dX5_clear_6 : decode cX5_clear 6 = .ok (.iconst 0, 1) := by decide +kernel
theorem dX5_clear_7 : decode cX5_clear 7 = .ok (.putfield 15, 3) := by decide +kernel
theorem dX5_clear_10 : decode cX5_clear 10 = .ok (.aload_n 0, 1) := by decide +kernel
theorem dX5_clear_11 : decode cX5_clear 11 = .ok (.iconst 0, 1) := by decide +kernel
theorem dX5_clear_12 : decode cX5_clear 12 = .ok (.putfield 18, 3) := by decide +kernel
theorem dX5_clear_15 : decode cX5_clear 15 = .ok (.getstatic 37, 3) := by decide +kernel
theorem dX5_clear_18 : decode cX5_clear 18 = .ok (.iconst 0, 1) := by decide +kernel
theorem dX5_clear_19 : decode cX5_clear 19 = .ok (.aload_n 0, 1) := by decide +kernel
theorem dX5_clear_20 : decode cX5_clear 20 = .ok (.getfield 45, 3) := by decide +kernel
theorem dX5_clear_23 : decode cX5_clear 23 = .ok (.iconst 0, 1) := by decide +kernel
theorem dX5_clear_24 : decode cX5_clear 24 = .ok (.aload_n 0, 1) := by decide +kernel
theorem dX5_clear_25 : decode cX5_clear 25 = .ok (.getfield 45, 3) := by decide +kernel
theorem dX5_clear_28 : decode cX5_clear 28 = .ok (.arraylength, 1) := by decide +kernel
theorem dX5_clear_29 : decode cX5_clear 29 = .ok (.invokestatic 48, 3) := by decide +kernel
theorem dX5_clear_32 : decode cX5_clear 32 = .ok (.return_, 1) := by decide +kernel
theorem dX7_peek_0 : decode cX7_peek 0 = .ok (.aload_n 0, 1) := by decide +kernel
theorem dX7_peek_1 : decode cX7_peek 1 = .ok (.aload_n 0, 1) := by decide +kernel
theorem dX7_peek_2 : decode cX7_peek 2 = .ok (.getfield 31, 3) := by decide +kernel
theorem dX7_peek_5 : decode cX7_peek 5 = .ok (.putfield 28, 3) := by decide +kernel
theorem dX7_peek_8 : decode cX7_peek 8 = .ok (.aload_n 0, 1) := by decide +kernel
theorem dX7_peek_9 : decode cX7_peek 9 = .ok (.getfield 28, 3) := by decide +kernel
theorem dX7_peek_12 : decode cX7_peek 12 = .ok (.aload_n 0, 1) := by decide +kernel
theorem dX7_peek_13 : decode cX7_peek 13 = .ok (.getfield 22, 3) := by decide +kernel
theorem dX7_peek_16 : decode cX7_peek 16 = .ok (.if_icmp .ge 44, 3) := by decide +kernel
theorem dX7_peek_60 : decode cX7_peek 60 = .ok (.aload_n 0, 1) := by decide +kernel
theorem dX7_peek_61 : decode cX7_peek 61 = .ok (.aload_n 0, 1) := by decide +kernel
theorem dX7_peek_62 : decode cX7_peek 62 = .ok (.getfield 28, 3) := by decide +kernel
theorem dX7_peek_65 : decode cX7_peek 65 = .ok (.aload_n 0, 1) := by decide +kernel
theorem dX7_peek_66 : decode cX7_peek 66 = .ok (.getfield 22, 3) := by decide +kernel
theorem dX7_peek_69 : decode cX7_peek 69 = .ok (.if_icmp .ge 18, 3) := by decide +kernel
theorem dX7_peek_87 : decode cX7_peek 87 = .ok (.iconst 0, 1) := by decide +kernel
theorem dX7_peek_88 : decode cX7_peek 88 = .ok (.putfield 25, 3) := by decide +kernel
theorem dX7_peek_91 : decode cX7_peek 91 = .ok (.aload_n 0, 1) := by decide +kernel
theorem dX7_peek_92 : decode cX7_peek 92 = .ok (.aload_n 0, 1) := by decide +kernel
theorem dX7_peek_93 : decode cX7_peek 93 = .ok (.getfield 28, 3) := by decide +kernel
theorem dX7_peek_96 : decode cX7_peek 96 = .ok (.aload_n 0, 1) := by decide +kernel
theorem dX7_peek_97 : decode cX7_peek 97 = .ok (.getfield 22, 3) := by decide +kernel
theorem dX7_peek_100 : decode cX7_peek 100 = .ok (.if_icmp .ge 12, 3) := by decide +kernel
theorem dX7_peek_112 : decode cX7_peek 112 = .ok (.aload_n 0, 1) := by decide +kernel
theorem dX7_peek_113 : decode cX7_peek 113 = .ok (.getfield 22, 3) := by decide +kernel
theorem dX7_peek_116 : decode cX7_peek 116 = .ok (.putfield 31, 3) := by decide +kernel
theorem dX7_peek_119 : decode cX7_peek 119 = .ok (.aload_n 0, 1) := by decide +kernel
theorem dX7_peek_120 : decode cX7_peek 120 = .ok (.getfield 25, 3) := by decide +kernel
theorem dX7_peek_123 : decode cX7_peek 123 = .ok (.iconst 1, 1) := by decide +kernel
theorem dX7_peek_124 : decode cX7_peek 124 = .ok (.if_icmp .eq 11, 3) := by decide +kernel
theorem dX7_peek_127 : decode cX7_peek 127 = .ok (.aload_n 0, 1) := by decide +kernel
theorem dX7_peek_128 : decode cX7_peek 128 = .ok (.getfield 25, 3) := by decide +kernel
theorem dX7_peek_131 : decode cX7_peek 131 = .ok (.iconst 2, 1) := by decide +kernel
theorem dX7_peek_132 : decode cX7_peek 132 = .ok (.if_icmp .ne 46, 3) := by decide +kernel
theorem dX7_peek_178 : decode cX7_peek 178 = .ok (.return_, 1) := by decide +kernel
theorem dX7_read_0 : decode cX7_read 0 = .ok (.aload_n 0, 1) := by decide +kernel
theorem dX7_read_1 : decode cX7_read 1 = .ok (.aload_n 1, 1) := by decide +kernel
theorem dX7_read_2 : decode cX7_read 2 = .ok (.putfield 18, 3) := by decide +kernel
theorem dX7_read_5 : decode cX7_read 5 = .ok (.aload_n 0, 1) := by decide +kernel
theorem dX7_read_6 : decode cX7_read 6 = .ok (.iload_n 2, 1) := by decide +kernel
theorem dX7_read_7 : decode cX7_read 7 = .ok (.aload_n 1, 1) := by decide +kernel
theorem dX7_read_8 : decode cX7_read 8 = .ok (.arraylength, 1) := by decide +kernel
theorem dX7_read_9 : decode cX7_read 9 = .ok (.invokestatic 40, 3) := by decide +kernel
theorem dX7_read_12 : decode cX7_read 12 = .ok (.putfield 22, 3) := by decide +kernel
theorem dX7_read_15 : decode cX7_read 15 = .ok (.aload_n 0, 1) := by decide +kernel
theorem dX7_read_16 : decode cX7_read 16 = .ok (.iconst 0, 1) := by decide +kernel
theorem dX7_read_17 : decode cX7_read 17 = .ok (.putfield 31, 3) := by decide +kernel
theorem dX7_read_20 : decode cX7_read 20 = .ok (.aload_n 0, 1) := by decide +kernel
theorem dX7_read_21 : decode cX7_read 21 = .ok (.iconst 0, 1) := by decide +kernel
theorem dX7_read_22 : decode cX7_read 22 = .ok (.putfield 15, 3) := by decide +kernel
theorem dX7_read_25 : decode cX7_read 25 = .ok (.aload_n 0, 1) := by decide +kernel
theorem dX7_read_26 : decode cX7_read 26 = .ok (.iconst (-1), 1) := by decide +kernel
theorem dX7_read_27 : decode cX7_read 27 = .ok (.putfield 9, 3) := by decide +kernel
theorem dX7_read_30 : decode cX7_read 30 = .ok (.aload_n 0, 1) := by decide +kernel
theorem dX7_read_31 : decode cX7_read 31 = .ok (.iconst 0, 1) := by decide +kernel
theorem dX7_read_32 : decode cX7_read 32 = .ok (.putfield 37, 3) := by decide +kernel
theorem dX7_read_35 : decode cX7_read 35 = .ok (.aload_n 3, 1) := by decide +kernel
theorem dX7_read_36 : decode cX7_read 36 = .ok (.invokevirtual 46, 3) := by decide +kernel
theorem dX7_read_39 : decode cX7_read 39 = .ok (.aload 4, 2) := by decide +kernel
theorem dX7_read_41 : decode cX7_read 41 = .ok (.invokevirtual 51, 3) := by decide +kernel
theorem dX7_read_44 : decode cX7_read 44 = .ok (.aload_n 0, 1) := by decide +kernel
theorem dX7_read_45 : decode cX7_read 45 = .ok (.invokevirtual 54, 3) := by decide +kernel
theorem dX7_read_48 : decode cX7_read 48 = .ok (.iconst 0, 1) := by decide +kernel
theorem dX7_read_49 : decode cX7_read 49 = .ok (.istore 5, 2) := by decide +kernel
theorem dX7_read_51 : decode cX7_read 51 = .ok (.iload 5, 2) := by decide +kernel
theorem dX7_read_53 : decode cX7_read 53 = .ok (.aload_n 0, 1) := by decide +kernel
theorem dX7_read_54 : decode cX7_read 54 = .ok (.getfield 22, 3) := by decide +kernel
theorem dX7_read_57 : decode cX7_read 57 = .ok (.if_icmp .gt 30, 3) := by decide +kernel
theorem dX7_read_60 : decode cX7_read 60 = .ok (.aload_n 0, 1) := by decide +kernel
theorem dX7_read_61 : decode cX7_read 61 = .ok (.getfield 15, 3) := by decide +kernel
theorem dX7_read_64 : decode cX7_read 64 = .ok (.ifCond .ne 23, 3) := by decide +kernel
theorem dX7_read_67 : decode cX7_read 67 = .ok (.aload_n 0, 1) := by decide +kernel
theorem dX7_read_68 : decode cX7_read 68 = .ok (.getfield 25, 3) := by decide +kernel
theorem dX7_read_71 : decode cX7_read 71 = .ok (.ifCond .eq 16, 3) := by decide +kernel
theorem dX7_read_87 : decode cX7_read 87 = .ok (.aload_n 0, 1) := by decide +kernel
theorem dX7_read_88 : decode cX7_read 88 = .ok (.getfield 15, 3) := by decide +kernel
theorem dX7_read_91 : decode cX7_read 91 = .ok (.ireturn, 1) := by decide +kernel
theorem dX6_beginWith_0 : decode cX6_beginWith 0 = .ok (.aload_n 0, 1) := by decide +kernel
theorem dX6_beginWith_1 : decode cX6_beginWith 1 = .ok (.getfield 12, 3) := by decide +kernel
theorem dX6_beginWith_4 : decode cX6_beginWith 4 = .ok (.aload_n 1, 1) := by decide +kernel
theorem dX6_beginWith_5 : decode cX6_beginWith 5 = .ok (.invokevirtual 44, 3) := by decide +kernel
theorem dX6_beginWith_8 : decode cX6_beginWith 8 = .ok (.aload_n 0, 1) := by decide +kernel
theorem dX6_beginWith_9 : decode cX6_beginWith 9 = .ok (.iconst 0, 1) := by decide +kernel
theorem dX6_beginWith_10 : decode cX6_beginWith 10 = .ok (.putfield 22, 3) := by decide +kernel
theorem dX6_beginWith_13 : decode cX6_beginWith 13 = .ok (.aload_n 0, 1) := by decide +kernel
theorem dX6_beginWith_14 : decode cX6_beginWith 14 = .ok (.getfield 35, 3) := by decide +kernel
theorem dX6_beginWith_17 : decode cX6_beginWith 17 = .ok (.iconst 0, 1) := by decide +kernel
theorem dX6_beginWith_18 : decode cX6_beginWith 18 = .ok (.putfield 48, 3) := by decide +kernel
theorem dX6_beginWith_21 : decode cX6_beginWith 21 = .ok (.return_, 1) := by decide +kernel
theorem dX9_snow_0 : decode cX9_snow 0 = .ok (.iload_n 1, 1) := by decide +kernel
theorem dX9_snow_1 : decode cX9_snow 1 = .ok (.ifCond .lt 11, 3) := by decide +kernel
theorem dX9_snow_12 : decode cX9_snow 12 = .ok (.new 86, 3) := by decide +kernel
theorem dX9_snow_15 : decode cX9_snow 15 = .ok (.dup, 1) := by decide +kernel
theorem dX9_snow_16 : decode cX9_snow 16 = .ok (.ldc 88, 2) := by decide +kernel
theorem dX9_snow_18 : decode cX9_snow 18 = .ok (.invokespecial 90, 3) := by decide +kernel
theorem dX9_snow_21 : decode cX9_snow 21 = .ok (.athrow, 1) := by decide +kernel
theorem dX9_snow_4 : decode cX9_snow 4 = .ok (.iload_n 1, 1) := by decide +kernel
theorem dX9_snow_5 : decode cX9_snow 5 = .ok (.aload_n 0, 1) := by decide +kernel
theorem dX9_snow_6 : decode cX9_snow 6 = .ok (.getfield 13, 3) := by decide +kernel
theorem dX9_snow_9 : decode cX9_snow 9 = .ok (.if_icmp .le 13, 3) := by decide +kernel
theorem dX9_snow_22 : decode cX9_snow 22 = .ok (.aload_n 0, 1) := by decide +kernel
theorem dX9_snow_23 : decode cX9_snow 23 = .ok (.getfield 23, 3) := by decide +kernel
theorem dX9_snow_26 : decode cX9_snow 26 = .ok (.aload_n 0, 1) := by decide +kernel
theorem dX9_snow_27 : decode cX9_snow 27 = .ok (.getfield 9, 3) := by decide +kernel
theorem dX9_snow_30 : decode cX9_snow 30 = .ok (.iload_n 1, 1) := by decide +kernel
theorem dX9_snow_31 : decode cX9_snow 31 = .ok (.aload_n 0, 1) := by decide +kernel
theorem dX9_snow_32 : decode cX9_snow 32 = .ok (.getfield 48, 3) := by decide +kernel
theorem dX9_snow_35 : decode cX9_snow 35 = .ok (.aload_n 0, 1) := by decide +kernel
theorem dX9_snow_36 : decode cX9_snow 36 = .ok (.getfield 54, 3) := by decide +kernel
theorem dX9_snow_39 : decode cX9_snow 39 = .ok (.invokevirtual 93, 3) := by decide +kernel
theorem dX9_snow_42 : decode cX9_snow 42 = .ok (.istore_n 2, 1) := by decide +kernel
theorem dX9_snow_43 : decode cX9_snow 43 = .ok (.aload_n 0, 1) := by decide +kernel
theorem dX9_snow_44 : decode cX9_snow 44 = .ok (.iconst 0, 1) := by decide +kernel
theorem dX9_snow_45 : decode cX9_snow 45 = .ok (.putfield 13, 3) := by decide +kernel
theorem dX9_snow_48 : decode cX9_snow 48 = .ok (.aload_n 0, 1) := by decide +kernel
theorem dX9_snow_49 : decode cX9_snow 49 = .ok (.aload_n 0, 1) := by decide +kernel
theorem dX9_snow_50 : decode cX9_snow 50 = .ok (.getfield 23, 3) := by decide +kernel
theorem dX9_snow_53 : decode cX9_snow 53 = .ok (.getfield 97, 3) := by decide +kernel
theorem dX9_snow_56 : decode cX9_snow 56 = .ok (.putfield 17, 3) := by decide +kernel
theorem dX9_snow_59 : decode cX9_snow 59 = .ok (.iload_n 2, 1) := by decide +kernel
theorem dX9_snow_60 : decode cX9_snow 60 = .ok (.ifCond .eq 18, 3) := by decide +kernel
theorem dX9_snow_78 : decode cX9_snow 78 = .ok (.aload_n 0, 1) := by decide +kernel
theorem dX9_snow_79 : decode cX9_snow 79 = .ok (.getfield 30, 3) := by decide +kernel
theorem dX9_snow_82 : decode cX9_snow 82 = .ok (.aload_n 0, 1) := by decide +kernel
theorem dX9_snow_83 : decode cX9_snow 83 = .ok (.getfield 48, 3) := by decide +kernel
theorem dX9_snow_86 : decode cX9_snow 86 = .ok (.invokevirtual 104, 3) := by decide +kernel
theorem dX9_snow_89 : decode cX9_snow 89 = .ok (.aload_n 0, 1) := by decide +kernel
theorem dX9_snow_90 : decode cX9_snow 90 = .ok (.getfield 37, 3) := by decide +kernel
theorem dX9_snow_93 : decode cX9_snow 93 = .ok (.aload_n 0, 1) := by decide +kernel
theorem dX9_snow_94 : decode cX9_snow 94 = .ok (.getfield 54, 3) := by decide +kernel
theorem dX9_snow_97 : decode cX9_snow 97 = .ok (.invokevirtual 108, 3) := by decide +kernel
theorem dX9_snow_100 : decode cX9_snow 100 = .ok (.aload_n 0, 1) := by decide +kernel
theorem dX9_snow_101 : decode cX9_snow 101 = .ok (.iconst 0, 1) := by decide +kernel
theorem dX9_snow_102 : decode cX9_snow 102 = .ok (.putfield 44, 3) := by decide +kernel
theorem dX9_snow_105 : decode cX9_snow 105 = .ok (.iconst 0, 1) := by decide +kernel
theorem dX9_snow_106 : decode cX9_snow 106 = .ok (.ireturn, 1) := by decide +kernel
