-- decode rows of like
theorem dX0_clear_0 : decode cX0_clear 0 = .ok (.aload_n 0, 1) := by decide +kernel
theorem dX0_clear_1 : decode cX0_clear 1 = .ok (.iconst 0, 1) := by decide +kernel
theorem dX0_clear_2 : decode cX0_clear 2 = .ok (.putfield 9, 3) := by decide +kernel
theorem dX0_clear_5 : decode cX0_clear 5 = .ok (.aload_n 0, 1) := by decide +kernel
theorem dX0_clear_6 : decode cX0_clear 6 = .ok (.iconst (-1), 1) := by decide +kernel
theorem dX0_clear_7 : decode cX0_clear 7 = .ok (.putfield 15, 3) := by decide +kernel
theorem dX0_clear_10 : decode cX0_clear 10 = .ok (.iconst 0, 1) := by decide +kernel
theorem dX0_clear_11 : decode cX0_clear 11 = .ok (.istore_n 1, 1) := by decide +kernel
theorem dX0_clear_12 : decode cX0_clear 12 = .ok (.iload_n 1, 1) := by decide +kernel
theorem dX0_clear_13 : decode cX0_clear 13 = .ok (.aload_n 0, 1) := by decide +kernel
theorem dX0_clear_14 : decode cX0_clear 14 = .ok (.getfield 18, 3) := by decide +kernel
theorem dX0_clear_17 : decode cX0_clear 17 = .ok (.arraylength, 1) := by decide +kernel
theorem dX0_clear_18 : decode cX0_clear 18 = .ok (.if_icmp .ge 16, 3) := by decide +kernel
theorem dX0_clear_21 : decode cX0_clear 21 = .ok (.aload_n 0, 1) := by decide +kernel
theorem dX0_clear_22 : decode cX0_clear 22 = .ok (.getfield 18, 3) := by decide +kernel
theorem dX0_clear_25 : decode cX0_clear 25 = .ok (.iload_n 1, 1) := by decide +kernel
theorem dX0_clear_26 : decode cX0_clear 26 = .ok (.iconst 0, 1) := by decide +kernel
theorem dX0_clear_27 : decode cX0_clear 27 = .ok (.iastore, 1) := by decide +kernel
theorem dX0_clear_28 : decode cX0_clear 28 = .ok (.iinc 1 1, 3) := by decide +kernel
theorem dX0_clear_31 : decode cX0_clear 31 = .ok (.goto (-19), 3) := by decide +kernel
theorem dX0_clear_34 : decode cX0_clear 34 = .ok (.return_, 1) := by decide +kernel
theorem dX0_add_0 : decode cX0_add 0 = .ok (.aload_n 0, 1) := by decide +kernel
theorem dX0_add_1 : decode cX0_add 1 = .ok (.getfield 9, 3) := by decide +kernel
theorem dX0_add_4 : decode cX0_add 4 = .ok (.ifCond .ne 8, 3) := by decide +kernel
theorem dX0_add_12 : decode cX0_add 12 = .ok (.aload_n 0, 1) := by decide +kernel
theorem dX0_add_13 : decode cX0_add 13 = .ok (.dup, 1) := by decide +kernel
theorem dX0_add_14 : decode cX0_add 14 = .ok (.getfield 9, 3) := by decide +kernel
theorem dX0_add_17 : decode cX0_add 17 = .ok (.iconst 1, 1) := by decide +kernel
theorem dX0_add_18 : decode cX0_add 18 = .ok (.iadd, 1) := by decide +kernel
theorem dX0_add_19 : decode cX0_add 19 = .ok (.putfield 9, 3) := by decide +kernel
theorem dX0_add_22 : decode cX0_add 22 = .ok (.return_, 1) := by decide +kernel
theorem dX0_add_7 : decode cX0_add 7 = .ok (.aload_n 0, 1) := by decide +kernel
theorem dX0_add_8 : decode cX0_add 8 = .ok (.iload_n 1, 1) := by decide +kernel
theorem dX0_add_9 : decode cX0_add 9 = .ok (.putfield 15, 3) := by decide +kernel
theorem dX0_see_0 : decode cX0_see 0 = .ok (.aload_n 0, 1) := by decide +kernel
theorem dX0_see_1 : decode cX0_see 1 = .ok (.getfield 24, 3) := by decide +kernel
theorem dX0_see_4 : decode cX0_see 4 = .ok (.iload_n 1, 1) := by decide +kernel
theorem dX0_see_5 : decode cX0_see 5 = .ok (.aaload, 1) := by decide +kernel
theorem dX0_see_6 : decode cX0_see 6 = .ok (.astore_n 3, 1) := by decide +kernel
theorem dX0_see_7 : decode cX0_see 7 = .ok (.iconst 0, 1) := by decide +kernel
theorem dX0_see_8 : decode cX0_see 8 = .ok (.istore 4, 2) := by decide +kernel
theorem dX0_see_10 : decode cX0_see 10 = .ok (.iload 4, 2) := by decide +kernel
theorem dX0_see_12 : decode cX0_see 12 = .ok (.aload_n 0, 1) := by decide +kernel
theorem dX0_see_13 : decode cX0_see 13 = .ok (.getfield 18, 3) := by decide +kernel
theorem dX0_see_16 : decode cX0_see 16 = .ok (.iload_n 1, 1) := by decide +kernel
theorem dX0_see_17 : decode cX0_see 17 = .ok (.iaload, 1) := by decide +kernel
theorem dX0_see_18 : decode cX0_see 18 = .ok (.if_icmp .ge 18, 3) := by decide +kernel
theorem dX0_see_36 : decode cX0_see 36 = .ok (.aload_n 0, 1) := by decide +kernel
theorem dX0_see_37 : decode cX0_see 37 = .ok (.getfield 18, 3) := by decide +kernel
theorem dX0_see_40 : decode cX0_see 40 = .ok (.iload_n 1, 1) := by decide +kernel
theorem dX0_see_41 : decode cX0_see 41 = .ok (.iaload, 1) := by decide +kernel
theorem dX0_see_42 : decode cX0_see 42 = .ok (.aload_n 3, 1) := by decide +kernel
theorem dX0_see_43 : decode cX0_see 43 = .ok (.arraylength, 1) := by decide +kernel
theorem dX0_see_44 : decode cX0_see 44 = .ok (.if_icmp .ge 22, 3) := by decide +kernel
theorem dX0_see_66 : decode cX0_see 66 = .ok (.return_, 1) := by decide +kernel
theorem dX0_see_47 : decode cX0_see 47 = .ok (.aload_n 3, 1) := by decide +kernel
theorem dX0_see_48 : decode cX0_see 48 = .ok (.aload_n 0, 1) := by decide +kernel
theorem dX0_see_49 : decode cX0_see 49 = .ok (.getfield 18, 3) := by decide +kernel
theorem dX0_see_52 : decode cX0_see 52 = .ok (.iload_n 1, 1) := by decide +kernel
theorem dX0_see_53 : decode cX0_see 53 = .ok (.iaload, 1) := by decide +kernel
theorem dX0_see_54 : decode cX0_see 54 = .ok (.iload_n 2, 1) := by decide +kernel
theorem dX0_see_55 : decode cX0_see 55 = .ok (.iastore, 1) := by decide +kernel
theorem dX0_see_56 : decode cX0_see 56 = .ok (.aload_n 0, 1) := by decide +kernel
theorem dX0_see_57 : decode cX0_see 57 = .ok (.getfield 18, 3) := by decide +kernel
theorem dX0_see_60 : decode cX0_see 60 = .ok (.iload_n 1, 1) := by decide +kernel
theorem dX0_see_61 : decode cX0_see 61 = .ok (.dup2, 1) := by decide +kernel
theorem dX0_see_62 : decode cX0_see 62 = .ok (.iaload, 1) := by decide +kernel
theorem dX0_see_63 : decode cX0_see 63 = .ok (.iconst 1, 1) := by decide +kernel
theorem dX0_see_64 : decode cX0_see 64 = .ok (.iadd, 1) := by decide +kernel
theorem dX0_see_65 : decode cX0_see 65 = .ok (.iastore, 1) := by decide +kernel
theorem dX0_see_21 : decode cX0_see 21 = .ok (.aload_n 3, 1) := by decide +kernel
theorem dX0_see_22 : decode cX0_see 22 = .ok (.iload 4, 2) := by decide +kernel
theorem dX0_see_24 : decode cX0_see 24 = .ok (.iaload, 1) := by decide +kernel
theorem dX0_see_25 : decode cX0_see 25 = .ok (.iload_n 2, 1) := by decide +kernel
theorem dX0_see_26 : decode cX0_see 26 = .ok (.if_icmp .ne 4, 3) := by decide +kernel
theorem dX0_see_30 : decode cX0_see 30 = .ok (.iinc 4 1, 3) := by decide +kernel
theorem dX0_see_33 : decode cX0_see 33 = .ok (.goto (-23), 3) := by decide +kernel
theorem dX0_see_29 : decode cX0_see 29 = .ok (.return_, 1) := by decide +kernel
theorem dX1_longestRow_25 : decode cX1_longestRow 25 = .ok (.iload_n 3, 1) := by decide +kernel
theorem dX1_longestRow_26 : decode cX1_longestRow 26 = .ok (.aload_n 1, 1) := by decide +kernel
theorem dX1_longestRow_27 : decode cX1_longestRow 27 = .ok (.getfield 15, 3) := by decide +kernel
theorem dX1_longestRow_30 : decode cX1_longestRow 30 = .ok (.if_icmp .ge 105, 3) := by decide +kernel
theorem dX1_longestRow_135 : decode cX1_longestRow 135 = .ok (.aload_n 0, 1) := by decide +kernel
theorem dX1_longestRow_136 : decode cX1_longestRow 136 = .ok (.getfield 9, 3) := by decide +kernel
theorem dX1_longestRow_139 : decode cX1_longestRow 139 = .ok (.aload_n 2, 1) := by decide +kernel
theorem dX1_longestRow_140 : decode cX1_longestRow 140 = .ok (.getfield 15, 3) := by decide +kernel
theorem dX1_longestRow_143 : decode cX1_longestRow 143 = .ok (.iaload, 1) := by decide +kernel
theorem dX1_longestRow_144 : decode cX1_longestRow 144 = .ok (.ireturn, 1) := by decide +kernel
theorem dX1_longestRow_33 : decode cX1_longestRow 33 = .ok (.iconst 0, 1) := by decide +kernel
theorem dX1_longestRow_34 : decode cX1_longestRow 34 = .ok (.istore 4, 2) := by decide +kernel
theorem dX1_longestRow_36 : decode cX1_longestRow 36 = .ok (.iconst 0, 1) := by decide +kernel
theorem dX1_longestRow_37 : decode cX1_longestRow 37 = .ok (.istore 5, 2) := by decide +kernel
theorem dX1_longestRow_39 : decode cX1_longestRow 39 = .ok (.iload 5, 2) := by decide +kernel
theorem dX1_longestRow_41 : decode cX1_longestRow 41 = .ok (.aload_n 2, 1) := by decide +kernel
theorem dX1_longestRow_42 : decode cX1_longestRow 42 = .ok (.getfield 15, 3) := by decide +kernel
theorem dX1_longestRow_45 : decode cX1_longestRow 45 = .ok (.if_icmp .ge 84, 3) := by decide +kernel
theorem dX1_longestRow_129 : decode cX1_longestRow 129 = .ok (.iinc 3 1, 3) := by decide +kernel
theorem dX1_longestRow_132 : decode cX1_longestRow 132 = .ok (.goto (-107), 3) := by decide +kernel
theorem dX1_longestRow_48 : decode cX1_longestRow 48 = .ok (.aload_n 0, 1) := by decide +kernel
theorem dX1_longestRow_49 : decode cX1_longestRow 49 = .ok (.getfield 9, 3) := by decide +kernel
theorem dX1_longestRow_52 : decode cX1_longestRow 52 = .ok (.iload 5, 2) := by decide +kernel
theorem dX1_longestRow_54 : decode cX1_longestRow 54 = .ok (.iconst 1, 1) := by decide +kernel
theorem dX1_longestRow_55 : decode cX1_longestRow 55 = .ok (.iadd, 1) := by decide +kernel
theorem dX1_longestRow_56 : decode cX1_longestRow 56 = .ok (.iaload, 1) := by decide +kernel
theorem dX1_longestRow_57 : decode cX1_longestRow 57 = .ok (.istore 6, 2) := by decide +kernel
theorem dX1_longestRow_59 : decode cX1_longestRow 59 = .ok (.aload_n 1, 1) := by decide +kernel
theorem dX1_longestRow_60 : decode cX1_longestRow 60 = .ok (.getfield 21, 3) := by decide +kernel
theorem dX1_longestRow_63 : decode cX1_longestRow 63 = .ok (.iconst 0, 1) := by decide +kernel
theorem dX1_longestRow_64 : decode cX1_longestRow 64 = .ok (.iload_n 3, 1) := by decide +kernel
theorem dX1_longestRow_65 : decode cX1_longestRow 65 = .ok (.iadd, 1) := by decide +kernel
theorem dX1_longestRow_66 : decode cX1_longestRow 66 = .ok (.iaload, 1) := by decide +kernel
theorem dX1_longestRow_67 : decode cX1_longestRow 67 = .ok (.aload_n 2, 1) := by decide +kernel
theorem dX1_longestRow_68 : decode cX1_longestRow 68 = .ok (.getfield 21, 3) := by decide +kernel
theorem dX1_longestRow_71 : decode cX1_longestRow 71 = .ok (.iconst 0, 1) := by decide +kernel
theorem dX1_longestRow_72 : decode cX1_longestRow 72 = .ok (.iload 5, 2) := by decide +kernel
theorem dX1_longestRow_74 : decode cX1_longestRow 74 = .ok (.iadd, 1) := by decide +kernel
theorem dX1_longestRow_75 : decode cX1_longestRow 75 = .ok (.iaload, 1) := by decide +kernel
theorem dX1_longestRow_76 : decode cX1_longestRow 76 = .ok (.if_icmp .ne 7, 3) := by decide +kernel
theorem dX1_longestRow_83 : decode cX1_longestRow 83 = .ok (.iconst 0, 1) := by decide +kernel
theorem dX1_longestRow_84 : decode cX1_longestRow 84 = .ok (.istore 7, 2) := by decide +kernel
theorem dX1_longestRow_86 : decode cX1_longestRow 86 = .ok (.aload_n 0, 1) := by decide +kernel
theorem dX1_longestRow_87 : decode cX1_longestRow 87 = .ok (.getfield 9, 3) := by decide +kernel
theorem dX1_longestRow_90 : decode cX1_longestRow 90 = .ok (.iload 5, 2) := by decide +kernel
theorem dX1_longestRow_92 : decode cX1_longestRow 92 = .ok (.iconst 1, 1) := by decide +kernel
theorem dX1_longestRow_93 : decode cX1_longestRow 93 = .ok (.iadd, 1) := by decide +kernel
theorem dX1_longestRow_94 : decode cX1_longestRow 94 = .ok (.iload 7, 2) := by decide +kernel
theorem dX1_longestRow_96 : decode cX1_longestRow 96 = .ok (.ifCond .eq 10, 3) := by decide +kernel
theorem dX1_longestRow_106 : decode cX1_longestRow 106 = .ok (.iload 6, 2) := by decide +kernel
theorem dX1_longestRow_108 : decode cX1_longestRow 108 = .ok (.aload_n 0, 1) := by decide +kernel
theorem dX1_longestRow_109 : decode cX1_longestRow 109 = .ok (.getfield 9, 3) := by decide +kernel
theorem dX1_longestRow_112 : decode cX1_longestRow 112 = .ok (.iload 5, 2) := by decide +kernel
theorem dX1_longestRow_114 : decode cX1_longestRow 114 = .ok (.iaload, 1) := by decide +kernel
theorem dX1_longestRow_115 : decode cX1_longestRow 115 = .ok (.invokestatic 24, 3) := by decide +kernel
theorem dX1_longestRow_118 : decode cX1_longestRow 118 = .ok (.iastore, 1) := by decide +kernel
theorem dX1_longestRow_119 : decode cX1_longestRow 119 = .ok (.iload 6, 2) := by decide +kernel
theorem dX1_longestRow_121 : decode cX1_longestRow 121 = .ok (.istore 4, 2) := by decide +kernel
theorem dX1_longestRow_123 : decode cX1_longestRow 123 = .ok (.iinc 5 1, 3) := by decide +kernel
theorem dX1_longestRow_126 : decode cX1_longestRow 126 = .ok (.goto (-87), 3) := by decide +kernel
theorem dX1_longestRow_79 : decode cX1_longestRow 79 = .ok (.iconst 1, 1) := by decide +kernel
theorem dX1_longestRow_80 : decode cX1_longestRow 80 = .ok (.goto 4, 3) := by decide +kernel
theorem dX1_longestRow_99 : decode cX1_longestRow 99 = .ok (.iload 4, 2) := by decide +kernel
theorem dX1_longestRow_101 : decode cX1_longestRow 101 = .ok (.iconst 1, 1) := by decide +kernel
theorem dX1_longestRow_102 : decode cX1_longestRow 102 = .ok (.iadd, 1) := by decide +kernel
theorem dX1_longestRow_103 : decode cX1_longestRow 103 = .ok (.goto 15, 3) := by decide +kernel
theorem dX1_longestRow_2 : decode cX1_longestRow 2 = .ok (.iload_n 3, 1) := by decide +kernel
theorem dX1_longestRow_3 : decode cX1_longestRow 3 = .ok (.aload_n 2, 1) := by decide +kernel
theorem dX1_longestRow_4 : decode cX1_longestRow 4 = .ok (.getfield 15, 3) := by decide +kernel
theorem dX1_longestRow_7 : decode cX1_longestRow 7 = .ok (.if_icmp .gt 16, 3) := by decide +kernel
theorem dX1_longestRow_23 : decode cX1_longestRow 23 = .ok (.iconst 0, 1) := by decide +kernel
theorem dX1_longestRow_24 : decode cX1_longestRow 24 = .ok (.istore_n 3, 1) := by decide +kernel
theorem dX1_longestRow_10 : decode cX1_longestRow 10 = .ok (.aload_n 0, 1) := by decide +kernel
theorem dX1_longestRow_11 : decode cX1_longestRow 11 = .ok (.getfield 9, 3) := by decide +kernel
theorem dX1_longestRow_14 : decode cX1_longestRow 14 = .ok (.iload_n 3, 1) := by decide +kernel
theorem dX1_longestRow_15 : decode cX1_longestRow 15 = .ok (.iconst 0, 1) := by decide +kernel
theorem dX1_longestRow_16 : decode cX1_longestRow 16 = .ok (.iastore, 1) := by decide +kernel
theorem dX1_longestRow_17 : decode cX1_longestRow 17 = .ok (.iinc 3 1, 3) := by decide +kernel
theorem dX1_longestRow_20 : decode cX1_longestRow 20 = .ok (.goto (-18), 3) := by decide +kernel
theorem dX1_longestRow_0 : decode cX1_longestRow 0 = .ok (.iconst 0, 1) := by decide +kernel
theorem dX1_longestRow_1 : decode cX1_longestRow 1 = .ok (.istore_n 3, 1) := by decide +kernel
theorem dX1_fewestSteps_25 : decode cX1_fewestSteps 25 = .ok (.iload_n 3, 1) := by decide +kernel
theorem dX1_fewestSteps_26 : decode cX1_fewestSteps 26 = .ok (.aload_n 1, 1) := by decide +kernel
theorem dX1_fewestSteps_27 : decode cX1_fewestSteps 27 = .ok (.getfield 15, 3) := by decide +kernel
theorem dX1_fewestSteps_30 : decode cX1_fewestSteps 30 = .ok (.if_icmp .ge 130, 3) := by decide +kernel
theorem dX1_fewestSteps_160 : decode cX1_fewestSteps 160 = .ok (.aload_n 0, 1) := by decide +kernel
theorem dX1_fewestSteps_161 : decode cX1_fewestSteps 161 = .ok (.getfield 9, 3) := by decide +kernel
theorem dX1_fewestSteps_164 : decode cX1_fewestSteps 164 = .ok (.aload_n 2, 1) := by decide +kernel
theorem dX1_fewestSteps_165 : decode cX1_fewestSteps 165 = .ok (.getfield 15, 3) := by decide +kernel
theorem dX1_fewestSteps_168 : decode cX1_fewestSteps 168 = .ok (.iaload, 1) := by decide +kernel
theorem dX1_fewestSteps_169 : decode cX1_fewestSteps 169 = .ok (.ireturn, 1) := by decide +kernel
theorem dX1_fewestSteps_33 : decode cX1_fewestSteps 33 = .ok (.aload_n 0, 1) := by decide +kernel
theorem dX1_fewestSteps_34 : decode cX1_fewestSteps 34 = .ok (.getfield 9, 3) := by decide +kernel
theorem dX1_fewestSteps_37 : decode cX1_fewestSteps 37 = .ok (.iconst 0, 1) := by decide +kernel
theorem dX1_fewestSteps_38 : decode cX1_fewestSteps 38 = .ok (.iaload, 1) := by decide +kernel
theorem dX1_fewestSteps_39 : decode cX1_fewestSteps 39 = .ok (.istore 4, 2) := by decide +kernel
theorem dX1_fewestSteps_41 : decode cX1_fewestSteps 41 = .ok (.aload_n 0, 1) := by decide +kernel
theorem dX1_fewestSteps_42 : decode cX1_fewestSteps 42 = .ok (.getfield 9, 3) := by decide +kernel
theorem dX1_fewestSteps_45 : decode cX1_fewestSteps 45 = .ok (.iconst 0, 1) := by decide +kernel
theorem dX1_fewestSteps_46 : decode cX1_fewestSteps 46 = .ok (.iload_n 3, 1) := by decide +kernel
theorem dX1_fewestSteps_47 : decode cX1_fewestSteps 47 = .ok (.iconst 1, 1) := by decide +kernel
theorem dX1_fewestSteps_48 : decode cX1_fewestSteps 48 = .ok (.iadd, 1) := by decide +kernel
theorem dX1_fewestSteps_49 : decode cX1_fewestSteps 49 = .ok (.iastore, 1) := by decide +kernel
theorem dX1_fewestSteps_50 : decode cX1_fewestSteps 50 = .ok (.iconst 0, 1) := by decide +kernel
theorem dX1_fewestSteps_51 : decode cX1_fewestSteps 51 = .ok (.istore 5, 2) := by decide +kernel
theorem dX1_fewestSteps_53 : decode cX1_fewestSteps 53 = .ok (.iload 5, 2) := by decide +kernel
theorem dX1_fewestSteps_55 : decode cX1_fewestSteps 55 = .ok (.aload_n 2, 1) := by decide +kernel
theorem dX1_fewestSteps_56 : decode cX1_fewestSteps 56 = .ok (.getfield 15, 3) := by decide +kernel
theorem dX1_fewestSteps_59 : decode cX1_fewestSteps 59 = .ok (.if_icmp .ge 95, 3) := by decide +kernel
theorem dX1_fewestSteps_154 : decode cX1_fewestSteps 154 = .ok (.iinc 3 1, 3) := by decide +kernel
theorem dX1_fewestSteps_157 : decode cX1_fewestSteps 157 = .ok (.goto (-132), 3) := by decide +kernel
theorem dX1_fewestSteps_62 : decode cX1_fewestSteps 62 = .ok (.aload_n 0, 1) := by decide +kernel
theorem dX1_fewestSteps_63 : decode cX1_fewestSteps 63 = .ok (.getfield 9, 3) := by decide +kernel
theorem dX1_fewestSteps_66 : decode cX1_fewestSteps 66 = .ok (.iload 5, 2) := by decide +kernel
theorem dX1_fewestSteps_68 : decode cX1_fewestSteps 68 = .ok (.iconst 1, 1) := by decide +kernel
theorem dX1_fewestSteps_69 : decode cX1_fewestSteps 69 = .ok (.iadd, 1) := by decide +kernel
theorem dX1_fewestSteps_70 : decode cX1_fewestSteps 70 = .ok (.iaload, 1) := by decide +kernel
theorem dX1_fewestSteps_71 : decode cX1_fewestSteps 71 = .ok (.istore 6, 2) := by decide +kernel
theorem dX1_fewestSteps_73 : decode cX1_fewestSteps 73 = .ok (.aload_n 1, 1) := by decide +kernel
theorem dX1_fewestSteps_74 : decode cX1_fewestSteps 74 = .ok (.getfield 21, 3) := by decide +kernel
theorem dX1_fewestSteps_77 : decode cX1_fewestSteps 77 = .ok (.iconst 0, 1) := by decide +kernel
theorem dX1_fewestSteps_78 : decode cX1_fewestSteps 78 = .ok (.iload_n 3, 1) := by decide +kernel
theorem dX1_fewestSteps_79 : decode cX1_fewestSteps 79 = .ok (.iadd, 1) := by decide +kernel
theorem dX1_fewestSteps_80 : decode cX1_fewestSteps 80 = .ok (.iaload, 1) := by decide +kernel
theorem dX1_fewestSteps_81 : decode cX1_fewestSteps 81 = .ok (.aload_n 2, 1) := by decide +kernel
theorem dX1_fewestSteps_82 : decode cX1_fewestSteps 82 = .ok (.getfield 21, 3) := by decide +kernel
theorem dX1_fewestSteps_85 : decode cX1_fewestSteps 85 = .ok (.iconst 0, 1) := by decide +kernel
theorem dX1_fewestSteps_86 : decode cX1_fewestSteps 86 = .ok (.iload 5, 2) := by decide +kernel
theorem dX1_fewestSteps_88 : decode cX1_fewestSteps 88 = .ok (.iadd, 1) := by decide +kernel
theorem dX1_fewestSteps_89 : decode cX1_fewestSteps 89 = .ok (.iaload, 1) := by decide +kernel
theorem dX1_fewestSteps_90 : decode cX1_fewestSteps 90 = .ok (.if_icmp .ne 7, 3) := by decide +kernel
theorem dX1_fewestSteps_97 : decode cX1_fewestSteps 97 = .ok (.iconst 0, 1) := by decide +kernel
theorem dX1_fewestSteps_98 : decode cX1_fewestSteps 98 = .ok (.istore 7, 2) := by decide +kernel
theorem dX1_fewestSteps_100 : decode cX1_fewestSteps 100 = .ok (.iload 7, 2) := by decide +kernel
theorem dX1_fewestSteps_102 : decode cX1_fewestSteps 102 = .ok (.ifCond .eq 8, 3) := by decide +kernel
theorem dX1_fewestSteps_110 : decode cX1_fewestSteps 110 = .ok (.iload 4, 2) := by decide +kernel
theorem dX1_fewestSteps_112 : decode cX1_fewestSteps 112 = .ok (.iconst 1, 1) := by decide +kernel
theorem dX1_fewestSteps_113 : decode cX1_fewestSteps 113 = .ok (.iadd, 1) := by decide +kernel
theorem dX1_fewestSteps_114 : decode cX1_fewestSteps 114 = .ok (.istore 8, 2) := by decide +kernel
theorem dX1_fewestSteps_116 : decode cX1_fewestSteps 116 = .ok (.aload_n 0, 1) := by decide +kernel
theorem dX1_fewestSteps_117 : decode cX1_fewestSteps 117 = .ok (.getfield 9, 3) := by decide +kernel
theorem dX1_fewestSteps_120 : decode cX1_fewestSteps 120 = .ok (.iload 5, 2) := by decide +kernel
theorem dX1_fewestSteps_122 : decode cX1_fewestSteps 122 = .ok (.iconst 1, 1) := by decide +kernel
theorem dX1_fewestSteps_123 : decode cX1_fewestSteps 123 = .ok (.iadd, 1) := by decide +kernel
theorem dX1_fewestSteps_124 : decode cX1_fewestSteps 124 = .ok (.iload 8, 2) := by decide +kernel
theorem dX1_fewestSteps_126 : decode cX1_fewestSteps 126 = .ok (.iload 6, 2) := by decide +kernel
theorem dX1_fewestSteps_128 : decode cX1_fewestSteps 128 = .ok (.aload_n 0, 1) := by decide +kernel
theorem dX1_fewestSteps_129 : decode cX1_fewestSteps 129 = .ok (.getfield 9, 3) := by decide +kernel
theorem dX1_fewestSteps_132 : decode cX1_fewestSteps 132 = .ok (.iload 5, 2) := by decide +kernel
theorem dX1_fewestSteps_134 : decode cX1_fewestSteps 134 = .ok (.iaload, 1) := by decide +kernel
theorem dX1_fewestSteps_135 : decode cX1_fewestSteps 135 = .ok (.invokestatic 30, 3) := by decide +kernel
theorem dX1_fewestSteps_138 : decode cX1_fewestSteps 138 = .ok (.iconst 1, 1) := by decide +kernel
theorem dX1_fewestSteps_139 : decode cX1_fewestSteps 139 = .ok (.iadd, 1) := by decide +kernel
theorem dX1_fewestSteps_140 : decode cX1_fewestSteps 140 = .ok (.invokestatic 30, 3) := by decide +kernel
theorem dX1_fewestSteps_143 : decode cX1_fewestSteps 143 = .ok (.iastore, 1) := by decide +kernel
theorem dX1_fewestSteps_144 : decode cX1_fewestSteps 144 = .ok (.iload 6, 2) := by decide +kernel
theorem dX1_fewestSteps_146 : decode cX1_fewestSteps 146 = .ok (.istore 4, 2) := by decide +kernel
theorem dX1_fewestSteps_148 : decode cX1_fewestSteps 148 = .ok (.iinc 5 1, 3) := by decide +kernel
theorem dX1_fewestSteps_151 : decode cX1_fewestSteps 151 = .ok (.goto (-98), 3) := by decide +kernel
theorem dX1_fewestSteps_93 : decode cX1_fewestSteps 93 = .ok (.iconst 1, 1) := by decide +kernel
theorem dX1_fewestSteps_94 : decode cX1_fewestSteps 94 = .ok (.goto 4, 3) := by decide +kernel
theorem dX1_fewestSteps_105 : decode cX1_fewestSteps 105 = .ok (.iload 4, 2) := by decide +kernel
theorem dX1_fewestSteps_107 : decode cX1_fewestSteps 107 = .ok (.goto 7, 3) := by decide +kernel
theorem dX1_fewestSteps_2 : decode cX1_fewestSteps 2 = .ok (.iload_n 3, 1) := by decide +kernel
theorem dX1_fewestSteps_3 : decode cX1_fewestSteps 3 = .ok (.aload_n 2, 1) := by decide +kernel
theorem dX1_fewestSteps_4 : decode cX1_fewestSteps 4 = .ok (.getfield 15, 3) := by decide +kernel
theorem dX1_fewestSteps_7 : decode cX1_fewestSteps 7 = .ok (.if_icmp .gt 16, 3) := by decide +kernel
theorem dX1_fewestSteps_23 : decode cX1_fewestSteps 23 = .ok (.iconst 0, 1) := by decide +kernel
theorem dX1_fewestSteps_24 : decode cX1_fewestSteps 24 = .ok (.istore_n 3, 1) := by decide +kernel
theorem dX1_fewestSteps_10 : decode cX1_fewestSteps 10 = .ok (.aload_n 0, 1) := by decide +kernel
theorem dX1_fewestSteps_11 : decode cX1_fewestSteps 11 = .ok (.getfield 9, 3) := by decide +kernel
theorem dX1_fewestSteps_14 : decode cX1_fewestSteps 14 = .ok (.iload_n 3, 1) := by decide +kernel
theorem dX1_fewestSteps_15 : decode cX1_fewestSteps 15 = .ok (.iload_n 3, 1) := by decide +kernel
theorem dX1_fewestSteps_16 : decode cX1_fewestSteps 16 = .ok (.iastore, 1) := by decide +kernel
theorem dX1_fewestSteps_17 : decode cX1_fewestSteps 17 = .ok (.iinc 3 1, 3) := by decide +kernel
theorem dX1_fewestSteps_20 : decode cX1_fewestSteps 20 = .ok (.goto (-18), 3) := by decide +kernel
theorem dX1_fewestSteps_0 : decode cX1_fewestSteps 0 = .ok (.iconst 0, 1) := by decide +kernel
theorem dX1_fewestSteps_1 : decode cX1_fewestSteps 1 = .ok (.istore_n 3, 1) := by decide +kernel
