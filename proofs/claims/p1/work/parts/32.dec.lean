-- decode rows of hour
theorem dX5_airAt_0 : decode cX5_airAt 0 = .ok (.aload_n 0, 1) := by decide +kernel
theorem dX5_airAt_1 : decode cX5_airAt 1 = .ok (.getfield 15, 3) := by decide +kernel
theorem dX5_airAt_4 : decode cX5_airAt 4 = .ok (.ifCond .ne 10, 3) := by decide +kernel
theorem dX5_airAt_7 : decode cX5_airAt 7 = .ok (.aload_n 0, 1) := by decide +kernel
theorem dX5_airAt_8 : decode cX5_airAt 8 = .ok (.getfield 18, 3) := by decide +kernel
theorem dX5_airAt_11 : decode cX5_airAt 11 = .ok (.goto 16, 3) := by decide +kernel
theorem dX5_airAt_27 : decode cX5_airAt 27 = .ok (.ireturn, 1) := by decide +kernel
theorem dX5_fallAt_0 : decode cX5_fallAt 0 = .ok (.aload_n 0, 1) := by decide +kernel
theorem dX5_fallAt_1 : decode cX5_fallAt 1 = .ok (.getfield 15, 3) := by decide +kernel
theorem dX5_fallAt_4 : decode cX5_fallAt 4 = .ok (.ifCond .ne 7, 3) := by decide +kernel
theorem dX5_fallAt_7 : decode cX5_fallAt 7 = .ok (.iconst 0, 1) := by decide +kernel
theorem dX5_fallAt_8 : decode cX5_fallAt 8 = .ok (.goto 16, 3) := by decide +kernel
theorem dX5_fallAt_24 : decode cX5_fallAt 24 = .ok (.ireturn, 1) := by decide +kernel
theorem dX5_muchAt_0 : decode cX5_muchAt 0 = .ok (.aload_n 0, 1) := by decide +kernel
theorem dX5_muchAt_1 : decode cX5_muchAt 1 = .ok (.getfield 15, 3) := by decide +kernel
theorem dX5_muchAt_4 : decode cX5_muchAt 4 = .ok (.ifCond .ne 7, 3) := by decide +kernel
theorem dX5_muchAt_7 : decode cX5_muchAt 7 = .ok (.iconst 0, 1) := by decide +kernel
theorem dX5_muchAt_8 : decode cX5_muchAt 8 = .ok (.goto 16, 3) := by decide +kernel
theorem dX5_muchAt_24 : decode cX5_muchAt 24 = .ok (.ireturn, 1) := by decide +kernel
theorem dX5_allSlopes_0 : decode cX5_allSlopes 0 = .ok (.iconst 1, 1) := by decide +kernel
theorem dX5_allSlopes_1 : decode cX5_allSlopes 1 = .ok (.aload_n 0, 1) := by decide +kernel
theorem dX5_allSlopes_2 : decode cX5_allSlopes 2 = .ok (.getfield 9, 3) := by decide +kernel
theorem dX5_allSlopes_5 : decode cX5_allSlopes 5 = .ok (.ishl, 1) := by decide +kernel
theorem dX5_allSlopes_6 : decode cX5_allSlopes 6 = .ok (.iconst 1, 1) := by decide +kernel
theorem dX5_allSlopes_7 : decode cX5_allSlopes 7 = .ok (.isub, 1) := by decide +kernel
theorem dX5_allSlopes_8 : decode cX5_allSlopes 8 = .ok (.ireturn, 1) := by decide +kernel
theorem dX8_hour_0 : decode cX8_hour 0 = .ok (.aload_n 1, 1) := by decide +kernel
theorem dX8_hour_1 : decode cX8_hour 1 = .ok (.aload_n 0, 1) := by decide +kernel
theorem dX8_hour_2 : decode cX8_hour 2 = .ok (.getfield 9, 3) := by decide +kernel
theorem dX8_hour_5 : decode cX8_hour 5 = .ok (.invokevirtual 58, 3) := by decide +kernel
theorem dX8_hour_8 : decode cX8_hour 8 = .ok (.istore 4, 2) := by decide +kernel
theorem dX8_hour_10 : decode cX8_hour 10 = .ok (.iload_n 3, 1) := by decide +kernel
theorem dX8_hour_11 : decode cX8_hour 11 = .ok (.ifCond .eq 14, 3) := by decide +kernel
theorem dX8_hour_14 : decode cX8_hour 14 = .ok (.aload_n 1, 1) := by decide +kernel
theorem dX8_hour_15 : decode cX8_hour 15 = .ok (.aload_n 0, 1) := by decide +kernel
theorem dX8_hour_16 : decode cX8_hour 16 = .ok (.getfield 9, 3) := by decide +kernel
theorem dX8_hour_19 : decode cX8_hour 19 = .ok (.invokevirtual 63, 3) := by decide +kernel
theorem dX8_hour_22 : decode cX8_hour 22 = .ok (.goto 4, 3) := by decide +kernel
theorem dX8_hour_26 : decode cX8_hour 26 = .ok (.istore 5, 2) := by decide +kernel
theorem dX8_hour_28 : decode cX8_hour 28 = .ok (.aload_n 1, 1) := by decide +kernel
theorem dX8_hour_29 : decode cX8_hour 29 = .ok (.aload_n 0, 1) := by decide +kernel
theorem dX8_hour_30 : decode cX8_hour 30 = .ok (.getfield 9, 3) := by decide +kernel
theorem dX8_hour_33 : decode cX8_hour 33 = .ok (.invokevirtual 66, 3) := by decide +kernel
theorem dX8_hour_36 : decode cX8_hour 36 = .ok (.istore 6, 2) := by decide +kernel
theorem dX8_hour_38 : decode cX8_hour 38 = .ok (.iconst 0, 1) := by decide +kernel
theorem dX8_hour_39 : decode cX8_hour 39 = .ok (.istore 7, 2) := by decide +kernel
theorem dX8_hour_41 : decode cX8_hour 41 = .ok (.iload 7, 2) := by decide +kernel
theorem dX8_hour_43 : decode cX8_hour 43 = .ok (.aload_n 1, 1) := by decide +kernel
theorem dX8_hour_44 : decode cX8_hour 44 = .ok (.getfield 69, 3) := by decide +kernel
theorem dX8_hour_47 : decode cX8_hour 47 = .ok (.if_icmp .ge 94, 3) := by decide +kernel
theorem dX8_hour_141 : decode cX8_hour 141 = .ok (.aload_n 0, 1) := by decide +kernel
theorem dX8_hour_142 : decode cX8_hour 142 = .ok (.dup, 1) := by decide +kernel
theorem dX8_hour_143 : decode cX8_hour 143 = .ok (.getfield 9, 3) := by decide +kernel
theorem dX8_hour_146 : decode cX8_hour 146 = .ok (.iconst 1, 1) := by decide +kernel
theorem dX8_hour_147 : decode cX8_hour 147 = .ok (.iadd, 1) := by decide +kernel
theorem dX8_hour_148 : decode cX8_hour 148 = .ok (.putfield 9, 3) := by decide +kernel
theorem dX8_hour_151 : decode cX8_hour 151 = .ok (.return_, 1) := by decide +kernel
theorem dX5_copyFrom_0 : decode cX5_copyFrom 0 = .ok (.aload_n 0, 1) := by decide +kernel
theorem dX5_copyFrom_1 : decode cX5_copyFrom 1 = .ok (.aload_n 1, 1) := by decide +kernel
theorem dX5_copyFrom_2 : decode cX5_copyFrom 2 = .ok (.getfield 9, 3) := by decide +kernel
theorem dX5_copyFrom_5 : decode cX5_copyFrom 5 = .ok (.putfield 9, 3) := by decide +kernel
theorem dX5_copyFrom_8 : decode cX5_copyFrom 8 = .ok (.aload_n 0, 1) := by decide +kernel
theorem dX5_copyFrom_9 : decode cX5_copyFrom 9 = .ok (.aload_n 1, 1) := by decide +kernel
theorem dX5_copyFrom_10 : decode cX5_copyFrom 10 = .ok (.getfield 15, 3) := by decide +kernel
theorem dX5_copyFrom_13 : decode cX5_copyFrom 13 = .ok (.putfield 15, 3) := by decide +kernel
theorem dX5_copyFrom_16 : decode cX5_copyFrom 16 = .ok (.aload_n 0, 1) := by decide +kernel
theorem dX5_copyFrom_17 : decode cX5_copyFrom 17 = .ok (.aload_n 1, 1) := by decide +kernel
theorem dX5_copyFrom_18 : decode cX5_copyFrom 18 = .ok (.getfield 18, 3) := by decide +kernel
theorem dX5_copyFrom_21 : decode cX5_copyFrom 21 = .ok (.putfield 18, 3) := by decide +kernel
theorem dX5_copyFrom_24 : decode cX5_copyFrom 24 = .ok (.aload_n 1, 1) := by decide +kernel
theorem dX5_copyFrom_25 : decode cX5_copyFrom 25 = .ok (.getfield 21, 3) := by decide +kernel
theorem dX5_copyFrom_28 : decode cX5_copyFrom 28 = .ok (.iconst 0, 1) := by decide +kernel
theorem dX5_copyFrom_29 : decode cX5_copyFrom 29 = .ok (.aload_n 0, 1) := by decide +kernel
theorem dX5_copyFrom_30 : decode cX5_copyFrom 30 = .ok (.getfield 21, 3) := by decide +kernel
theorem dX5_copyFrom_33 : decode cX5_copyFrom 33 = .ok (.iconst 0, 1) := by decide +kernel
theorem dX5_copyFrom_34 : decode cX5_copyFrom 34 = .ok (.aload_n 0, 1) := by decide +kernel
theorem dX5_copyFrom_35 : decode cX5_copyFrom 35 = .ok (.getfield 21, 3) := by decide +kernel
theorem dX5_copyFrom_38 : decode cX5_copyFrom 38 = .ok (.arraylength, 1) := by decide +kernel
theorem dX5_copyFrom_39 : decode cX5_copyFrom 39 = .ok (.invokestatic 48, 3) := by decide +kernel
theorem dX5_copyFrom_42 : decode cX5_copyFrom 42 = .ok (.aload_n 1, 1) := by decide +kernel
theorem dX5_copyFrom_43 : decode cX5_copyFrom 43 = .ok (.getfield 25, 3) := by decide +kernel
theorem dX5_copyFrom_46 : decode cX5_copyFrom 46 = .ok (.iconst 0, 1) := by decide +kernel
theorem dX5_copyFrom_47 : decode cX5_copyFrom 47 = .ok (.aload_n 0, 1) := by decide +kernel
theorem dX5_copyFrom_48 : decode cX5_copyFrom 48 = .ok (.getfield 25, 3) := by decide +kernel
theorem dX5_copyFrom_51 : decode cX5_copyFrom 51 = .ok (.iconst 0, 1) := by decide +kernel
theorem dX5_copyFrom_52 : decode cX5_copyFrom 52 = .ok (.aload_n 0, 1) := by decide +kernel
theorem dX5_copyFrom_53 : decode cX5_copyFrom 53 = .ok (.getfield 25, 3) := by decide +kernel
theorem dX5_copyFrom_56 : decode cX5_copyFrom 56 = .ok (.arraylength, 1) := by decide +kernel
theorem dX5_copyFrom_57 : decode cX5_copyFrom 57 = .ok (.invokestatic 48, 3) := by decide +kernel
theorem dX5_copyFrom_60 : decode cX5_copyFrom 60 = .ok (.aload_n 1, 1) := by decide +kernel
theorem dX5_copyFrom_61 : decode cX5_copyFrom 61 = .ok (.getfield 28, 3) := by decide +kernel
theorem dX5_copyFrom_64 : decode cX5_copyFrom 64 = .ok (.iconst 0, 1) := by decide +kernel
theorem dX5_copyFrom_65 : decode cX5_copyFrom 65 = .ok (.aload_n 0, 1) := by decide +kernel
theorem dX5_copyFrom_66 : decode cX5_copyFrom 66 = .ok (.getfield 28, 3) := by decide +kernel
theorem dX5_copyFrom_69 : decode cX5_copyFrom 69 = .ok (.iconst 0, 1) := by decide +kernel
theorem dX5_copyFrom_70 : decode cX5_copyFrom 70 = .ok (.aload_n 0, 1) := by decide +kernel
theorem dX5_copyFrom_71 : decode cX5_copyFrom 71 = .ok (.getfield 28, 3) := by decide +kernel
theorem dX5_copyFrom_74 : decode cX5_copyFrom 74 = .ok (.arraylength, 1) := by decide +kernel
theorem dX5_copyFrom_75 : decode cX5_copyFrom 75 = .ok (.invokestatic 48, 3) := by decide +kernel
theorem dX5_copyFrom_78 : decode cX5_copyFrom 78 = .ok (.aload_n 1, 1) := by decide +kernel
theorem dX5_copyFrom_79 : decode cX5_copyFrom 79 = .ok (.getfield 31, 3) := by decide +kernel
theorem dX5_copyFrom_82 : decode cX5_copyFrom 82 = .ok (.iconst 0, 1) := by decide +kernel
theorem dX5_copyFrom_83 : decode cX5_copyFrom 83 = .ok (.aload_n 0, 1) := by decide +kernel
theorem dX5_copyFrom_84 : decode cX5_copyFrom 84 = .ok (.getfield 31, 3) := by decide +kernel
theorem dX5_copyFrom_87 : decode cX5_copyFrom 87 = .ok (.iconst 0, 1) := by decide +kernel
theorem dX5_copyFrom_88 : decode cX5_copyFrom 88 = .ok (.aload_n 0, 1) := by decide +kernel
theorem dX5_copyFrom_89 : decode cX5_copyFrom 89 = .ok (.getfield 31, 3) := by decide +kernel
theorem dX5_copyFrom_92 : decode cX5_copyFrom 92 = .ok (.arraylength, 1) := by decide +kernel
theorem dX5_copyFrom_93 : decode cX5_copyFrom 93 = .ok (.invokestatic 48, 3) := by decide +kernel
theorem dX5_copyFrom_96 : decode cX5_copyFrom 96 = .ok (.aload_n 1, 1) := by decide +kernel
theorem dX5_copyFrom_97 : decode cX5_copyFrom 97 = .ok (.getfield 34, 3) := by decide +kernel
theorem dX5_copyFrom_100 : decode cX5_copyFrom 100 = .ok (.iconst 0, 1) := by decide +kernel
theorem dX5_copyFrom_101 : decode cX5_copyFrom 101 = .ok (.aload_n 0, 1) := by decide +kernel
theorem dX5_copyFrom_102 : decode cX5_copyFrom 102 = .ok (.getfield 34, 3) := by decide +kernel
theorem dX5_copyFrom_105 : decode cX5_copyFrom 105 = .ok (.iconst 0, 1) := by decide +kernel
theorem dX5_copyFrom_106 : decode cX5_copyFrom 106 = .ok (.aload_n 0, 1) := by decide +kernel
theorem dX5_copyFrom_107 : decode cX5_copyFrom 107 = .ok (.getfield 34, 3) := by decide +kernel
theorem dX5_copyFrom_110 : decode cX5_copyFrom 110 = .ok (.arraylength, 1) := by decide +kernel
theorem dX5_copyFrom_111 : decode cX5_copyFrom 111 = .ok (.invokestatic 48, 3) := by decide +kernel
theorem dX5_copyFrom_114 : decode cX5_copyFrom 114 = .ok (.aload_n 1, 1) := by decide +kernel
theorem dX5_copyFrom_115 : decode cX5_copyFrom 115 = .ok (.getfield 45, 3) := by decide +kernel
theorem dX5_copyFrom_118 : decode cX5_copyFrom 118 = .ok (.iconst 0, 1) := by decide +kernel
theorem dX5_copyFrom_119 : decode cX5_copyFrom 119 = .ok (.aload_n 0, 1) := by decide +kernel
theorem dX5_copyFrom_120 : decode cX5_copyFrom 120 = .ok (.getfield 45, 3) := by decide +kernel
theorem dX5_copyFrom_123 : decode cX5_copyFrom 123 = .ok (.iconst 0, 1) := by decide +kernel
theorem dX5_copyFrom_124 : decode cX5_copyFrom 124 = .ok (.aload_n 0, 1) := by decide +kernel
theorem dX5_copyFrom_125 : decode cX5_copyFrom 125 = .ok (.getfield 45, 3) := by decide +kernel
theorem dX5_copyFrom_128 : decode cX5_copyFrom 128 = .ok (.arraylength, 1) := by decide +kernel
theorem dX5_copyFrom_129 : decode cX5_copyFrom 129 = .ok (.invokestatic 48, 3) := by decide +kernel
theorem dX5_copyFrom_132 : decode cX5_copyFrom 132 = .ok (.return_, 1) := by decide +kernel
