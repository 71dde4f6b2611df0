-- decode rows of rest
theorem dX0_clear_0 : decode cX0_clear 0 = .ok (.aload_n 0, 1) := by decide +kernel
theorem dX0_clear_1 : decode cX0_clear 1 = .ok (.iconst 0, 1) := by decide +kernel
theorem dX0_clear_2 : decode cX0_clear 2 = .ok (.putfield 9, 3) := by decide +kernel
theorem dX0_clear_5 : decode cX0_clear 5 = .ok (.aload_n 0, 1) := by decide +kernel
theorem dX0_clear_6 : decode cX0_clear 6 = .ok (.iconst (-1), 1) := by decide +kernel
theorem dX0_clear_7 : decode cX0_clear 7 = .ok (.putfield 15, 3) := by decide +kernel
theorem dX0_clear_10 : decode cX0_clear 10 = .ok (.iconst 0, 1) := by decide +kernel
theorem dX0_clear_11 : decode cX0_clear 11 = .ok (.istore_n 1, 1) := by decide +kernel
theorem dX0_clear_12 : decode cX0_clear 12 = .ok (.iload_n 1, 1) := by decide +kernel
theorem dX0_clear_13 : decode cX0_clear 13 = .ok (.aload_n 0, 1) := by decide +kernel
theorem dX0_clear_14 : decode cX0_clear 14 = .ok (.getfield 18, 3) := by decide +kernel
theorem dX0_clear_17 : decode cX0_clear 17 = .ok (.arraylength, 1) := by decide +kernel
theorem dX0_clear_18 : decode cX0_clear 18 = .ok (.if_icmp .ge 16, 3) := by decide +kernel
theorem dX0_clear_21 : decode cX0_clear 21 = .ok (.aload_n 0, 1) := by decide +kernel
theorem dX0_clear_22 : decode cX0_clear 22 = .ok (.getfield 18, 3) := by decide +kernel
theorem dX0_clear_25 : decode cX0_clear 25 = .ok (.iload_n 1, 1) := by decide +kernel
theorem dX0_clear_26 : decode cX0_clear 26 = .ok (.iconst 0, 1) := by decide +kernel
theorem dX0_clear_27 : decode cX0_clear 27 = .ok (.iastore, 1) := by decide +kernel
theorem dX0_clear_28 : decode cX0_clear 28 = .ok (.iinc 1 1, 3) := by decide +kernel
theorem dX0_clear_31 : decode cX0_clear 31 = .ok (.goto (-19), 3) := by decide +kernel
theorem dX0_clear_34 : decode cX0_clear 34 = .ok (.return_, 1) := by decide +kernel
theorem dX9_guessFalls_0 : decode cX9_guessFalls 0 = .ok (.aload_n 0, 1) := by decide +kernel
theorem dX9_guessFalls_1 : decode cX9_guessFalls 1 = .ok (.getfield 64, 3) := by decide +kernel
theorem dX9_guessFalls_4 : decode cX9_guessFalls 4 = .ok (.invokevirtual 434, 3) := by decide +kernel
theorem dX9_guessFalls_7 : decode cX9_guessFalls 7 = .ok (.aload_n 0, 1) := by decide +kernel
theorem dX9_guessFalls_8 : decode cX9_guessFalls 8 = .ok (.getfield 48, 3) := by decide +kernel
theorem dX9_guessFalls_11 : decode cX9_guessFalls 11 = .ok (.aload_n 0, 1) := by decide +kernel
theorem dX9_guessFalls_12 : decode cX9_guessFalls 12 = .ok (.getfield 30, 3) := by decide +kernel
theorem dX9_guessFalls_15 : decode cX9_guessFalls 15 = .ok (.invokevirtual 104, 3) := by decide +kernel
theorem dX9_guessFalls_18 : decode cX9_guessFalls 18 = .ok (.iconst 0, 1) := by decide +kernel
theorem dX9_guessFalls_19 : decode cX9_guessFalls 19 = .ok (.istore_n 2, 1) := by decide +kernel
theorem dX9_guessFalls_20 : decode cX9_guessFalls 20 = .ok (.iload_n 2, 1) := by decide +kernel
theorem dX9_guessFalls_21 : decode cX9_guessFalls 21 = .ok (.aload_n 0, 1) := by decide +kernel
theorem dX9_guessFalls_22 : decode cX9_guessFalls 22 = .ok (.getfield 30, 3) := by decide +kernel
theorem dX9_guessFalls_25 : decode cX9_guessFalls 25 = .ok (.getfield 118, 3) := by decide +kernel
theorem dX9_guessFalls_28 : decode cX9_guessFalls 28 = .ok (.if_icmp .ge 103, 3) := by decide +kernel
theorem dX9_guessFalls_131 : decode cX9_guessFalls 131 = .ok (.return_, 1) := by decide +kernel
theorem dX2_lastHour_0 : decode cX2_lastHour 0 = .ok (.iconst (-1), 1) := by decide +kernel
theorem dX2_lastHour_1 : decode cX2_lastHour 1 = .ok (.istore_n 1, 1) := by decide +kernel
theorem dX2_lastHour_2 : decode cX2_lastHour 2 = .ok (.iconst 0, 1) := by decide +kernel
theorem dX2_lastHour_3 : decode cX2_lastHour 3 = .ok (.istore_n 2, 1) := by decide +kernel
theorem dX2_lastHour_4 : decode cX2_lastHour 4 = .ok (.iload_n 2, 1) := by decide +kernel
theorem dX2_lastHour_5 : decode cX2_lastHour 5 = .ok (.aload_n 0, 1) := by decide +kernel
theorem dX2_lastHour_6 : decode cX2_lastHour 6 = .ok (.getfield 9, 3) := by decide +kernel
theorem dX2_lastHour_9 : decode cX2_lastHour 9 = .ok (.if_icmp .ge 20, 3) := by decide +kernel
theorem dX2_lastHour_29 : decode cX2_lastHour 29 = .ok (.iload_n 1, 1) := by decide +kernel
theorem dX2_lastHour_30 : decode cX2_lastHour 30 = .ok (.ireturn, 1) := by decide +kernel
theorem dX9_isNotedSo_0 : decode cX9_isNotedSo 0 = .ok (.aload_n 0, 1) := by decide +kernel
theorem dX9_isNotedSo_1 : decode cX9_isNotedSo 1 = .ok (.getfield 37, 3) := by decide +kernel
theorem dX9_isNotedSo_4 : decode cX9_isNotedSo 4 = .ok (.getfield 156, 3) := by decide +kernel
theorem dX9_isNotedSo_7 : decode cX9_isNotedSo 7 = .ok (.astore 6, 2) := by decide +kernel
theorem dX9_isNotedSo_9 : decode cX9_isNotedSo 9 = .ok (.iload 4, 2) := by decide +kernel
theorem dX9_isNotedSo_11 : decode cX9_isNotedSo 11 = .ok (.istore 7, 2) := by decide +kernel
theorem dX9_isNotedSo_13 : decode cX9_isNotedSo 13 = .ok (.iload 7, 2) := by decide +kernel
theorem dX9_isNotedSo_15 : decode cX9_isNotedSo 15 = .ok (.iload 5, 2) := by decide +kernel
theorem dX9_isNotedSo_17 : decode cX9_isNotedSo 17 = .ok (.if_icmp .gt 86, 3) := by decide +kernel
theorem dX9_isNotedSo_103 : decode cX9_isNotedSo 103 = .ok (.iconst 1, 1) := by decide +kernel
theorem dX9_isNotedSo_104 : decode cX9_isNotedSo 104 = .ok (.ireturn, 1) := by decide +kernel
theorem dX9_falls_0 : decode cX9_falls 0 = .ok (.iload_n 1, 1) := by decide +kernel
theorem dX9_falls_1 : decode cX9_falls 1 = .ok (.iconst 2, 1) := by decide +kernel
theorem dX9_falls_2 : decode cX9_falls 2 = .ok (.invokestatic 303, 3) := by decide +kernel
theorem dX9_falls_5 : decode cX9_falls 5 = .ok (.iload_n 1, 1) := by decide +kernel
theorem dX9_falls_6 : decode cX9_falls 6 = .ok (.iconst 2, 1) := by decide +kernel
theorem dX9_falls_7 : decode cX9_falls 7 = .ok (.if_icmp .ne 58, 3) := by decide +kernel
theorem dX9_falls_65 : decode cX9_falls 65 = .ok (.aload_n 0, 1) := by decide +kernel
theorem dX9_falls_66 : decode cX9_falls 66 = .ok (.iconst 0, 1) := by decide +kernel
theorem dX9_falls_67 : decode cX9_falls 67 = .ok (.invokevirtual 383, 3) := by decide +kernel
theorem dX9_falls_70 : decode cX9_falls 70 = .ok (.iload_n 1, 1) := by decide +kernel
theorem dX9_falls_71 : decode cX9_falls 71 = .ok (.ifCond .ne 13, 3) := by decide +kernel
theorem dX9_falls_84 : decode cX9_falls 84 = .ok (.aload_n 0, 1) := by decide +kernel
theorem dX9_falls_85 : decode cX9_falls 85 = .ok (.getfield 64, 3) := by decide +kernel
theorem dX9_falls_88 : decode cX9_falls 88 = .ok (.getfield 390, 3) := by decide +kernel
theorem dX9_falls_91 : decode cX9_falls 91 = .ok (.ireturn, 1) := by decide +kernel
theorem dX9_falls_74 : decode cX9_falls 74 = .ok (.aload_n 0, 1) := by decide +kernel
theorem dX9_falls_75 : decode cX9_falls 75 = .ok (.getfield 64, 3) := by decide +kernel
theorem dX9_falls_78 : decode cX9_falls 78 = .ok (.getfield 387, 3) := by decide +kernel
theorem dX9_falls_81 : decode cX9_falls 81 = .ok (.goto 10, 3) := by decide +kernel
theorem dX9_falls_10 : decode cX9_falls 10 = .ok (.aload_n 0, 1) := by decide +kernel
theorem dX9_falls_11 : decode cX9_falls 11 = .ok (.getfield 54, 3) := by decide +kernel
theorem dX9_falls_14 : decode cX9_falls 14 = .ok (.aload_n 0, 1) := by decide +kernel
theorem dX9_falls_15 : decode cX9_falls 15 = .ok (.getfield 37, 3) := by decide +kernel
theorem dX9_falls_18 : decode cX9_falls 18 = .ok (.getfield 112, 3) := by decide +kernel
theorem dX9_falls_21 : decode cX9_falls 21 = .ok (.invokevirtual 311, 3) := by decide +kernel
theorem dX9_falls_24 : decode cX9_falls 24 = .ok (.aload_n 0, 1) := by decide +kernel
theorem dX9_falls_25 : decode cX9_falls 25 = .ok (.aload_n 0, 1) := by decide +kernel
theorem dX9_falls_26 : decode cX9_falls 26 = .ok (.getfield 54, 3) := by decide +kernel
theorem dX9_falls_29 : decode cX9_falls 29 = .ok (.aload_n 0, 1) := by decide +kernel
theorem dX9_falls_30 : decode cX9_falls 30 = .ok (.getfield 30, 3) := by decide +kernel
theorem dX9_falls_33 : decode cX9_falls 33 = .ok (.aload_n 0, 1) := by decide +kernel
theorem dX9_falls_34 : decode cX9_falls 34 = .ok (.getfield 30, 3) := by decide +kernel
theorem dX9_falls_37 : decode cX9_falls 37 = .ok (.invokevirtual 261, 3) := by decide +kernel
theorem dX9_falls_40 : decode cX9_falls 40 = .ok (.iconst 0, 1) := by decide +kernel
theorem dX9_falls_41 : decode cX9_falls 41 = .ok (.aload_n 0, 1) := by decide +kernel
theorem dX9_falls_42 : decode cX9_falls 42 = .ok (.getfield 37, 3) := by decide +kernel
theorem dX9_falls_45 : decode cX9_falls 45 = .ok (.getfield 156, 3) := by decide +kernel
theorem dX9_falls_48 : decode cX9_falls 48 = .ok (.invokevirtual 376, 3) := by decide +kernel
theorem dX9_falls_51 : decode cX9_falls 51 = .ok (.invokevirtual 379, 3) := by decide +kernel
theorem dX9_falls_54 : decode cX9_falls 54 = .ok (.istore_n 2, 1) := by decide +kernel
theorem dX9_falls_55 : decode cX9_falls 55 = .ok (.iload_n 2, 1) := by decide +kernel
theorem dX9_falls_56 : decode cX9_falls 56 = .ok (.ifCond .eq 7, 3) := by decide +kernel
theorem dX9_falls_59 : decode cX9_falls 59 = .ok (.iconst 1, 1) := by decide +kernel
theorem dX9_falls_60 : decode cX9_falls 60 = .ok (.goto 4, 3) := by decide +kernel
theorem dX9_falls_64 : decode cX9_falls 64 = .ok (.ireturn, 1) := by decide +kernel
theorem dX9_look_0 : decode cX9_look 0 = .ok (.iload_n 1, 1) := by decide +kernel
theorem dX9_look_1 : decode cX9_look 1 = .ok (.iconst 1, 1) := by decide +kernel
theorem dX9_look_2 : decode cX9_look 2 = .ok (.invokestatic 303, 3) := by decide +kernel
theorem dX9_look_5 : decode cX9_look 5 = .ok (.aload_n 0, 1) := by decide +kernel
theorem dX9_look_6 : decode cX9_look 6 = .ok (.iconst 1, 1) := by decide +kernel
theorem dX9_look_7 : decode cX9_look 7 = .ok (.invokevirtual 383, 3) := by decide +kernel
theorem dX9_look_10 : decode cX9_look 10 = .ok (.iconst (-1), 1) := by decide +kernel
theorem dX9_look_11 : decode cX9_look 11 = .ok (.istore_n 2, 1) := by decide +kernel
theorem dX9_look_12 : decode cX9_look 12 = .ok (.iconst 0, 1) := by decide +kernel
theorem dX9_look_13 : decode cX9_look 13 = .ok (.istore_n 3, 1) := by decide +kernel
theorem dX9_look_14 : decode cX9_look 14 = .ok (.iconst 0, 1) := by decide +kernel
theorem dX9_look_15 : decode cX9_look 15 = .ok (.istore 4, 2) := by decide +kernel
theorem dX9_look_17 : decode cX9_look 17 = .ok (.iload 4, 2) := by decide +kernel
theorem dX9_look_19 : decode cX9_look 19 = .ok (.aload_n 0, 1) := by decide +kernel
theorem dX9_look_20 : decode cX9_look 20 = .ok (.getfield 30, 3) := by decide +kernel
theorem dX9_look_23 : decode cX9_look 23 = .ok (.getfield 115, 3) := by decide +kernel
theorem dX9_look_26 : decode cX9_look 26 = .ok (.if_icmp .ge 37, 3) := by decide +kernel
theorem dX9_look_63 : decode cX9_look 63 = .ok (.iload_n 1, 1) := by decide +kernel
theorem dX9_look_64 : decode cX9_look 64 = .ok (.ifCond .ne 7, 3) := by decide +kernel
theorem dX9_look_71 : decode cX9_look 71 = .ok (.iload_n 3, 1) := by decide +kernel
theorem dX9_look_72 : decode cX9_look 72 = .ok (.ireturn, 1) := by decide +kernel
theorem dX9_look_67 : decode cX9_look 67 = .ok (.iload_n 2, 1) := by decide +kernel
theorem dX9_look_68 : decode cX9_look 68 = .ok (.goto 4, 3) := by decide +kernel
theorem dX9_nextSeed_0 : decode cX9_nextSeed 0 = .ok (.iload_n 0, 1) := by decide +kernel
theorem dX9_nextSeed_1 : decode cX9_nextSeed 1 = .ok (.ldc_w 466, 3) := by decide +kernel
theorem dX9_nextSeed_4 : decode cX9_nextSeed 4 = .ok (.imul, 1) := by decide +kernel
theorem dX9_nextSeed_5 : decode cX9_nextSeed 5 = .ok (.sipush 12345, 3) := by decide +kernel
theorem dX9_nextSeed_8 : decode cX9_nextSeed 8 = .ok (.iadd, 1) := by decide +kernel
theorem dX9_nextSeed_9 : decode cX9_nextSeed 9 = .ok (.ireturn, 1) := by decide +kernel
theorem dX9_drawOf_0 : decode cX9_drawOf 0 = .ok (.iload_n 0, 1) := by decide +kernel
theorem dX9_drawOf_1 : decode cX9_drawOf 1 = .ok (.bipush 16, 2) := by decide +kernel
theorem dX9_drawOf_3 : decode cX9_drawOf 3 = .ok (.iushr, 1) := by decide +kernel
theorem dX9_drawOf_4 : decode cX9_drawOf 4 = .ok (.sipush 32767, 3) := by decide +kernel
theorem dX9_drawOf_7 : decode cX9_drawOf 7 = .ok (.iand, 1) := by decide +kernel
theorem dX9_drawOf_8 : decode cX9_drawOf 8 = .ok (.iload_n 1, 1) := by decide +kernel
theorem dX9_drawOf_9 : decode cX9_drawOf 9 = .ok (.iconst 1, 1) := by decide +kernel
theorem dX9_drawOf_10 : decode cX9_drawOf 10 = .ok (.invokestatic 467, 3) := by decide +kernel
theorem dX9_drawOf_13 : decode cX9_drawOf 13 = .ok (.irem, 1) := by decide +kernel
theorem dX9_drawOf_14 : decode cX9_drawOf 14 = .ok (.ireturn, 1) := by decide +kernel
theorem dX9_slideAll_0 : decode cX9_slideAll 0 = .ok (.iconst 0, 1) := by decide +kernel
theorem dX9_slideAll_1 : decode cX9_slideAll 1 = .ok (.istore_n 1, 1) := by decide +kernel
theorem dX9_slideAll_2 : decode cX9_slideAll 2 = .ok (.iload_n 1, 1) := by decide +kernel
theorem dX9_slideAll_3 : decode cX9_slideAll 3 = .ok (.aload_n 0, 1) := by decide +kernel
theorem dX9_slideAll_4 : decode cX9_slideAll 4 = .ok (.getfield 30, 3) := by decide +kernel
theorem dX9_slideAll_7 : decode cX9_slideAll 7 = .ok (.getfield 115, 3) := by decide +kernel
theorem dX9_slideAll_10 : decode cX9_slideAll 10 = .ok (.if_icmp .ge 34, 3) := by decide +kernel
theorem dX9_slideAll_44 : decode cX9_slideAll 44 = .ok (.return_, 1) := by decide +kernel
theorem dX9_yearGoesBy_0 : decode cX9_yearGoesBy 0 = .ok (.iload_n 1, 1) := by decide +kernel
theorem dX9_yearGoesBy_1 : decode cX9_yearGoesBy 1 = .ok (.invokestatic 457, 3) := by decide +kernel
theorem dX9_yearGoesBy_4 : decode cX9_yearGoesBy 4 = .ok (.istore_n 2, 1) := by decide +kernel
theorem dX9_yearGoesBy_5 : decode cX9_yearGoesBy 5 = .ok (.iload_n 2, 1) := by decide +kernel
theorem dX9_yearGoesBy_6 : decode cX9_yearGoesBy 6 = .ok (.bipush 6, 2) := by decide +kernel
theorem dX9_yearGoesBy_8 : decode cX9_yearGoesBy 8 = .ok (.invokestatic 460, 3) := by decide +kernel
theorem dX9_yearGoesBy_11 : decode cX9_yearGoesBy 11 = .ok (.istore_n 3, 1) := by decide +kernel
theorem dX9_yearGoesBy_12 : decode cX9_yearGoesBy 12 = .ok (.iload_n 3, 1) := by decide +kernel
theorem dX9_yearGoesBy_13 : decode cX9_yearGoesBy 13 = .ok (.iconst 1, 1) := by decide +kernel
theorem dX9_yearGoesBy_14 : decode cX9_yearGoesBy 14 = .ok (.if_icmp .gt 56, 3) := by decide +kernel
theorem dX9_yearGoesBy_70 : decode cX9_yearGoesBy 70 = .ok (.iload_n 3, 1) := by decide +kernel
theorem dX9_yearGoesBy_71 : decode cX9_yearGoesBy 71 = .ok (.iconst 5, 1) := by decide +kernel
theorem dX9_yearGoesBy_72 : decode cX9_yearGoesBy 72 = .ok (.if_icmp .ne 10, 3) := by decide +kernel
theorem dX9_yearGoesBy_82 : decode cX9_yearGoesBy 82 = .ok (.aload_n 0, 1) := by decide +kernel
theorem dX9_yearGoesBy_83 : decode cX9_yearGoesBy 83 = .ok (.getfield 30, 3) := by decide +kernel
theorem dX9_yearGoesBy_86 : decode cX9_yearGoesBy 86 = .ok (.getfield 115, 3) := by decide +kernel
theorem dX9_yearGoesBy_89 : decode cX9_yearGoesBy 89 = .ok (.ifCond .le 89, 3) := by decide +kernel
theorem dX9_yearGoesBy_178 : decode cX9_yearGoesBy 178 = .ok (.iload_n 2, 1) := by decide +kernel
theorem dX9_yearGoesBy_179 : decode cX9_yearGoesBy 179 = .ok (.ireturn, 1) := by decide +kernel
theorem dX9_yearGoesBy_75 : decode cX9_yearGoesBy 75 = .ok (.aload_n 0, 1) := by decide +kernel
theorem dX9_yearGoesBy_76 : decode cX9_yearGoesBy 76 = .ok (.invokevirtual 463, 3) := by decide +kernel
theorem dX9_yearGoesBy_79 : decode cX9_yearGoesBy 79 = .ok (.goto 99, 3) := by decide +kernel
theorem dX9_yearGoesBy_17 : decode cX9_yearGoesBy 17 = .ok (.iload_n 2, 1) := by decide +kernel
theorem dX9_yearGoesBy_18 : decode cX9_yearGoesBy 18 = .ok (.invokestatic 457, 3) := by decide +kernel
theorem dX9_yearGoesBy_21 : decode cX9_yearGoesBy 21 = .ok (.istore_n 2, 1) := by decide +kernel
theorem dX9_yearGoesBy_22 : decode cX9_yearGoesBy 22 = .ok (.iload_n 2, 1) := by decide +kernel
theorem dX9_yearGoesBy_23 : decode cX9_yearGoesBy 23 = .ok (.bipush 6, 2) := by decide +kernel
theorem dX9_yearGoesBy_25 : decode cX9_yearGoesBy 25 = .ok (.invokestatic 460, 3) := by decide +kernel
theorem dX9_yearGoesBy_28 : decode cX9_yearGoesBy 28 = .ok (.iconst 1, 1) := by decide +kernel
theorem dX9_yearGoesBy_29 : decode cX9_yearGoesBy 29 = .ok (.iadd, 1) := by decide +kernel
theorem dX9_yearGoesBy_30 : decode cX9_yearGoesBy 30 = .ok (.istore 4, 2) := by decide +kernel
theorem dX9_yearGoesBy_32 : decode cX9_yearGoesBy 32 = .ok (.iconst 0, 1) := by decide +kernel
theorem dX9_yearGoesBy_33 : decode cX9_yearGoesBy 33 = .ok (.istore 5, 2) := by decide +kernel
theorem dX9_yearGoesBy_35 : decode cX9_yearGoesBy 35 = .ok (.iload 5, 2) := by decide +kernel
theorem dX9_yearGoesBy_37 : decode cX9_yearGoesBy 37 = .ok (.iload 4, 2) := by decide +kernel
theorem dX9_yearGoesBy_39 : decode cX9_yearGoesBy 39 = .ok (.if_icmp .ge 28, 3) := by decide +kernel
theorem dX9_yearGoesBy_67 : decode cX9_yearGoesBy 67 = .ok (.goto 111, 3) := by decide +kernel
theorem dX9_yearGoesBy_42 : decode cX9_yearGoesBy 42 = .ok (.aload_n 0, 1) := by decide +kernel
theorem dX9_yearGoesBy_43 : decode cX9_yearGoesBy 43 = .ok (.getfield 54, 3) := by decide +kernel
theorem dX9_yearGoesBy_46 : decode cX9_yearGoesBy 46 = .ok (.aload_n 0, 1) := by decide +kernel
theorem dX9_yearGoesBy_47 : decode cX9_yearGoesBy 47 = .ok (.getfield 30, 3) := by decide +kernel
theorem dX9_yearGoesBy_50 : decode cX9_yearGoesBy 50 = .ok (.aload_n 0, 1) := by decide +kernel
theorem dX9_yearGoesBy_51 : decode cX9_yearGoesBy 51 = .ok (.getfield 30, 3) := by decide +kernel
theorem dX9_yearGoesBy_54 : decode cX9_yearGoesBy 54 = .ok (.invokevirtual 261, 3) := by decide +kernel
theorem dX9_yearGoesBy_57 : decode cX9_yearGoesBy 57 = .ok (.iconst 1, 1) := by decide +kernel
theorem dX9_yearGoesBy_58 : decode cX9_yearGoesBy 58 = .ok (.invokevirtual 264, 3) := by decide +kernel
theorem dX9_yearGoesBy_61 : decode cX9_yearGoesBy 61 = .ok (.iinc 5 1, 3) := by decide +kernel
theorem dX9_yearGoesBy_64 : decode cX9_yearGoesBy 64 = .ok (.goto (-29), 3) := by decide +kernel
theorem dX9_years_0 : decode cX9_years 0 = .ok (.iload_n 3, 1) := by decide +kernel
theorem dX9_years_1 : decode cX9_years 1 = .ok (.iconst 2, 1) := by decide +kernel
theorem dX9_years_2 : decode cX9_years 2 = .ok (.invokestatic 303, 3) := by decide +kernel
theorem dX9_years_5 : decode cX9_years 5 = .ok (.iload_n 2, 1) := by decide +kernel
theorem dX9_years_6 : decode cX9_years 6 = .ok (.ifCond .lt 9, 3) := by decide +kernel
theorem dX9_years_15 : decode cX9_years 15 = .ok (.new 86, 3) := by decide +kernel
theorem dX9_years_18 : decode cX9_years 18 = .ok (.dup, 1) := by decide +kernel
theorem dX9_years_19 : decode cX9_years 19 = .ok (.ldc_w 406, 3) := by decide +kernel
theorem dX9_years_22 : decode cX9_years 22 = .ok (.invokespecial 90, 3) := by decide +kernel
theorem dX9_years_25 : decode cX9_years 25 = .ok (.athrow, 1) := by decide +kernel
theorem dX9_years_9 : decode cX9_years 9 = .ok (.iload_n 2, 1) := by decide +kernel
theorem dX9_years_10 : decode cX9_years 10 = .ok (.bipush 30, 2) := by decide +kernel
theorem dX9_years_12 : decode cX9_years 12 = .ok (.if_icmp .le 14, 3) := by decide +kernel
theorem dX9_years_26 : decode cX9_years 26 = .ok (.aload_n 0, 1) := by decide +kernel
theorem dX9_years_27 : decode cX9_years 27 = .ok (.getfield 54, 3) := by decide +kernel
theorem dX9_years_30 : decode cX9_years 30 = .ok (.aload_n 0, 1) := by decide +kernel
theorem dX9_years_31 : decode cX9_years 31 = .ok (.getfield 37, 3) := by decide +kernel
theorem dX9_years_34 : decode cX9_years 34 = .ok (.getfield 112, 3) := by decide +kernel
theorem dX9_years_37 : decode cX9_years 37 = .ok (.invokevirtual 311, 3) := by decide +kernel
theorem dX9_years_40 : decode cX9_years 40 = .ok (.iload_n 1, 1) := by decide +kernel
theorem dX9_years_41 : decode cX9_years 41 = .ok (.istore 4, 2) := by decide +kernel
theorem dX9_years_43 : decode cX9_years 43 = .ok (.iconst 0, 1) := by decide +kernel
theorem dX9_years_44 : decode cX9_years 44 = .ok (.istore 5, 2) := by decide +kernel
theorem dX9_years_46 : decode cX9_years 46 = .ok (.iload 5, 2) := by decide +kernel
theorem dX9_years_48 : decode cX9_years 48 = .ok (.iload_n 2, 1) := by decide +kernel
theorem dX9_years_49 : decode cX9_years 49 = .ok (.if_icmp .ge 17, 3) := by decide +kernel
theorem dX9_years_66 : decode cX9_years 66 = .ok (.iload_n 3, 1) := by decide +kernel
theorem dX9_years_67 : decode cX9_years 67 = .ok (.lookupswitch 63 #[(0, 25), (1, 44)], 25) := by decide +kernel
theorem dX9_years_92 : decode cX9_years 92 = .ok (.aload_n 0, 1) := by decide +kernel
theorem dX9_years_93 : decode cX9_years 93 = .ok (.getfield 54, 3) := by decide +kernel
theorem dX9_years_96 : decode cX9_years 96 = .ok (.getfield 140, 3) := by decide +kernel
theorem dX9_years_99 : decode cX9_years 99 = .ok (.aload_n 0, 1) := by decide +kernel
theorem dX9_years_100 : decode cX9_years 100 = .ok (.getfield 37, 3) := by decide +kernel
theorem dX9_years_103 : decode cX9_years 103 = .ok (.getfield 112, 3) := by decide +kernel
theorem dX9_years_106 : decode cX9_years 106 = .ok (.getfield 140, 3) := by decide +kernel
theorem dX9_years_109 : decode cX9_years 109 = .ok (.isub, 1) := by decide +kernel
theorem dX9_years_110 : decode cX9_years 110 = .ok (.ireturn, 1) := by decide +kernel
theorem dX9_years_111 : decode cX9_years 111 = .ok (.aload_n 0, 1) := by decide +kernel
theorem dX9_years_112 : decode cX9_years 112 = .ok (.getfield 54, 3) := by decide +kernel
theorem dX9_years_115 : decode cX9_years 115 = .ok (.getfield 137, 3) := by decide +kernel
theorem dX9_years_118 : decode cX9_years 118 = .ok (.aload_n 0, 1) := by decide +kernel
theorem dX9_years_119 : decode cX9_years 119 = .ok (.getfield 37, 3) := by decide +kernel
theorem dX9_years_122 : decode cX9_years 122 = .ok (.getfield 112, 3) := by decide +kernel
theorem dX9_years_125 : decode cX9_years 125 = .ok (.getfield 137, 3) := by decide +kernel
theorem dX9_years_128 : decode cX9_years 128 = .ok (.isub, 1) := by decide +kernel
theorem dX9_years_129 : decode cX9_years 129 = .ok (.ireturn, 1) := by decide +kernel
theorem dX9_years_130 : decode cX9_years 130 = .ok (.aload_n 0, 1) := by decide +kernel
theorem dX9_years_131 : decode cX9_years 131 = .ok (.getfield 54, 3) := by decide +kernel
theorem dX9_years_134 : decode cX9_years 134 = .ok (.bipush 36, 2) := by decide +kernel
theorem dX9_years_136 : decode cX9_years 136 = .ok (.invokevirtual 143, 3) := by decide +kernel
theorem dX9_years_139 : decode cX9_years 139 = .ok (.ireturn, 1) := by decide +kernel
theorem dX9_years_52 : decode cX9_years 52 = .ok (.aload_n 0, 1) := by decide +kernel
theorem dX9_years_53 : decode cX9_years 53 = .ok (.iload 4, 2) := by decide +kernel
theorem dX9_years_55 : decode cX9_years 55 = .ok (.invokevirtual 408, 3) := by decide +kernel
theorem dX9_years_58 : decode cX9_years 58 = .ok (.istore 4, 2) := by decide +kernel
theorem dX9_years_60 : decode cX9_years 60 = .ok (.iinc 5 1, 3) := by decide +kernel
theorem dX9_years_63 : decode cX9_years 63 = .ok (.goto (-17), 3) := by decide +kernel
theorem dX4_copyFrom_0 : decode cX4_copyFrom 0 = .ok (.aload_n 0, 1) := by decide +kernel
theorem dX4_copyFrom_1 : decode cX4_copyFrom 1 = .ok (.aload_n 1, 1) := by decide +kernel
theorem dX4_copyFrom_2 : decode cX4_copyFrom 2 = .ok (.getfield 7, 3) := by decide +kernel
theorem dX4_copyFrom_5 : decode cX4_copyFrom 5 = .ok (.putfield 7, 3) := by decide +kernel
theorem dX4_copyFrom_8 : decode cX4_copyFrom 8 = .ok (.aload_n 0, 1) := by decide +kernel
theorem dX4_copyFrom_9 : decode cX4_copyFrom 9 = .ok (.aload_n 1, 1) := by decide +kernel
theorem dX4_copyFrom_10 : decode cX4_copyFrom 10 = .ok (.getfield 13, 3) := by decide +kernel
theorem dX4_copyFrom_13 : decode cX4_copyFrom 13 = .ok (.putfield 13, 3) := by decide +kernel
theorem dX4_copyFrom_16 : decode cX4_copyFrom 16 = .ok (.aload_n 0, 1) := by decide +kernel
theorem dX4_copyFrom_17 : decode cX4_copyFrom 17 = .ok (.getfield 19, 3) := by decide +kernel
theorem dX4_copyFrom_20 : decode cX4_copyFrom 20 = .ok (.aload_n 1, 1) := by decide +kernel
theorem dX4_copyFrom_21 : decode cX4_copyFrom 21 = .ok (.getfield 19, 3) := by decide +kernel
theorem dX4_copyFrom_24 : decode cX4_copyFrom 24 = .ok (.invokevirtual 23, 3) := by decide +kernel
theorem dX4_copyFrom_27 : decode cX4_copyFrom 27 = .ok (.return_, 1) := by decide +kernel
theorem dX2_copyFrom_0 : decode cX2_copyFrom 0 = .ok (.aload_n 0, 1) := by decide +kernel
theorem dX2_copyFrom_1 : decode cX2_copyFrom 1 = .ok (.aload_n 1, 1) := by decide +kernel
theorem dX2_copyFrom_2 : decode cX2_copyFrom 2 = .ok (.getfield 9, 3) := by decide +kernel
theorem dX2_copyFrom_5 : decode cX2_copyFrom 5 = .ok (.putfield 9, 3) := by decide +kernel
theorem dX2_copyFrom_8 : decode cX2_copyFrom 8 = .ok (.aload_n 1, 1) := by decide +kernel
theorem dX2_copyFrom_9 : decode cX2_copyFrom 9 = .ok (.getfield 15, 3) := by decide +kernel
theorem dX2_copyFrom_12 : decode cX2_copyFrom 12 = .ok (.iconst 0, 1) := by decide +kernel
theorem dX2_copyFrom_13 : decode cX2_copyFrom 13 = .ok (.aload_n 0, 1) := by decide +kernel
theorem dX2_copyFrom_14 : decode cX2_copyFrom 14 = .ok (.getfield 15, 3) := by decide +kernel
theorem dX2_copyFrom_17 : decode cX2_copyFrom 17 = .ok (.iconst 0, 1) := by decide +kernel
theorem dX2_copyFrom_18 : decode cX2_copyFrom 18 = .ok (.aload_n 0, 1) := by decide +kernel
theorem dX2_copyFrom_19 : decode cX2_copyFrom 19 = .ok (.getfield 15, 3) := by decide +kernel
theorem dX2_copyFrom_22 : decode cX2_copyFrom 22 = .ok (.arraylength, 1) := by decide +kernel
theorem dX2_copyFrom_23 : decode cX2_copyFrom 23 = .ok (.invokestatic 25, 3) := by decide +kernel
theorem dX2_copyFrom_26 : decode cX2_copyFrom 26 = .ok (.aload_n 1, 1) := by decide +kernel
theorem dX2_copyFrom_27 : decode cX2_copyFrom 27 = .ok (.getfield 19, 3) := by decide +kernel
theorem dX2_copyFrom_30 : decode cX2_copyFrom 30 = .ok (.iconst 0, 1) := by decide +kernel
theorem dX2_copyFrom_31 : decode cX2_copyFrom 31 = .ok (.aload_n 0, 1) := by decide +kernel
theorem dX2_copyFrom_32 : decode cX2_copyFrom 32 = .ok (.getfield 19, 3) := by decide +kernel
theorem dX2_copyFrom_35 : decode cX2_copyFrom 35 = .ok (.iconst 0, 1) := by decide +kernel
theorem dX2_copyFrom_36 : decode cX2_copyFrom 36 = .ok (.aload_n 0, 1) := by decide +kernel
theorem dX2_copyFrom_37 : decode cX2_copyFrom 37 = .ok (.getfield 19, 3) := by decide +kernel
theorem dX2_copyFrom_40 : decode cX2_copyFrom 40 = .ok (.arraylength, 1) := by decide +kernel
theorem dX2_copyFrom_41 : decode cX2_copyFrom 41 = .ok (.invokestatic 25, 3) := by decide +kernel
theorem dX2_copyFrom_44 : decode cX2_copyFrom 44 = .ok (.aload_n 1, 1) := by decide +kernel
theorem dX2_copyFrom_45 : decode cX2_copyFrom 45 = .ok (.getfield 22, 3) := by decide +kernel
theorem dX2_copyFrom_48 : decode cX2_copyFrom 48 = .ok (.iconst 0, 1) := by decide +kernel
theorem dX2_copyFrom_49 : decode cX2_copyFrom 49 = .ok (.aload_n 0, 1) := by decide +kernel
theorem dX2_copyFrom_50 : decode cX2_copyFrom 50 = .ok (.getfield 22, 3) := by decide +kernel
theorem dX2_copyFrom_53 : decode cX2_copyFrom 53 = .ok (.iconst 0, 1) := by decide +kernel
theorem dX2_copyFrom_54 : decode cX2_copyFrom 54 = .ok (.aload_n 0, 1) := by decide +kernel
theorem dX2_copyFrom_55 : decode cX2_copyFrom 55 = .ok (.getfield 22, 3) := by decide +kernel
theorem dX2_copyFrom_58 : decode cX2_copyFrom 58 = .ok (.arraylength, 1) := by decide +kernel
theorem dX2_copyFrom_59 : decode cX2_copyFrom 59 = .ok (.invokestatic 25, 3) := by decide +kernel
theorem dX2_copyFrom_62 : decode cX2_copyFrom 62 = .ok (.return_, 1) := by decide +kernel
theorem dX6_copyFrom_0 : decode cX6_copyFrom 0 = .ok (.aload_n 0, 1) := by decide +kernel
theorem dX6_copyFrom_1 : decode cX6_copyFrom 1 = .ok (.getfield 12, 3) := by decide +kernel
theorem dX6_copyFrom_4 : decode cX6_copyFrom 4 = .ok (.aload_n 1, 1) := by decide +kernel
theorem dX6_copyFrom_5 : decode cX6_copyFrom 5 = .ok (.getfield 12, 3) := by decide +kernel
theorem dX6_copyFrom_8 : decode cX6_copyFrom 8 = .ok (.invokevirtual 44, 3) := by decide +kernel
theorem dX6_copyFrom_11 : decode cX6_copyFrom 11 = .ok (.aload_n 0, 1) := by decide +kernel
theorem dX6_copyFrom_12 : decode cX6_copyFrom 12 = .ok (.aload_n 1, 1) := by decide +kernel
theorem dX6_copyFrom_13 : decode cX6_copyFrom 13 = .ok (.getfield 22, 3) := by decide +kernel
theorem dX6_copyFrom_16 : decode cX6_copyFrom 16 = .ok (.putfield 22, 3) := by decide +kernel
theorem dX6_copyFrom_19 : decode cX6_copyFrom 19 = .ok (.iconst 0, 1) := by decide +kernel
theorem dX6_copyFrom_20 : decode cX6_copyFrom 20 = .ok (.istore_n 2, 1) := by decide +kernel
theorem dX6_copyFrom_21 : decode cX6_copyFrom 21 = .ok (.iload_n 2, 1) := by decide +kernel
theorem dX6_copyFrom_22 : decode cX6_copyFrom 22 = .ok (.aload_n 0, 1) := by decide +kernel
theorem dX6_copyFrom_23 : decode cX6_copyFrom 23 = .ok (.getfield 22, 3) := by decide +kernel
theorem dX6_copyFrom_26 : decode cX6_copyFrom 26 = .ok (.if_icmp .ge 33, 3) := by decide +kernel
theorem dX6_copyFrom_59 : decode cX6_copyFrom 59 = .ok (.iconst 0, 1) := by decide +kernel
theorem dX6_copyFrom_60 : decode cX6_copyFrom 60 = .ok (.istore_n 2, 1) := by decide +kernel
theorem dX6_copyFrom_61 : decode cX6_copyFrom 61 = .ok (.iload_n 2, 1) := by decide +kernel
theorem dX6_copyFrom_62 : decode cX6_copyFrom 62 = .ok (.aload_n 0, 1) := by decide +kernel
theorem dX6_copyFrom_63 : decode cX6_copyFrom 63 = .ok (.getfield 28, 3) := by decide +kernel
theorem dX6_copyFrom_66 : decode cX6_copyFrom 66 = .ok (.arraylength, 1) := by decide +kernel
theorem dX6_copyFrom_67 : decode cX6_copyFrom 67 = .ok (.if_icmp .ge 24, 3) := by decide +kernel
theorem dX6_copyFrom_70 : decode cX6_copyFrom 70 = .ok (.aload_n 0, 1) := by decide +kernel
theorem dX6_copyFrom_71 : decode cX6_copyFrom 71 = .ok (.getfield 28, 3) := by decide +kernel
theorem dX6_copyFrom_74 : decode cX6_copyFrom 74 = .ok (.iload_n 2, 1) := by decide +kernel
theorem dX6_copyFrom_75 : decode cX6_copyFrom 75 = .ok (.aaload, 1) := by decide +kernel
theorem dX6_copyFrom_76 : decode cX6_copyFrom 76 = .ok (.aload_n 1, 1) := by decide +kernel
theorem dX6_copyFrom_77 : decode cX6_copyFrom 77 = .ok (.getfield 28, 3) := by decide +kernel
theorem dX6_copyFrom_80 : decode cX6_copyFrom 80 = .ok (.iload_n 2, 1) := by decide +kernel
theorem dX6_copyFrom_81 : decode cX6_copyFrom 81 = .ok (.aaload, 1) := by decide +kernel
theorem dX6_copyFrom_82 : decode cX6_copyFrom 82 = .ok (.invokevirtual 51, 3) := by decide +kernel
theorem dX6_copyFrom_85 : decode cX6_copyFrom 85 = .ok (.iinc 2 1, 3) := by decide +kernel
theorem dX6_copyFrom_88 : decode cX6_copyFrom 88 = .ok (.goto (-27), 3) := by decide +kernel
theorem dX6_copyFrom_91 : decode cX6_copyFrom 91 = .ok (.aload_n 0, 1) := by decide +kernel
theorem dX6_copyFrom_92 : decode cX6_copyFrom 92 = .ok (.getfield 35, 3) := by decide +kernel
theorem dX6_copyFrom_95 : decode cX6_copyFrom 95 = .ok (.aload_n 1, 1) := by decide +kernel
theorem dX6_copyFrom_96 : decode cX6_copyFrom 96 = .ok (.getfield 35, 3) := by decide +kernel
theorem dX6_copyFrom_99 : decode cX6_copyFrom 99 = .ok (.invokevirtual 54, 3) := by decide +kernel
theorem dX6_copyFrom_102 : decode cX6_copyFrom 102 = .ok (.aload_n 1, 1) := by decide +kernel
theorem dX6_copyFrom_103 : decode cX6_copyFrom 103 = .ok (.getfield 39, 3) := by decide +kernel
theorem dX6_copyFrom_106 : decode cX6_copyFrom 106 = .ok (.iconst 0, 1) := by decide +kernel
theorem dX6_copyFrom_107 : decode cX6_copyFrom 107 = .ok (.aload_n 0, 1) := by decide +kernel
theorem dX6_copyFrom_108 : decode cX6_copyFrom 108 = .ok (.getfield 39, 3) := by decide +kernel
theorem dX6_copyFrom_111 : decode cX6_copyFrom 111 = .ok (.iconst 0, 1) := by decide +kernel
theorem dX6_copyFrom_112 : decode cX6_copyFrom 112 = .ok (.aload_n 0, 1) := by decide +kernel
theorem dX6_copyFrom_113 : decode cX6_copyFrom 113 = .ok (.getfield 39, 3) := by decide +kernel
theorem dX6_copyFrom_116 : decode cX6_copyFrom 116 = .ok (.arraylength, 1) := by decide +kernel
theorem dX6_copyFrom_117 : decode cX6_copyFrom 117 = .ok (.invokestatic 57, 3) := by decide +kernel
theorem dX6_copyFrom_120 : decode cX6_copyFrom 120 = .ok (.return_, 1) := by decide +kernel
theorem dX9_image_0 : decode cX9_image 0 = .ok (.aload_n 0, 1) := by decide +kernel
theorem dX9_image_1 : decode cX9_image 1 = .ok (.getfield 41, 3) := by decide +kernel
theorem dX9_image_4 : decode cX9_image 4 = .ok (.aload_n 0, 1) := by decide +kernel
theorem dX9_image_5 : decode cX9_image 5 = .ok (.getfield 37, 3) := by decide +kernel
theorem dX9_image_8 : decode cX9_image 8 = .ok (.invokevirtual 411, 3) := by decide +kernel
theorem dX9_image_11 : decode cX9_image 11 = .ok (.aload_n 0, 1) := by decide +kernel
theorem dX9_image_12 : decode cX9_image 12 = .ok (.iconst 1, 1) := by decide +kernel
theorem dX9_image_13 : decode cX9_image 13 = .ok (.putfield 44, 3) := by decide +kernel
theorem dX9_image_16 : decode cX9_image 16 = .ok (.return_, 1) := by decide +kernel
