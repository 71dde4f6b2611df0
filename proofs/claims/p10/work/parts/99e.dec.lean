-- decode rows of refnote
theorem dX10_forget_0 : decode cX10_forget 0 = .ok (.aload_n 0, 1) := by decide +kernel
theorem dX10_forget_1 : decode cX10_forget 1 = .ok (.iconst 0, 1) := by decide +kernel
theorem dX10_forget_2 : decode cX10_forget 2 = .ok (.putfield 110, 3) := by decide +kernel
theorem dX10_forget_5 : decode cX10_forget 5 = .ok (.aload_n 0, 1) := by decide +kernel
theorem dX10_forget_6 : decode cX10_forget 6 = .ok (.iconst 0, 1) := by decide +kernel
theorem dX10_forget_7 : decode cX10_forget 7 = .ok (.putfield 336, 3) := by decide +kernel
theorem dX10_forget_10 : decode cX10_forget 10 = .ok (.return_, 1) := by decide +kernel
theorem dX10_odds_0 : decode cX10_odds 0 = .ok (.aload_n 0, 1) := by decide +kernel
theorem dX10_odds_1 : decode cX10_odds 1 = .ok (.iconst 0, 1) := by decide +kernel
theorem dX10_odds_2 : decode cX10_odds 2 = .ok (.putfield 110, 3) := by decide +kernel
theorem dX10_odds_5 : decode cX10_odds 5 = .ok (.aload_n 0, 1) := by decide +kernel
theorem dX10_odds_6 : decode cX10_odds 6 = .ok (.iload_n 1, 1) := by decide +kernel
theorem dX10_odds_7 : decode cX10_odds 7 = .ok (.invokevirtual 360, 3) := by decide +kernel
theorem dX10_odds_10 : decode cX10_odds 10 = .ok (.ifCond .eq 36, 3) := by decide +kernel
theorem dX10_odds_13 : decode cX10_odds 13 = .ok (.aload_n 0, 1) := by decide +kernel
theorem dX10_odds_14 : decode cX10_odds 14 = .ok (.iload_n 2, 1) := by decide +kernel
theorem dX10_odds_15 : decode cX10_odds 15 = .ok (.iconst 1, 1) := by decide +kernel
theorem dX10_odds_16 : decode cX10_odds 16 = .ok (.bipush 6, 2) := by decide +kernel
theorem dX10_odds_18 : decode cX10_odds 18 = .ok (.invokestatic 281, 3) := by decide +kernel
theorem dX10_odds_21 : decode cX10_odds 21 = .ok (.ifCond .eq 17, 3) := by decide +kernel
theorem dX10_odds_24 : decode cX10_odds 24 = .ok (.iload_n 3, 1) := by decide +kernel
theorem dX10_odds_25 : decode cX10_odds 25 = .ok (.iconst 0, 1) := by decide +kernel
theorem dX10_odds_26 : decode cX10_odds 26 = .ok (.bipush 10, 2) := by decide +kernel
theorem dX10_odds_28 : decode cX10_odds 28 = .ok (.invokestatic 281, 3) := by decide +kernel
theorem dX10_odds_31 : decode cX10_odds 31 = .ok (.ifCond .eq 7, 3) := by decide +kernel
theorem dX10_odds_34 : decode cX10_odds 34 = .ok (.iconst 1, 1) := by decide +kernel
theorem dX10_odds_35 : decode cX10_odds 35 = .ok (.goto 4, 3) := by decide +kernel
theorem dX10_odds_39 : decode cX10_odds 39 = .ok (.iconst 2, 1) := by decide +kernel
theorem dX10_odds_40 : decode cX10_odds 40 = .ok (.invokevirtual 324, 3) := by decide +kernel
theorem dX10_odds_43 : decode cX10_odds 43 = .ok (.ifCond .ne 5, 3) := by decide +kernel
theorem dX10_odds_48 : decode cX10_odds 48 = .ok (.iconst 0, 1) := by decide +kernel
theorem dX10_odds_49 : decode cX10_odds 49 = .ok (.istore 4, 2) := by decide +kernel
theorem dX10_odds_51 : decode cX10_odds 51 = .ok (.iconst 0, 1) := by decide +kernel
theorem dX10_odds_52 : decode cX10_odds 52 = .ok (.istore 5, 2) := by decide +kernel
theorem dX10_odds_54 : decode cX10_odds 54 = .ok (.iload 5, 2) := by decide +kernel
theorem dX10_odds_56 : decode cX10_odds 56 = .ok (.iconst 1, 1) := by decide +kernel
theorem dX10_odds_57 : decode cX10_odds 57 = .ok (.iload_n 2, 1) := by decide +kernel
theorem dX10_odds_58 : decode cX10_odds 58 = .ok (.ishl, 1) := by decide +kernel
theorem dX10_odds_59 : decode cX10_odds 59 = .ok (.if_icmp .ge 101, 3) := by decide +kernel
theorem dX10_odds_160 : decode cX10_odds 160 = .ok (.iload 4, 2) := by decide +kernel
theorem dX10_odds_162 : decode cX10_odds 162 = .ok (.ireturn, 1) := by decide +kernel
theorem dX10_odds_62 : decode cX10_odds 62 = .ok (.iconst 1, 1) := by decide +kernel
theorem dX10_odds_63 : decode cX10_odds 63 = .ok (.istore 6, 2) := by decide +kernel
theorem dX10_odds_65 : decode cX10_odds 65 = .ok (.aload_n 0, 1) := by decide +kernel
theorem dX10_odds_66 : decode cX10_odds 66 = .ok (.invokevirtual 409, 3) := by decide +kernel
theorem dX10_odds_69 : decode cX10_odds 69 = .ok (.iconst 0, 1) := by decide +kernel
theorem dX10_odds_70 : decode cX10_odds 70 = .ok (.istore 7, 2) := by decide +kernel
theorem dX10_odds_72 : decode cX10_odds 72 = .ok (.iload 7, 2) := by decide +kernel
theorem dX10_odds_74 : decode cX10_odds 74 = .ok (.iload_n 2, 1) := by decide +kernel
theorem dX10_odds_75 : decode cX10_odds 75 = .ok (.if_icmp .ge 56, 3) := by decide +kernel
theorem dX10_odds_131 : decode cX10_odds 131 = .ok (.aload_n 0, 1) := by decide +kernel
theorem dX10_odds_132 : decode cX10_odds 132 = .ok (.iconst 0, 1) := by decide +kernel
theorem dX10_odds_133 : decode cX10_odds 133 = .ok (.putfield 163, 3) := by decide +kernel
theorem dX10_odds_136 : decode cX10_odds 136 = .ok (.aload_n 0, 1) := by decide +kernel
theorem dX10_odds_137 : decode cX10_odds 137 = .ok (.sipush 350, 3) := by decide +kernel
theorem dX10_odds_140 : decode cX10_odds 140 = .ok (.iload_n 1, 1) := by decide +kernel
theorem dX10_odds_141 : decode cX10_odds 141 = .ok (.invokevirtual 366, 3) := by decide +kernel
theorem dX10_odds_144 : decode cX10_odds 144 = .ok (.ifCond .eq 10, 3) := by decide +kernel
theorem dX10_odds_154 : decode cX10_odds 154 = .ok (.iinc 5 1, 3) := by decide +kernel
theorem dX10_odds_157 : decode cX10_odds 157 = .ok (.goto (-103), 3) := by decide +kernel
theorem dX10_odds_147 : decode cX10_odds 147 = .ok (.iload 4, 2) := by decide +kernel
theorem dX10_odds_149 : decode cX10_odds 149 = .ok (.iload 6, 2) := by decide +kernel
theorem dX10_odds_151 : decode cX10_odds 151 = .ok (.iadd, 1) := by decide +kernel
theorem dX10_odds_152 : decode cX10_odds 152 = .ok (.istore 4, 2) := by decide +kernel
theorem dX10_odds_78 : decode cX10_odds 78 = .ok (.aload_n 0, 1) := by decide +kernel
theorem dX10_odds_79 : decode cX10_odds 79 = .ok (.iload 5, 2) := by decide +kernel
theorem dX10_odds_81 : decode cX10_odds 81 = .ok (.iload 7, 2) := by decide +kernel
theorem dX10_odds_83 : decode cX10_odds 83 = .ok (.ishr, 1) := by decide +kernel
theorem dX10_odds_84 : decode cX10_odds 84 = .ok (.iconst 1, 1) := by decide +kernel
theorem dX10_odds_85 : decode cX10_odds 85 = .ok (.iand, 1) := by decide +kernel
theorem dX10_odds_86 : decode cX10_odds 86 = .ok (.iconst 1, 1) := by decide +kernel
theorem dX10_odds_87 : decode cX10_odds 87 = .ok (.if_icmp .ne 7, 3) := by decide +kernel
theorem dX10_odds_94 : decode cX10_odds 94 = .ok (.iconst 0, 1) := by decide +kernel
theorem dX10_odds_95 : decode cX10_odds 95 = .ok (.putfield 163, 3) := by decide +kernel
theorem dX10_odds_98 : decode cX10_odds 98 = .ok (.iload 6, 2) := by decide +kernel
theorem dX10_odds_100 : decode cX10_odds 100 = .ok (.aload_n 0, 1) := by decide +kernel
theorem dX10_odds_101 : decode cX10_odds 101 = .ok (.getfield 163, 3) := by decide +kernel
theorem dX10_odds_104 : decode cX10_odds 104 = .ok (.ifCond .eq 7, 3) := by decide +kernel
theorem dX10_odds_111 : decode cX10_odds 111 = .ok (.bipush 10, 2) := by decide +kernel
theorem dX10_odds_113 : decode cX10_odds 113 = .ok (.iload_n 3, 1) := by decide +kernel
theorem dX10_odds_114 : decode cX10_odds 114 = .ok (.isub, 1) := by decide +kernel
theorem dX10_odds_115 : decode cX10_odds 115 = .ok (.imul, 1) := by decide +kernel
theorem dX10_odds_116 : decode cX10_odds 116 = .ok (.istore 6, 2) := by decide +kernel
theorem dX10_odds_118 : decode cX10_odds 118 = .ok (.aload_n 0, 1) := by decide +kernel
theorem dX10_odds_119 : decode cX10_odds 119 = .ok (.sipush 350, 3) := by decide +kernel
theorem dX10_odds_122 : decode cX10_odds 122 = .ok (.invokevirtual 219, 3) := by decide +kernel
theorem dX10_odds_125 : decode cX10_odds 125 = .ok (.iinc 7 1, 3) := by decide +kernel
theorem dX10_odds_128 : decode cX10_odds 128 = .ok (.goto (-56), 3) := by decide +kernel
theorem dX10_odds_90 : decode cX10_odds 90 = .ok (.iconst 1, 1) := by decide +kernel
theorem dX10_odds_91 : decode cX10_odds 91 = .ok (.goto 4, 3) := by decide +kernel
theorem dX10_odds_107 : decode cX10_odds 107 = .ok (.iload_n 3, 1) := by decide +kernel
theorem dX10_odds_108 : decode cX10_odds 108 = .ok (.goto 7, 3) := by decide +kernel
theorem dX10_odds_46 : decode cX10_odds 46 = .ok (.iconst 0, 1) := by decide +kernel
theorem dX10_odds_47 : decode cX10_odds 47 = .ok (.ireturn, 1) := by decide +kernel
theorem dX10_odds_38 : decode cX10_odds 38 = .ok (.iconst 0, 1) := by decide +kernel
theorem dX10_draw_0 : decode cX10_draw 0 = .ok (.aload_n 0, 1) := by decide +kernel
theorem dX10_draw_1 : decode cX10_draw 1 = .ok (.aload_n 0, 1) := by decide +kernel
theorem dX10_draw_2 : decode cX10_draw 2 = .ok (.getfield 459, 3) := by decide +kernel
theorem dX10_draw_5 : decode cX10_draw 5 = .ok (.ldc_w 462, 3) := by decide +kernel
theorem dX10_draw_8 : decode cX10_draw 8 = .ok (.imul, 1) := by decide +kernel
theorem dX10_draw_9 : decode cX10_draw 9 = .ok (.sipush 12345, 3) := by decide +kernel
theorem dX10_draw_12 : decode cX10_draw 12 = .ok (.iadd, 1) := by decide +kernel
theorem dX10_draw_13 : decode cX10_draw 13 = .ok (.putfield 459, 3) := by decide +kernel
theorem dX10_draw_16 : decode cX10_draw 16 = .ok (.aload_n 0, 1) := by decide +kernel
theorem dX10_draw_17 : decode cX10_draw 17 = .ok (.getfield 459, 3) := by decide +kernel
theorem dX10_draw_20 : decode cX10_draw 20 = .ok (.bipush 16, 2) := by decide +kernel
theorem dX10_draw_22 : decode cX10_draw 22 = .ok (.ishr, 1) := by decide +kernel
theorem dX10_draw_23 : decode cX10_draw 23 = .ok (.sipush 32767, 3) := by decide +kernel
theorem dX10_draw_26 : decode cX10_draw 26 = .ok (.iand, 1) := by decide +kernel
theorem dX10_draw_27 : decode cX10_draw 27 = .ok (.iload_n 1, 1) := by decide +kernel
theorem dX10_draw_28 : decode cX10_draw 28 = .ok (.irem, 1) := by decide +kernel
theorem dX10_draw_29 : decode cX10_draw 29 = .ok (.ireturn, 1) := by decide +kernel
theorem dX10_year_0 : decode cX10_year 0 = .ok (.aload_n 0, 1) := by decide +kernel
theorem dX10_year_1 : decode cX10_year 1 = .ok (.bipush 6, 2) := by decide +kernel
theorem dX10_year_3 : decode cX10_year 3 = .ok (.invokevirtual 463, 3) := by decide +kernel
theorem dX10_year_6 : decode cX10_year 6 = .ok (.istore_n 1, 1) := by decide +kernel
theorem dX10_year_7 : decode cX10_year 7 = .ok (.iload_n 1, 1) := by decide +kernel
theorem dX10_year_8 : decode cX10_year 8 = .ok (.iconst 2, 1) := by decide +kernel
theorem dX10_year_9 : decode cX10_year 9 = .ok (.if_icmp .ge 21, 3) := by decide +kernel
theorem dX10_year_30 : decode cX10_year 30 = .ok (.iload_n 1, 1) := by decide +kernel
theorem dX10_year_31 : decode cX10_year 31 = .ok (.iconst 5, 1) := by decide +kernel
theorem dX10_year_32 : decode cX10_year 32 = .ok (.if_icmp .ne 42, 3) := by decide +kernel
theorem dX10_year_74 : decode cX10_year 74 = .ok (.aload_n 0, 1) := by decide +kernel
theorem dX10_year_75 : decode cX10_year 75 = .ok (.getfield 198, 3) := by decide +kernel
theorem dX10_year_78 : decode cX10_year 78 = .ok (.ifCond .le 65, 3) := by decide +kernel
theorem dX10_year_143 : decode cX10_year 143 = .ok (.return_, 1) := by decide +kernel
theorem dX10_year_81 : decode cX10_year 81 = .ok (.aload_n 0, 1) := by decide +kernel
theorem dX10_year_82 : decode cX10_year 82 = .ok (.aload_n 0, 1) := by decide +kernel
theorem dX10_year_83 : decode cX10_year 83 = .ok (.getfield 198, 3) := by decide +kernel
theorem dX10_year_86 : decode cX10_year 86 = .ok (.invokevirtual 463, 3) := by decide +kernel
theorem dX10_year_89 : decode cX10_year 89 = .ok (.istore_n 2, 1) := by decide +kernel
theorem dX10_year_90 : decode cX10_year 90 = .ok (.iload_n 1, 1) := by decide +kernel
theorem dX10_year_91 : decode cX10_year 91 = .ok (.iconst 4, 1) := by decide +kernel
theorem dX10_year_92 : decode cX10_year 92 = .ok (.if_icmp .ne 25, 3) := by decide +kernel
theorem dX10_year_117 : decode cX10_year 117 = .ok (.aload_n 0, 1) := by decide +kernel
theorem dX10_year_118 : decode cX10_year 118 = .ok (.sipush 350, 3) := by decide +kernel
theorem dX10_year_121 : decode cX10_year 121 = .ok (.iload_n 2, 1) := by decide +kernel
theorem dX10_year_122 : decode cX10_year 122 = .ok (.iload_n 1, 1) := by decide +kernel
theorem dX10_year_123 : decode cX10_year 123 = .ok (.iconst 1, 1) := by decide +kernel
theorem dX10_year_124 : decode cX10_year 124 = .ok (.isub, 1) := by decide +kernel
theorem dX10_year_125 : decode cX10_year 125 = .ok (.aload_n 0, 1) := by decide +kernel
theorem dX10_year_126 : decode cX10_year 126 = .ok (.bipush 20, 2) := by decide +kernel
theorem dX10_year_128 : decode cX10_year 128 = .ok (.invokevirtual 463, 3) := by decide +kernel
theorem dX10_year_131 : decode cX10_year 131 = .ok (.iconst 1, 1) := by decide +kernel
theorem dX10_year_132 : decode cX10_year 132 = .ok (.iadd, 1) := by decide +kernel
theorem dX10_year_133 : decode cX10_year 133 = .ok (.aload_n 0, 1) := by decide +kernel
theorem dX10_year_134 : decode cX10_year 134 = .ok (.sipush 350, 3) := by decide +kernel
theorem dX10_year_137 : decode cX10_year 137 = .ok (.invokevirtual 195, 3) := by decide +kernel
theorem dX10_year_140 : decode cX10_year 140 = .ok (.invokevirtual 170, 3) := by decide +kernel
theorem dX10_year_95 : decode cX10_year 95 = .ok (.aload_n 0, 1) := by decide +kernel
theorem dX10_year_96 : decode cX10_year 96 = .ok (.sipush 350, 3) := by decide +kernel
theorem dX10_year_99 : decode cX10_year 99 = .ok (.iload_n 2, 1) := by decide +kernel
theorem dX10_year_100 : decode cX10_year 100 = .ok (.invokevirtual 121, 3) := by decide +kernel
theorem dX10_year_103 : decode cX10_year 103 = .ok (.ifCond .le 40, 3) := by decide +kernel
theorem dX10_year_106 : decode cX10_year 106 = .ok (.aload_n 0, 1) := by decide +kernel
theorem dX10_year_107 : decode cX10_year 107 = .ok (.sipush 350, 3) := by decide +kernel
theorem dX10_year_110 : decode cX10_year 110 = .ok (.iload_n 2, 1) := by decide +kernel
theorem dX10_year_111 : decode cX10_year 111 = .ok (.invokevirtual 403, 3) := by decide +kernel
theorem dX10_year_114 : decode cX10_year 114 = .ok (.goto 29, 3) := by decide +kernel
theorem dX10_year_35 : decode cX10_year 35 = .ok (.iconst 0, 1) := by decide +kernel
theorem dX10_year_36 : decode cX10_year 36 = .ok (.istore_n 2, 1) := by decide +kernel
theorem dX10_year_37 : decode cX10_year 37 = .ok (.iload_n 2, 1) := by decide +kernel
theorem dX10_year_38 : decode cX10_year 38 = .ok (.aload_n 0, 1) := by decide +kernel
theorem dX10_year_39 : decode cX10_year 39 = .ok (.getfield 198, 3) := by decide +kernel
theorem dX10_year_42 : decode cX10_year 42 = .ok (.if_icmp .ge 29, 3) := by decide +kernel
theorem dX10_year_71 : decode cX10_year 71 = .ok (.goto 72, 3) := by decide +kernel
theorem dX10_year_45 : decode cX10_year 45 = .ok (.aload_n 0, 1) := by decide +kernel
theorem dX10_year_46 : decode cX10_year 46 = .ok (.sipush 350, 3) := by decide +kernel
theorem dX10_year_49 : decode cX10_year 49 = .ok (.iload_n 2, 1) := by decide +kernel
theorem dX10_year_50 : decode cX10_year 50 = .ok (.invokevirtual 366, 3) := by decide +kernel
theorem dX10_year_53 : decode cX10_year 53 = .ok (.ifCond .eq 12, 3) := by decide +kernel
theorem dX10_year_65 : decode cX10_year 65 = .ok (.iinc 2 1, 3) := by decide +kernel
theorem dX10_year_68 : decode cX10_year 68 = .ok (.goto (-31), 3) := by decide +kernel
theorem dX10_year_56 : decode cX10_year 56 = .ok (.aload_n 0, 1) := by decide +kernel
theorem dX10_year_57 : decode cX10_year 57 = .ok (.sipush 350, 3) := by decide +kernel
theorem dX10_year_60 : decode cX10_year 60 = .ok (.iload_n 2, 1) := by decide +kernel
theorem dX10_year_61 : decode cX10_year 61 = .ok (.invokevirtual 406, 3) := by decide +kernel
theorem dX10_year_64 : decode cX10_year 64 = .ok (.pop, 1) := by decide +kernel
theorem dX10_year_12 : decode cX10_year 12 = .ok (.aload_n 0, 1) := by decide +kernel
theorem dX10_year_13 : decode cX10_year 13 = .ok (.sipush 350, 3) := by decide +kernel
theorem dX10_year_16 : decode cX10_year 16 = .ok (.aload_n 0, 1) := by decide +kernel
theorem dX10_year_17 : decode cX10_year 17 = .ok (.bipush 6, 2) := by decide +kernel
theorem dX10_year_19 : decode cX10_year 19 = .ok (.invokevirtual 463, 3) := by decide +kernel
theorem dX10_year_22 : decode cX10_year 22 = .ok (.iconst 1, 1) := by decide +kernel
theorem dX10_year_23 : decode cX10_year 23 = .ok (.iadd, 1) := by decide +kernel
theorem dX10_year_24 : decode cX10_year 24 = .ok (.invokevirtual 400, 3) := by decide +kernel
theorem dX10_year_27 : decode cX10_year 27 = .ok (.goto 116, 3) := by decide +kernel
theorem dX10_years_0 : decode cX10_years 0 = .ok (.aload_n 0, 1) := by decide +kernel
theorem dX10_years_1 : decode cX10_years 1 = .ok (.iconst 0, 1) := by decide +kernel
theorem dX10_years_2 : decode cX10_years 2 = .ok (.putfield 110, 3) := by decide +kernel
theorem dX10_years_5 : decode cX10_years 5 = .ok (.aload_n 0, 1) := by decide +kernel
theorem dX10_years_6 : decode cX10_years 6 = .ok (.iload_n 3, 1) := by decide +kernel
theorem dX10_years_7 : decode cX10_years 7 = .ok (.iconst 0, 1) := by decide +kernel
theorem dX10_years_8 : decode cX10_years 8 = .ok (.iconst 2, 1) := by decide +kernel
theorem dX10_years_9 : decode cX10_years 9 = .ok (.invokestatic 281, 3) := by decide +kernel
theorem dX10_years_12 : decode cX10_years 12 = .ok (.iconst 1, 1) := by decide +kernel
theorem dX10_years_13 : decode cX10_years 13 = .ok (.invokevirtual 324, 3) := by decide +kernel
theorem dX10_years_16 : decode cX10_years 16 = .ok (.ifCond .eq 18, 3) := by decide +kernel
theorem dX10_years_19 : decode cX10_years 19 = .ok (.aload_n 0, 1) := by decide +kernel
theorem dX10_years_20 : decode cX10_years 20 = .ok (.iload_n 2, 1) := by decide +kernel
theorem dX10_years_21 : decode cX10_years 21 = .ok (.iconst 0, 1) := by decide +kernel
theorem dX10_years_22 : decode cX10_years 22 = .ok (.bipush 30, 2) := by decide +kernel
theorem dX10_years_24 : decode cX10_years 24 = .ok (.invokestatic 281, 3) := by decide +kernel
theorem dX10_years_27 : decode cX10_years 27 = .ok (.iconst 2, 1) := by decide +kernel
theorem dX10_years_28 : decode cX10_years 28 = .ok (.invokevirtual 324, 3) := by decide +kernel
theorem dX10_years_31 : decode cX10_years 31 = .ok (.ifCond .ne 5, 3) := by decide +kernel
theorem dX10_years_36 : decode cX10_years 36 = .ok (.aload_n 0, 1) := by decide +kernel
theorem dX10_years_37 : decode cX10_years 37 = .ok (.invokevirtual 409, 3) := by decide +kernel
theorem dX10_years_40 : decode cX10_years 40 = .ok (.aload_n 0, 1) := by decide +kernel
theorem dX10_years_41 : decode cX10_years 41 = .ok (.iload_n 1, 1) := by decide +kernel
theorem dX10_years_42 : decode cX10_years 42 = .ok (.putfield 459, 3) := by decide +kernel
theorem dX10_years_45 : decode cX10_years 45 = .ok (.iconst 0, 1) := by decide +kernel
theorem dX10_years_46 : decode cX10_years 46 = .ok (.istore 4, 2) := by decide +kernel
theorem dX10_years_48 : decode cX10_years 48 = .ok (.iload 4, 2) := by decide +kernel
theorem dX10_years_50 : decode cX10_years 50 = .ok (.iload_n 2, 1) := by decide +kernel
theorem dX10_years_51 : decode cX10_years 51 = .ok (.if_icmp .ge 13, 3) := by decide +kernel
theorem dX10_years_64 : decode cX10_years 64 = .ok (.iload_n 3, 1) := by decide +kernel
theorem dX10_years_65 : decode cX10_years 65 = .ok (.iconst 2, 1) := by decide +kernel
theorem dX10_years_66 : decode cX10_years 66 = .ok (.if_icmp .ge 41, 3) := by decide +kernel
theorem dX10_years_107 : decode cX10_years 107 = .ok (.iconst 0, 1) := by decide +kernel
theorem dX10_years_108 : decode cX10_years 108 = .ok (.istore 4, 2) := by decide +kernel
theorem dX10_years_110 : decode cX10_years 110 = .ok (.iconst 0, 1) := by decide +kernel
theorem dX10_years_111 : decode cX10_years 111 = .ok (.istore 5, 2) := by decide +kernel
theorem dX10_years_113 : decode cX10_years 113 = .ok (.iload 5, 2) := by decide +kernel
theorem dX10_years_115 : decode cX10_years 115 = .ok (.aload_n 0, 1) := by decide +kernel
theorem dX10_years_116 : decode cX10_years 116 = .ok (.getfield 198, 3) := by decide +kernel
theorem dX10_years_119 : decode cX10_years 119 = .ok (.if_icmp .ge 24, 3) := by decide +kernel
theorem dX10_years_143 : decode cX10_years 143 = .ok (.iload 4, 2) := by decide +kernel
theorem dX10_years_145 : decode cX10_years 145 = .ok (.ireturn, 1) := by decide +kernel
theorem dX10_years_122 : decode cX10_years 122 = .ok (.iload 4, 2) := by decide +kernel
theorem dX10_years_124 : decode cX10_years 124 = .ok (.aload_n 0, 1) := by decide +kernel
theorem dX10_years_125 : decode cX10_years 125 = .ok (.sipush 350, 3) := by decide +kernel
theorem dX10_years_128 : decode cX10_years 128 = .ok (.iload 5, 2) := by decide +kernel
theorem dX10_years_130 : decode cX10_years 130 = .ok (.iconst 3, 1) := by decide +kernel
theorem dX10_years_131 : decode cX10_years 131 = .ok (.invokevirtual 345, 3) := by decide +kernel
theorem dX10_years_134 : decode cX10_years 134 = .ok (.iadd, 1) := by decide +kernel
theorem dX10_years_135 : decode cX10_years 135 = .ok (.istore 4, 2) := by decide +kernel
theorem dX10_years_137 : decode cX10_years 137 = .ok (.iinc 5 1, 3) := by decide +kernel
theorem dX10_years_140 : decode cX10_years 140 = .ok (.goto (-27), 3) := by decide +kernel
theorem dX10_years_69 : decode cX10_years 69 = .ok (.iload_n 3, 1) := by decide +kernel
theorem dX10_years_70 : decode cX10_years 70 = .ok (.ifCond .ne 21, 3) := by decide +kernel
theorem dX10_years_91 : decode cX10_years 91 = .ok (.aload_n 0, 1) := by decide +kernel
theorem dX10_years_92 : decode cX10_years 92 = .ok (.getfield 9, 3) := by decide +kernel
theorem dX10_years_95 : decode cX10_years 95 = .ok (.sipush 353, 3) := by decide +kernel
theorem dX10_years_98 : decode cX10_years 98 = .ok (.iaload, 1) := by decide +kernel
theorem dX10_years_99 : decode cX10_years 99 = .ok (.aload_n 0, 1) := by decide +kernel
theorem dX10_years_100 : decode cX10_years 100 = .ok (.getfield 9, 3) := by decide +kernel
theorem dX10_years_103 : decode cX10_years 103 = .ok (.iconst 3, 1) := by decide +kernel
theorem dX10_years_104 : decode cX10_years 104 = .ok (.iaload, 1) := by decide +kernel
theorem dX10_years_105 : decode cX10_years 105 = .ok (.isub, 1) := by decide +kernel
theorem dX10_years_106 : decode cX10_years 106 = .ok (.ireturn, 1) := by decide +kernel
theorem dX10_years_73 : decode cX10_years 73 = .ok (.aload_n 0, 1) := by decide +kernel
theorem dX10_years_74 : decode cX10_years 74 = .ok (.getfield 9, 3) := by decide +kernel
theorem dX10_years_77 : decode cX10_years 77 = .ok (.sipush 354, 3) := by decide +kernel
theorem dX10_years_80 : decode cX10_years 80 = .ok (.iaload, 1) := by decide +kernel
theorem dX10_years_81 : decode cX10_years 81 = .ok (.aload_n 0, 1) := by decide +kernel
theorem dX10_years_82 : decode cX10_years 82 = .ok (.getfield 9, 3) := by decide +kernel
theorem dX10_years_85 : decode cX10_years 85 = .ok (.iconst 4, 1) := by decide +kernel
theorem dX10_years_86 : decode cX10_years 86 = .ok (.iaload, 1) := by decide +kernel
theorem dX10_years_87 : decode cX10_years 87 = .ok (.isub, 1) := by decide +kernel
theorem dX10_years_88 : decode cX10_years 88 = .ok (.goto 18, 3) := by decide +kernel
theorem dX10_years_54 : decode cX10_years 54 = .ok (.aload_n 0, 1) := by decide +kernel
theorem dX10_years_55 : decode cX10_years 55 = .ok (.invokevirtual 466, 3) := by decide +kernel
theorem dX10_years_58 : decode cX10_years 58 = .ok (.iinc 4 1, 3) := by decide +kernel
theorem dX10_years_61 : decode cX10_years 61 = .ok (.goto (-13), 3) := by decide +kernel
theorem dX10_years_34 : decode cX10_years 34 = .ok (.iconst 0, 1) := by decide +kernel
theorem dX10_years_35 : decode cX10_years 35 = .ok (.ireturn, 1) := by decide +kernel
theorem dX10_isNoted_0 : decode cX10_isNoted 0 = .ok (.iconst 1, 1) := by decide +kernel
theorem dX10_isNoted_1 : decode cX10_isNoted 1 = .ok (.istore_n 1, 1) := by decide +kernel
theorem dX10_isNoted_2 : decode cX10_isNoted 2 = .ok (.aload_n 0, 1) := by decide +kernel
theorem dX10_isNoted_3 : decode cX10_isNoted 3 = .ok (.invokevirtual 409, 3) := by decide +kernel
theorem dX10_isNoted_6 : decode cX10_isNoted 6 = .ok (.iconst 0, 1) := by decide +kernel
theorem dX10_isNoted_7 : decode cX10_isNoted 7 = .ok (.istore_n 2, 1) := by decide +kernel
theorem dX10_isNoted_8 : decode cX10_isNoted 8 = .ok (.iload_n 2, 1) := by decide +kernel
theorem dX10_isNoted_9 : decode cX10_isNoted 9 = .ok (.bipush 48, 2) := by decide +kernel
theorem dX10_isNoted_11 : decode cX10_isNoted 11 = .ok (.if_icmp .gt 112, 3) := by decide +kernel
theorem dX10_isNoted_123 : decode cX10_isNoted 123 = .ok (.iload_n 1, 1) := by decide +kernel
theorem dX10_isNoted_124 : decode cX10_isNoted 124 = .ok (.ireturn, 1) := by decide +kernel
theorem dX10_isNoted_14 : decode cX10_isNoted 14 = .ok (.iconst 0, 1) := by decide +kernel
theorem dX10_isNoted_15 : decode cX10_isNoted 15 = .ok (.istore_n 3, 1) := by decide +kernel
theorem dX10_isNoted_16 : decode cX10_isNoted 16 = .ok (.iload_n 3, 1) := by decide +kernel
theorem dX10_isNoted_17 : decode cX10_isNoted 17 = .ok (.aload_n 0, 1) := by decide +kernel
theorem dX10_isNoted_18 : decode cX10_isNoted 18 = .ok (.getfield 336, 3) := by decide +kernel
theorem dX10_isNoted_21 : decode cX10_isNoted 21 = .ok (.if_icmp .ge 52, 3) := by decide +kernel
theorem dX10_isNoted_73 : decode cX10_isNoted 73 = .ok (.iload_n 2, 1) := by decide +kernel
theorem dX10_isNoted_74 : decode cX10_isNoted 74 = .ok (.bipush 24, 2) := by decide +kernel
theorem dX10_isNoted_76 : decode cX10_isNoted 76 = .ok (.if_icmp .ne 34, 3) := by decide +kernel
theorem dX10_isNoted_110 : decode cX10_isNoted 110 = .ok (.aload_n 0, 1) := by decide +kernel
theorem dX10_isNoted_111 : decode cX10_isNoted 111 = .ok (.sipush 350, 3) := by decide +kernel
theorem dX10_isNoted_114 : decode cX10_isNoted 114 = .ok (.invokevirtual 219, 3) := by decide +kernel
theorem dX10_isNoted_117 : decode cX10_isNoted 117 = .ok (.iinc 2 1, 3) := by decide +kernel
theorem dX10_isNoted_120 : decode cX10_isNoted 120 = .ok (.goto (-112), 3) := by decide +kernel
theorem dX10_isNoted_79 : decode cX10_isNoted 79 = .ok (.iconst 0, 1) := by decide +kernel
theorem dX10_isNoted_80 : decode cX10_isNoted 80 = .ok (.istore_n 3, 1) := by decide +kernel
theorem dX10_isNoted_81 : decode cX10_isNoted 81 = .ok (.iload_n 3, 1) := by decide +kernel
theorem dX10_isNoted_82 : decode cX10_isNoted 82 = .ok (.aload_n 0, 1) := by decide +kernel
theorem dX10_isNoted_83 : decode cX10_isNoted 83 = .ok (.getfield 198, 3) := by decide +kernel
theorem dX10_isNoted_86 : decode cX10_isNoted 86 = .ok (.if_icmp .ge 24, 3) := by decide +kernel
theorem dX10_isNoted_89 : decode cX10_isNoted 89 = .ok (.aload_n 0, 1) := by decide +kernel
theorem dX10_isNoted_90 : decode cX10_isNoted 90 = .ok (.getfield 101, 3) := by decide +kernel
theorem dX10_isNoted_93 : decode cX10_isNoted 93 = .ok (.iload_n 3, 1) := by decide +kernel
theorem dX10_isNoted_94 : decode cX10_isNoted 94 = .ok (.aload_n 0, 1) := by decide +kernel
theorem dX10_isNoted_95 : decode cX10_isNoted 95 = .ok (.sipush 350, 3) := by decide +kernel
theorem dX10_isNoted_98 : decode cX10_isNoted 98 = .ok (.iload_n 3, 1) := by decide +kernel
theorem dX10_isNoted_99 : decode cX10_isNoted 99 = .ok (.iconst 3, 1) := by decide +kernel
theorem dX10_isNoted_100 : decode cX10_isNoted 100 = .ok (.invokevirtual 345, 3) := by decide +kernel
theorem dX10_isNoted_103 : decode cX10_isNoted 103 = .ok (.iastore, 1) := by decide +kernel
theorem dX10_isNoted_104 : decode cX10_isNoted 104 = .ok (.iinc 3 1, 3) := by decide +kernel
theorem dX10_isNoted_107 : decode cX10_isNoted 107 = .ok (.goto (-26), 3) := by decide +kernel
theorem dX10_isNoted_24 : decode cX10_isNoted 24 = .ok (.iload_n 1, 1) := by decide +kernel
theorem dX10_isNoted_25 : decode cX10_isNoted 25 = .ok (.ifCond .eq 40, 3) := by decide +kernel
theorem dX10_isNoted_65 : decode cX10_isNoted 65 = .ok (.iconst 0, 1) := by decide +kernel
theorem dX10_isNoted_66 : decode cX10_isNoted 66 = .ok (.istore_n 1, 1) := by decide +kernel
theorem dX10_isNoted_67 : decode cX10_isNoted 67 = .ok (.iinc 3 1, 3) := by decide +kernel
theorem dX10_isNoted_70 : decode cX10_isNoted 70 = .ok (.goto (-54), 3) := by decide +kernel
theorem dX10_isNoted_28 : decode cX10_isNoted 28 = .ok (.aload_n 0, 1) := by decide +kernel
theorem dX10_isNoted_29 : decode cX10_isNoted 29 = .ok (.getfield 34, 3) := by decide +kernel
theorem dX10_isNoted_32 : decode cX10_isNoted 32 = .ok (.iload_n 3, 1) := by decide +kernel
theorem dX10_isNoted_33 : decode cX10_isNoted 33 = .ok (.iaload, 1) := by decide +kernel
theorem dX10_isNoted_34 : decode cX10_isNoted 34 = .ok (.iload_n 2, 1) := by decide +kernel
theorem dX10_isNoted_35 : decode cX10_isNoted 35 = .ok (.if_icmp .ne 26, 3) := by decide +kernel
theorem dX10_isNoted_61 : decode cX10_isNoted 61 = .ok (.iconst 1, 1) := by decide +kernel
theorem dX10_isNoted_62 : decode cX10_isNoted 62 = .ok (.goto 4, 3) := by decide +kernel
theorem dX10_isNoted_38 : decode cX10_isNoted 38 = .ok (.aload_n 0, 1) := by decide +kernel
theorem dX10_isNoted_39 : decode cX10_isNoted 39 = .ok (.sipush 350, 3) := by decide +kernel
theorem dX10_isNoted_42 : decode cX10_isNoted 42 = .ok (.aload_n 0, 1) := by decide +kernel
theorem dX10_isNoted_43 : decode cX10_isNoted 43 = .ok (.getfield 31, 3) := by decide +kernel
theorem dX10_isNoted_46 : decode cX10_isNoted 46 = .ok (.iload_n 3, 1) := by decide +kernel
theorem dX10_isNoted_47 : decode cX10_isNoted 47 = .ok (.iaload, 1) := by decide +kernel
theorem dX10_isNoted_48 : decode cX10_isNoted 48 = .ok (.iconst 3, 1) := by decide +kernel
theorem dX10_isNoted_49 : decode cX10_isNoted 49 = .ok (.invokevirtual 345, 3) := by decide +kernel
theorem dX10_isNoted_52 : decode cX10_isNoted 52 = .ok (.aload_n 0, 1) := by decide +kernel
theorem dX10_isNoted_53 : decode cX10_isNoted 53 = .ok (.getfield 37, 3) := by decide +kernel
theorem dX10_isNoted_56 : decode cX10_isNoted 56 = .ok (.iload_n 3, 1) := by decide +kernel
theorem dX10_isNoted_57 : decode cX10_isNoted 57 = .ok (.iaload, 1) := by decide +kernel
theorem dX10_isNoted_58 : decode cX10_isNoted 58 = .ok (.if_icmp .ne 7, 3) := by decide +kernel
theorem dX10_isGuess_0 : decode cX10_isGuess 0 = .ok (.aload_n 0, 1) := by decide +kernel
theorem dX10_isGuess_1 : decode cX10_isGuess 1 = .ok (.getfield 22, 3) := by decide +kernel
theorem dX10_isGuess_4 : decode cX10_isGuess 4 = .ok (.iload_n 1, 1) := by decide +kernel
theorem dX10_isGuess_5 : decode cX10_isGuess 5 = .ok (.iaload, 1) := by decide +kernel
theorem dX10_isGuess_6 : decode cX10_isGuess 6 = .ok (.iconst 1, 1) := by decide +kernel
theorem dX10_isGuess_7 : decode cX10_isGuess 7 = .ok (.iconst 2, 1) := by decide +kernel
theorem dX10_isGuess_8 : decode cX10_isGuess 8 = .ok (.invokestatic 281, 3) := by decide +kernel
theorem dX10_isGuess_11 : decode cX10_isGuess 11 = .ok (.ifCond .eq 13, 3) := by decide +kernel
theorem dX10_isGuess_14 : decode cX10_isGuess 14 = .ok (.aload_n 0, 1) := by decide +kernel
theorem dX10_isGuess_15 : decode cX10_isGuess 15 = .ok (.getfield 25, 3) := by decide +kernel
theorem dX10_isGuess_18 : decode cX10_isGuess 18 = .ok (.iload_n 1, 1) := by decide +kernel
theorem dX10_isGuess_19 : decode cX10_isGuess 19 = .ok (.iaload, 1) := by decide +kernel
theorem dX10_isGuess_20 : decode cX10_isGuess 20 = .ok (.iload_n 2, 1) := by decide +kernel
theorem dX10_isGuess_21 : decode cX10_isGuess 21 = .ok (.if_icmp .ne 5, 3) := by decide +kernel
theorem dX10_isGuess_26 : decode cX10_isGuess 26 = .ok (.aload_n 0, 1) := by decide +kernel
theorem dX10_isGuess_27 : decode cX10_isGuess 27 = .ok (.iload_n 1, 1) := by decide +kernel
theorem dX10_isGuess_28 : decode cX10_isGuess 28 = .ok (.putfield 56, 3) := by decide +kernel
theorem dX10_isGuess_31 : decode cX10_isGuess 31 = .ok (.aload_n 0, 1) := by decide +kernel
theorem dX10_isGuess_32 : decode cX10_isGuess 32 = .ok (.iload_n 2, 1) := by decide +kernel
theorem dX10_isGuess_33 : decode cX10_isGuess 33 = .ok (.putfield 167, 3) := by decide +kernel
theorem dX10_isGuess_36 : decode cX10_isGuess 36 = .ok (.aload_n 0, 1) := by decide +kernel
theorem dX10_isGuess_37 : decode cX10_isGuess 37 = .ok (.invokevirtual 450, 3) := by decide +kernel
theorem dX10_isGuess_40 : decode cX10_isGuess 40 = .ok (.istore_n 3, 1) := by decide +kernel
theorem dX10_isGuess_41 : decode cX10_isGuess 41 = .ok (.aload_n 0, 1) := by decide +kernel
theorem dX10_isGuess_42 : decode cX10_isGuess 42 = .ok (.iconst (-1), 1) := by decide +kernel
theorem dX10_isGuess_43 : decode cX10_isGuess 43 = .ok (.putfield 56, 3) := by decide +kernel
theorem dX10_isGuess_46 : decode cX10_isGuess 46 = .ok (.iload_n 3, 1) := by decide +kernel
theorem dX10_isGuess_47 : decode cX10_isGuess 47 = .ok (.ireturn, 1) := by decide +kernel
theorem dX10_isGuess_24 : decode cX10_isGuess 24 = .ok (.iconst 0, 1) := by decide +kernel
theorem dX10_isGuess_25 : decode cX10_isGuess 25 = .ok (.ireturn, 1) := by decide +kernel
theorem dX10_falls_0 : decode cX10_falls 0 = .ok (.aload_n 0, 1) := by decide +kernel
theorem dX10_falls_1 : decode cX10_falls 1 = .ok (.iconst 0, 1) := by decide +kernel
theorem dX10_falls_2 : decode cX10_falls 2 = .ok (.putfield 110, 3) := by decide +kernel
theorem dX10_falls_5 : decode cX10_falls 5 = .ok (.aload_n 0, 1) := by decide +kernel
theorem dX10_falls_6 : decode cX10_falls 6 = .ok (.iload_n 1, 1) := by decide +kernel
theorem dX10_falls_7 : decode cX10_falls 7 = .ok (.iconst 0, 1) := by decide +kernel
theorem dX10_falls_8 : decode cX10_falls 8 = .ok (.iconst 2, 1) := by decide +kernel
theorem dX10_falls_9 : decode cX10_falls 9 = .ok (.invokestatic 281, 3) := by decide +kernel
theorem dX10_falls_12 : decode cX10_falls 12 = .ok (.iconst 1, 1) := by decide +kernel
theorem dX10_falls_13 : decode cX10_falls 13 = .ok (.invokevirtual 324, 3) := by decide +kernel
theorem dX10_falls_16 : decode cX10_falls 16 = .ok (.ifCond .ne 5, 3) := by decide +kernel
theorem dX10_falls_21 : decode cX10_falls 21 = .ok (.iload_n 1, 1) := by decide +kernel
theorem dX10_falls_22 : decode cX10_falls 22 = .ok (.iconst 2, 1) := by decide +kernel
theorem dX10_falls_23 : decode cX10_falls 23 = .ok (.if_icmp .ne 16, 3) := by decide +kernel
theorem dX10_falls_39 : decode cX10_falls 39 = .ok (.iconst 0, 1) := by decide +kernel
theorem dX10_falls_40 : decode cX10_falls 40 = .ok (.istore_n 2, 1) := by decide +kernel
theorem dX10_falls_41 : decode cX10_falls 41 = .ok (.iconst (-1), 1) := by decide +kernel
theorem dX10_falls_42 : decode cX10_falls 42 = .ok (.istore_n 3, 1) := by decide +kernel
theorem dX10_falls_43 : decode cX10_falls 43 = .ok (.iconst 0, 1) := by decide +kernel
theorem dX10_falls_44 : decode cX10_falls 44 = .ok (.istore 4, 2) := by decide +kernel
theorem dX10_falls_46 : decode cX10_falls 46 = .ok (.iload 4, 2) := by decide +kernel
theorem dX10_falls_48 : decode cX10_falls 48 = .ok (.aload_n 0, 1) := by decide +kernel
theorem dX10_falls_49 : decode cX10_falls 49 = .ok (.getfield 153, 3) := by decide +kernel
theorem dX10_falls_52 : decode cX10_falls 52 = .ok (.if_icmp .ge 55, 3) := by decide +kernel
theorem dX10_falls_107 : decode cX10_falls 107 = .ok (.iload_n 1, 1) := by decide +kernel
theorem dX10_falls_108 : decode cX10_falls 108 = .ok (.ifCond .ne 7, 3) := by decide +kernel
theorem dX10_falls_115 : decode cX10_falls 115 = .ok (.iload_n 3, 1) := by decide +kernel
theorem dX10_falls_116 : decode cX10_falls 116 = .ok (.ireturn, 1) := by decide +kernel
theorem dX10_falls_111 : decode cX10_falls 111 = .ok (.iload_n 2, 1) := by decide +kernel
theorem dX10_falls_112 : decode cX10_falls 112 = .ok (.goto 4, 3) := by decide +kernel
theorem dX10_falls_55 : decode cX10_falls 55 = .ok (.iconst 1, 1) := by decide +kernel
theorem dX10_falls_56 : decode cX10_falls 56 = .ok (.istore 5, 2) := by decide +kernel
theorem dX10_falls_58 : decode cX10_falls 58 = .ok (.iload 5, 2) := by decide +kernel
theorem dX10_falls_60 : decode cX10_falls 60 = .ok (.bipush 50, 2) := by decide +kernel
theorem dX10_falls_62 : decode cX10_falls 62 = .ok (.if_icmp .gt 39, 3) := by decide +kernel
theorem dX10_falls_101 : decode cX10_falls 101 = .ok (.iinc 4 1, 3) := by decide +kernel
theorem dX10_falls_104 : decode cX10_falls 104 = .ok (.goto (-58), 3) := by decide +kernel
theorem dX10_falls_65 : decode cX10_falls 65 = .ok (.aload_n 0, 1) := by decide +kernel
theorem dX10_falls_66 : decode cX10_falls 66 = .ok (.iload 4, 2) := by decide +kernel
theorem dX10_falls_68 : decode cX10_falls 68 = .ok (.iload 5, 2) := by decide +kernel
theorem dX10_falls_70 : decode cX10_falls 70 = .ok (.invokevirtual 453, 3) := by decide +kernel
theorem dX10_falls_73 : decode cX10_falls 73 = .ok (.ifCond .ne 6, 3) := by decide +kernel
theorem dX10_falls_79 : decode cX10_falls 79 = .ok (.iload_n 2, 1) := by decide +kernel
theorem dX10_falls_80 : decode cX10_falls 80 = .ok (.ifCond .ne 12, 3) := by decide +kernel
theorem dX10_falls_92 : decode cX10_falls 92 = .ok (.iinc 2 1, 3) := by decide +kernel
theorem dX10_falls_95 : decode cX10_falls 95 = .ok (.iinc 5 1, 3) := by decide +kernel
theorem dX10_falls_98 : decode cX10_falls 98 = .ok (.goto (-40), 3) := by decide +kernel
theorem dX10_falls_83 : decode cX10_falls 83 = .ok (.bipush 100, 2) := by decide +kernel
theorem dX10_falls_85 : decode cX10_falls 85 = .ok (.iload 4, 2) := by decide +kernel
theorem dX10_falls_87 : decode cX10_falls 87 = .ok (.imul, 1) := by decide +kernel
theorem dX10_falls_88 : decode cX10_falls 88 = .ok (.iload 5, 2) := by decide +kernel
theorem dX10_falls_90 : decode cX10_falls 90 = .ok (.iadd, 1) := by decide +kernel
theorem dX10_falls_91 : decode cX10_falls 91 = .ok (.istore_n 3, 1) := by decide +kernel
theorem dX10_falls_76 : decode cX10_falls 76 = .ok (.goto 19, 3) := by decide +kernel
theorem dX10_falls_26 : decode cX10_falls 26 = .ok (.aload_n 0, 1) := by decide +kernel
theorem dX10_falls_27 : decode cX10_falls 27 = .ok (.invokevirtual 450, 3) := by decide +kernel
theorem dX10_falls_30 : decode cX10_falls 30 = .ok (.ifCond .eq 7, 3) := by decide +kernel
theorem dX10_falls_37 : decode cX10_falls 37 = .ok (.iconst 0, 1) := by decide +kernel
theorem dX10_falls_38 : decode cX10_falls 38 = .ok (.ireturn, 1) := by decide +kernel
theorem dX10_falls_33 : decode cX10_falls 33 = .ok (.iconst 1, 1) := by decide +kernel
theorem dX10_falls_34 : decode cX10_falls 34 = .ok (.goto 4, 3) := by decide +kernel
theorem dX10_falls_19 : decode cX10_falls 19 = .ok (.iconst 0, 1) := by decide +kernel
theorem dX10_falls_20 : decode cX10_falls 20 = .ok (.ireturn, 1) := by decide +kernel
theorem dX10_unlike_5 : decode cX10_unlike 5 = .ok (.iload 4, 2) := by decide +kernel
theorem dX10_unlike_7 : decode cX10_unlike 7 = .ok (.iload_n 2, 1) := by decide +kernel
theorem dX10_unlike_8 : decode cX10_unlike 8 = .ok (.if_icmp .ge 78, 3) := by decide +kernel
theorem dX10_unlike_86 : decode cX10_unlike 86 = .ok (.iload_n 3, 1) := by decide +kernel
theorem dX10_unlike_87 : decode cX10_unlike 87 = .ok (.ireturn, 1) := by decide +kernel
theorem dX10_unlike_11 : decode cX10_unlike 11 = .ok (.iconst 1, 1) := by decide +kernel
theorem dX10_unlike_12 : decode cX10_unlike 12 = .ok (.istore 5, 2) := by decide +kernel
theorem dX10_unlike_14 : decode cX10_unlike 14 = .ok (.iconst 0, 1) := by decide +kernel
theorem dX10_unlike_15 : decode cX10_unlike 15 = .ok (.istore 6, 2) := by decide +kernel
theorem dX10_unlike_17 : decode cX10_unlike 17 = .ok (.iload 6, 2) := by decide +kernel
theorem dX10_unlike_19 : decode cX10_unlike 19 = .ok (.iload 4, 2) := by decide +kernel
theorem dX10_unlike_21 : decode cX10_unlike 21 = .ok (.if_icmp .ge 46, 3) := by decide +kernel
theorem dX10_unlike_67 : decode cX10_unlike 67 = .ok (.iload_n 3, 1) := by decide +kernel
theorem dX10_unlike_68 : decode cX10_unlike 68 = .ok (.iload 5, 2) := by decide +kernel
theorem dX10_unlike_70 : decode cX10_unlike 70 = .ok (.ifCond .eq 7, 3) := by decide +kernel
theorem dX10_unlike_77 : decode cX10_unlike 77 = .ok (.iconst 0, 1) := by decide +kernel
theorem dX10_unlike_78 : decode cX10_unlike 78 = .ok (.iadd, 1) := by decide +kernel
theorem dX10_unlike_79 : decode cX10_unlike 79 = .ok (.istore_n 3, 1) := by decide +kernel
theorem dX10_unlike_80 : decode cX10_unlike 80 = .ok (.iinc 4 1, 3) := by decide +kernel
theorem dX10_unlike_83 : decode cX10_unlike 83 = .ok (.goto (-78), 3) := by decide +kernel
theorem dX10_unlike_73 : decode cX10_unlike 73 = .ok (.iconst 1, 1) := by decide +kernel
theorem dX10_unlike_74 : decode cX10_unlike 74 = .ok (.goto 4, 3) := by decide +kernel
theorem dX10_unlike_24 : decode cX10_unlike 24 = .ok (.iload 5, 2) := by decide +kernel
theorem dX10_unlike_26 : decode cX10_unlike 26 = .ok (.ifCond .eq 41, 3) := by decide +kernel
theorem dX10_unlike_29 : decode cX10_unlike 29 = .ok (.aload_n 0, 1) := by decide +kernel
theorem dX10_unlike_30 : decode cX10_unlike 30 = .ok (.getfield 104, 3) := by decide +kernel
theorem dX10_unlike_33 : decode cX10_unlike 33 = .ok (.iconst 4, 1) := by decide +kernel
theorem dX10_unlike_34 : decode cX10_unlike 34 = .ok (.iload 6, 2) := by decide +kernel
theorem dX10_unlike_36 : decode cX10_unlike 36 = .ok (.imul, 1) := by decide +kernel
theorem dX10_unlike_37 : decode cX10_unlike 37 = .ok (.iload_n 1, 1) := by decide +kernel
theorem dX10_unlike_38 : decode cX10_unlike 38 = .ok (.iadd, 1) := by decide +kernel
theorem dX10_unlike_39 : decode cX10_unlike 39 = .ok (.iaload, 1) := by decide +kernel
theorem dX10_unlike_40 : decode cX10_unlike 40 = .ok (.aload_n 0, 1) := by decide +kernel
theorem dX10_unlike_41 : decode cX10_unlike 41 = .ok (.getfield 104, 3) := by decide +kernel
theorem dX10_unlike_44 : decode cX10_unlike 44 = .ok (.iconst 4, 1) := by decide +kernel
theorem dX10_unlike_45 : decode cX10_unlike 45 = .ok (.iload 4, 2) := by decide +kernel
theorem dX10_unlike_47 : decode cX10_unlike 47 = .ok (.imul, 1) := by decide +kernel
theorem dX10_unlike_48 : decode cX10_unlike 48 = .ok (.iload_n 1, 1) := by decide +kernel
theorem dX10_unlike_49 : decode cX10_unlike 49 = .ok (.iadd, 1) := by decide +kernel
theorem dX10_unlike_50 : decode cX10_unlike 50 = .ok (.iaload, 1) := by decide +kernel
theorem dX10_unlike_51 : decode cX10_unlike 51 = .ok (.if_icmp .eq 7, 3) := by decide +kernel
theorem dX10_unlike_58 : decode cX10_unlike 58 = .ok (.iconst 0, 1) := by decide +kernel
theorem dX10_unlike_59 : decode cX10_unlike 59 = .ok (.istore 5, 2) := by decide +kernel
theorem dX10_unlike_61 : decode cX10_unlike 61 = .ok (.iinc 6 1, 3) := by decide +kernel
theorem dX10_unlike_64 : decode cX10_unlike 64 = .ok (.goto (-47), 3) := by decide +kernel
theorem dX10_unlike_54 : decode cX10_unlike 54 = .ok (.iconst 1, 1) := by decide +kernel
theorem dX10_unlike_55 : decode cX10_unlike 55 = .ok (.goto 4, 3) := by decide +kernel
theorem dX10_unlike_0 : decode cX10_unlike 0 = .ok (.iconst 0, 1) := by decide +kernel
theorem dX10_unlike_1 : decode cX10_unlike 1 = .ok (.istore_n 3, 1) := by decide +kernel
theorem dX10_unlike_2 : decode cX10_unlike 2 = .ok (.iconst 0, 1) := by decide +kernel
theorem dX10_unlike_3 : decode cX10_unlike 3 = .ok (.istore 4, 2) := by decide +kernel
theorem dX10_look_0 : decode cX10_look 0 = .ok (.aload_n 0, 1) := by decide +kernel
theorem dX10_look_1 : decode cX10_look 1 = .ok (.iconst 0, 1) := by decide +kernel
theorem dX10_look_2 : decode cX10_look 2 = .ok (.putfield 110, 3) := by decide +kernel
theorem dX10_look_5 : decode cX10_look 5 = .ok (.aload_n 0, 1) := by decide +kernel
theorem dX10_look_6 : decode cX10_look 6 = .ok (.iload_n 1, 1) := by decide +kernel
theorem dX10_look_7 : decode cX10_look 7 = .ok (.iconst 0, 1) := by decide +kernel
theorem dX10_look_8 : decode cX10_look 8 = .ok (.iconst 1, 1) := by decide +kernel
theorem dX10_look_9 : decode cX10_look 9 = .ok (.invokestatic 281, 3) := by decide +kernel
theorem dX10_look_12 : decode cX10_look 12 = .ok (.iconst 1, 1) := by decide +kernel
theorem dX10_look_13 : decode cX10_look 13 = .ok (.invokevirtual 324, 3) := by decide +kernel
theorem dX10_look_16 : decode cX10_look 16 = .ok (.ifCond .ne 5, 3) := by decide +kernel
theorem dX10_look_21 : decode cX10_look 21 = .ok (.iconst 0, 1) := by decide +kernel
theorem dX10_look_22 : decode cX10_look 22 = .ok (.istore_n 2, 1) := by decide +kernel
theorem dX10_look_23 : decode cX10_look 23 = .ok (.iconst 0, 1) := by decide +kernel
theorem dX10_look_24 : decode cX10_look 24 = .ok (.istore_n 3, 1) := by decide +kernel
theorem dX10_look_25 : decode cX10_look 25 = .ok (.iload_n 3, 1) := by decide +kernel
theorem dX10_look_26 : decode cX10_look 26 = .ok (.aload_n 0, 1) := by decide +kernel
theorem dX10_look_27 : decode cX10_look 27 = .ok (.getfield 153, 3) := by decide +kernel
theorem dX10_look_30 : decode cX10_look 30 = .ok (.if_icmp .ge 77, 3) := by decide +kernel
theorem dX10_look_107 : decode cX10_look 107 = .ok (.iconst (-1), 1) := by decide +kernel
theorem dX10_look_108 : decode cX10_look 108 = .ok (.istore_n 3, 1) := by decide +kernel
theorem dX10_look_109 : decode cX10_look 109 = .ok (.iconst 0, 1) := by decide +kernel
theorem dX10_look_110 : decode cX10_look 110 = .ok (.istore 4, 2) := by decide +kernel
theorem dX10_look_112 : decode cX10_look 112 = .ok (.iconst 0, 1) := by decide +kernel
theorem dX10_look_113 : decode cX10_look 113 = .ok (.istore 5, 2) := by decide +kernel
theorem dX10_look_115 : decode cX10_look 115 = .ok (.iload 5, 2) := by decide +kernel
theorem dX10_look_117 : decode cX10_look 117 = .ok (.aload_n 0, 1) := by decide +kernel
theorem dX10_look_118 : decode cX10_look 118 = .ok (.getfield 198, 3) := by decide +kernel
theorem dX10_look_121 : decode cX10_look 121 = .ok (.if_icmp .ge 35, 3) := by decide +kernel
theorem dX10_look_156 : decode cX10_look 156 = .ok (.iload_n 1, 1) := by decide +kernel
theorem dX10_look_157 : decode cX10_look 157 = .ok (.ifCond .ne 7, 3) := by decide +kernel
theorem dX10_look_164 : decode cX10_look 164 = .ok (.iload 4, 2) := by decide +kernel
theorem dX10_look_166 : decode cX10_look 166 = .ok (.ireturn, 1) := by decide +kernel
theorem dX10_look_160 : decode cX10_look 160 = .ok (.iload_n 3, 1) := by decide +kernel
theorem dX10_look_161 : decode cX10_look 161 = .ok (.goto 5, 3) := by decide +kernel
theorem dX10_look_124 : decode cX10_look 124 = .ok (.aload_n 0, 1) := by decide +kernel
theorem dX10_look_125 : decode cX10_look 125 = .ok (.iload 5, 2) := by decide +kernel
theorem dX10_look_127 : decode cX10_look 127 = .ok (.iload_n 2, 1) := by decide +kernel
theorem dX10_look_128 : decode cX10_look 128 = .ok (.invokevirtual 456, 3) := by decide +kernel
theorem dX10_look_131 : decode cX10_look 131 = .ok (.istore 6, 2) := by decide +kernel
theorem dX10_look_133 : decode cX10_look 133 = .ok (.iload 6, 2) := by decide +kernel
theorem dX10_look_135 : decode cX10_look 135 = .ok (.iload 4, 2) := by decide +kernel
theorem dX10_look_137 : decode cX10_look 137 = .ok (.if_icmp .gt 6, 3) := by decide +kernel
theorem dX10_look_143 : decode cX10_look 143 = .ok (.iload 5, 2) := by decide +kernel
theorem dX10_look_145 : decode cX10_look 145 = .ok (.istore_n 3, 1) := by decide +kernel
theorem dX10_look_146 : decode cX10_look 146 = .ok (.iload 6, 2) := by decide +kernel
theorem dX10_look_148 : decode cX10_look 148 = .ok (.istore 4, 2) := by decide +kernel
theorem dX10_look_150 : decode cX10_look 150 = .ok (.iinc 5 1, 3) := by decide +kernel
theorem dX10_look_153 : decode cX10_look 153 = .ok (.goto (-38), 3) := by decide +kernel
theorem dX10_look_140 : decode cX10_look 140 = .ok (.goto 10, 3) := by decide +kernel
theorem dX10_look_33 : decode cX10_look 33 = .ok (.iconst 1, 1) := by decide +kernel
theorem dX10_look_34 : decode cX10_look 34 = .ok (.istore 4, 2) := by decide +kernel
theorem dX10_look_36 : decode cX10_look 36 = .ok (.iload 4, 2) := by decide +kernel
theorem dX10_look_38 : decode cX10_look 38 = .ok (.bipush 50, 2) := by decide +kernel
theorem dX10_look_40 : decode cX10_look 40 = .ok (.if_icmp .gt 61, 3) := by decide +kernel
theorem dX10_look_101 : decode cX10_look 101 = .ok (.iinc 3 1, 3) := by decide +kernel
theorem dX10_look_104 : decode cX10_look 104 = .ok (.goto (-79), 3) := by decide +kernel
theorem dX10_look_43 : decode cX10_look 43 = .ok (.aload_n 0, 1) := by decide +kernel
theorem dX10_look_44 : decode cX10_look 44 = .ok (.iload_n 3, 1) := by decide +kernel
theorem dX10_look_45 : decode cX10_look 45 = .ok (.iload 4, 2) := by decide +kernel
theorem dX10_look_47 : decode cX10_look 47 = .ok (.invokevirtual 453, 3) := by decide +kernel
theorem dX10_look_50 : decode cX10_look 50 = .ok (.ifCond .ne 6, 3) := by decide +kernel
theorem dX10_look_56 : decode cX10_look 56 = .ok (.iconst 0, 1) := by decide +kernel
theorem dX10_look_57 : decode cX10_look 57 = .ok (.istore 5, 2) := by decide +kernel
theorem dX10_look_59 : decode cX10_look 59 = .ok (.iload 5, 2) := by decide +kernel
theorem dX10_look_61 : decode cX10_look 61 = .ok (.aload_n 0, 1) := by decide +kernel
theorem dX10_look_62 : decode cX10_look 62 = .ok (.getfield 198, 3) := by decide +kernel
theorem dX10_look_65 : decode cX10_look 65 = .ok (.if_icmp .ge 27, 3) := by decide +kernel
theorem dX10_look_92 : decode cX10_look 92 = .ok (.iinc 2 1, 3) := by decide +kernel
theorem dX10_look_95 : decode cX10_look 95 = .ok (.iinc 4 1, 3) := by decide +kernel
theorem dX10_look_98 : decode cX10_look 98 = .ok (.goto (-62), 3) := by decide +kernel
theorem dX10_look_68 : decode cX10_look 68 = .ok (.aload_n 0, 1) := by decide +kernel
theorem dX10_look_69 : decode cX10_look 69 = .ok (.getfield 104, 3) := by decide +kernel
theorem dX10_look_72 : decode cX10_look 72 = .ok (.iconst 4, 1) := by decide +kernel
theorem dX10_look_73 : decode cX10_look 73 = .ok (.iload_n 2, 1) := by decide +kernel
theorem dX10_look_74 : decode cX10_look 74 = .ok (.imul, 1) := by decide +kernel
theorem dX10_look_75 : decode cX10_look 75 = .ok (.iload 5, 2) := by decide +kernel
theorem dX10_look_77 : decode cX10_look 77 = .ok (.iadd, 1) := by decide +kernel
theorem dX10_look_78 : decode cX10_look 78 = .ok (.aload_n 0, 1) := by decide +kernel
theorem dX10_look_79 : decode cX10_look 79 = .ok (.getfield 101, 3) := by decide +kernel
theorem dX10_look_82 : decode cX10_look 82 = .ok (.iload 5, 2) := by decide +kernel
theorem dX10_look_84 : decode cX10_look 84 = .ok (.iaload, 1) := by decide +kernel
theorem dX10_look_85 : decode cX10_look 85 = .ok (.iastore, 1) := by decide +kernel
theorem dX10_look_86 : decode cX10_look 86 = .ok (.iinc 5 1, 3) := by decide +kernel
theorem dX10_look_89 : decode cX10_look 89 = .ok (.goto (-30), 3) := by decide +kernel
theorem dX10_look_53 : decode cX10_look 53 = .ok (.goto 42, 3) := by decide +kernel
theorem dX10_look_19 : decode cX10_look 19 = .ok (.iconst 0, 1) := by decide +kernel
theorem dX10_look_20 : decode cX10_look 20 = .ok (.ireturn, 1) := by decide +kernel
