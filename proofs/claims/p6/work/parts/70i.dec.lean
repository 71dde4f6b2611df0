-- decode rows of line
theorem dX9_writeLine_0 : decode cX9_writeLine 0 = .ok (.aload_n 0, 1) := by decide +kernel
theorem dX9_writeLine_1 : decode cX9_writeLine 1 = .ok (.getfield 78, 3) := by decide +kernel
theorem dX9_writeLine_4 : decode cX9_writeLine 4 = .ok (.iconst 0, 1) := by decide +kernel
theorem dX9_writeLine_5 : decode cX9_writeLine 5 = .ok (.invokevirtual 470, 3) := by decide +kernel
theorem dX9_writeLine_8 : decode cX9_writeLine 8 = .ok (.aload_n 0, 1) := by decide +kernel
theorem dX9_writeLine_9 : decode cX9_writeLine 9 = .ok (.getfield 78, 3) := by decide +kernel
theorem dX9_writeLine_12 : decode cX9_writeLine 12 = .ok (.aload_n 1, 1) := by decide +kernel
theorem dX9_writeLine_13 : decode cX9_writeLine 13 = .ok (.getfield 216, 3) := by decide +kernel
theorem dX9_writeLine_16 : decode cX9_writeLine 16 = .ok (.bipush 72, 2) := by decide +kernel
theorem dX9_writeLine_18 : decode cX9_writeLine 18 = .ok (.iload_n 2, 1) := by decide +kernel
theorem dX9_writeLine_19 : decode cX9_writeLine 19 = .ok (.iadd, 1) := by decide +kernel
theorem dX9_writeLine_20 : decode cX9_writeLine 20 = .ok (.iaload, 1) := by decide +kernel
theorem dX9_writeLine_21 : decode cX9_writeLine 21 = .ok (.invokevirtual 473, 3) := by decide +kernel
theorem dX9_writeLine_24 : decode cX9_writeLine 24 = .ok (.bipush 32, 2) := by decide +kernel
theorem dX9_writeLine_26 : decode cX9_writeLine 26 = .ok (.invokevirtual 477, 3) := by decide +kernel
theorem dX9_writeLine_29 : decode cX9_writeLine 29 = .ok (.pop, 1) := by decide +kernel
theorem dX9_writeLine_30 : decode cX9_writeLine 30 = .ok (.aload_n 0, 1) := by decide +kernel
theorem dX9_writeLine_31 : decode cX9_writeLine 31 = .ok (.getfield 78, 3) := by decide +kernel
theorem dX9_writeLine_34 : decode cX9_writeLine 34 = .ok (.aload_n 1, 1) := by decide +kernel
theorem dX9_writeLine_35 : decode cX9_writeLine 35 = .ok (.getfield 216, 3) := by decide +kernel
theorem dX9_writeLine_38 : decode cX9_writeLine 38 = .ok (.iconst 0, 1) := by decide +kernel
theorem dX9_writeLine_39 : decode cX9_writeLine 39 = .ok (.iload_n 2, 1) := by decide +kernel
theorem dX9_writeLine_40 : decode cX9_writeLine 40 = .ok (.iadd, 1) := by decide +kernel
theorem dX9_writeLine_41 : decode cX9_writeLine 41 = .ok (.iaload, 1) := by decide +kernel
theorem dX9_writeLine_42 : decode cX9_writeLine 42 = .ok (.invokestatic 480, 3) := by decide +kernel
theorem dX9_writeLine_45 : decode cX9_writeLine 45 = .ok (.invokevirtual 484, 3) := by decide +kernel
theorem dX9_writeLine_48 : decode cX9_writeLine 48 = .ok (.pop, 1) := by decide +kernel
theorem dX9_writeLine_49 : decode cX9_writeLine 49 = .ok (.aload_n 0, 1) := by decide +kernel
theorem dX9_writeLine_50 : decode cX9_writeLine 50 = .ok (.getfield 78, 3) := by decide +kernel
theorem dX9_writeLine_53 : decode cX9_writeLine 53 = .ok (.ldc_w 487, 3) := by decide +kernel
theorem dX9_writeLine_56 : decode cX9_writeLine 56 = .ok (.invokevirtual 484, 3) := by decide +kernel
theorem dX9_writeLine_59 : decode cX9_writeLine 59 = .ok (.aload_n 1, 1) := by decide +kernel
theorem dX9_writeLine_60 : decode cX9_writeLine 60 = .ok (.getfield 216, 3) := by decide +kernel
theorem dX9_writeLine_63 : decode cX9_writeLine 63 = .ok (.bipush 12, 2) := by decide +kernel
theorem dX9_writeLine_65 : decode cX9_writeLine 65 = .ok (.iload_n 2, 1) := by decide +kernel
theorem dX9_writeLine_66 : decode cX9_writeLine 66 = .ok (.iadd, 1) := by decide +kernel
theorem dX9_writeLine_67 : decode cX9_writeLine 67 = .ok (.iaload, 1) := by decide +kernel
theorem dX9_writeLine_68 : decode cX9_writeLine 68 = .ok (.invokevirtual 473, 3) := by decide +kernel
theorem dX9_writeLine_71 : decode cX9_writeLine 71 = .ok (.pop, 1) := by decide +kernel
theorem dX9_writeLine_72 : decode cX9_writeLine 72 = .ok (.aload_n 1, 1) := by decide +kernel
theorem dX9_writeLine_73 : decode cX9_writeLine 73 = .ok (.getfield 216, 3) := by decide +kernel
theorem dX9_writeLine_76 : decode cX9_writeLine 76 = .ok (.bipush 24, 2) := by decide +kernel
theorem dX9_writeLine_78 : decode cX9_writeLine 78 = .ok (.iload_n 2, 1) := by decide +kernel
theorem dX9_writeLine_79 : decode cX9_writeLine 79 = .ok (.iadd, 1) := by decide +kernel
theorem dX9_writeLine_80 : decode cX9_writeLine 80 = .ok (.iaload, 1) := by decide +kernel
theorem dX9_writeLine_81 : decode cX9_writeLine 81 = .ok (.ifCond .le 26, 3) := by decide +kernel
theorem dX9_writeLine_107 : decode cX9_writeLine 107 = .ok (.aload_n 0, 1) := by decide +kernel
theorem dX9_writeLine_108 : decode cX9_writeLine 108 = .ok (.getfield 78, 3) := by decide +kernel
theorem dX9_writeLine_111 : decode cX9_writeLine 111 = .ok (.ldc_w 491, 3) := by decide +kernel
theorem dX9_writeLine_114 : decode cX9_writeLine 114 = .ok (.invokevirtual 484, 3) := by decide +kernel
theorem dX9_writeLine_117 : decode cX9_writeLine 117 = .ok (.aload_n 1, 1) := by decide +kernel
theorem dX9_writeLine_118 : decode cX9_writeLine 118 = .ok (.getfield 216, 3) := by decide +kernel
theorem dX9_writeLine_121 : decode cX9_writeLine 121 = .ok (.bipush 36, 2) := by decide +kernel
theorem dX9_writeLine_123 : decode cX9_writeLine 123 = .ok (.iload_n 2, 1) := by decide +kernel
theorem dX9_writeLine_124 : decode cX9_writeLine 124 = .ok (.iadd, 1) := by decide +kernel
theorem dX9_writeLine_125 : decode cX9_writeLine 125 = .ok (.iaload, 1) := by decide +kernel
theorem dX9_writeLine_126 : decode cX9_writeLine 126 = .ok (.invokevirtual 473, 3) := by decide +kernel
theorem dX9_writeLine_129 : decode cX9_writeLine 129 = .ok (.pop, 1) := by decide +kernel
theorem dX9_writeLine_130 : decode cX9_writeLine 130 = .ok (.aload_n 0, 1) := by decide +kernel
theorem dX9_writeLine_131 : decode cX9_writeLine 131 = .ok (.getfield 78, 3) := by decide +kernel
theorem dX9_writeLine_134 : decode cX9_writeLine 134 = .ok (.ldc_w 493, 3) := by decide +kernel
theorem dX9_writeLine_137 : decode cX9_writeLine 137 = .ok (.invokevirtual 484, 3) := by decide +kernel
theorem dX9_writeLine_140 : decode cX9_writeLine 140 = .ok (.aload_n 1, 1) := by decide +kernel
theorem dX9_writeLine_141 : decode cX9_writeLine 141 = .ok (.getfield 216, 3) := by decide +kernel
theorem dX9_writeLine_144 : decode cX9_writeLine 144 = .ok (.bipush 48, 2) := by decide +kernel
theorem dX9_writeLine_146 : decode cX9_writeLine 146 = .ok (.iload_n 2, 1) := by decide +kernel
theorem dX9_writeLine_147 : decode cX9_writeLine 147 = .ok (.iadd, 1) := by decide +kernel
theorem dX9_writeLine_148 : decode cX9_writeLine 148 = .ok (.iaload, 1) := by decide +kernel
theorem dX9_writeLine_149 : decode cX9_writeLine 149 = .ok (.invokevirtual 473, 3) := by decide +kernel
theorem dX9_writeLine_152 : decode cX9_writeLine 152 = .ok (.bipush 59, 2) := by decide +kernel
theorem dX9_writeLine_154 : decode cX9_writeLine 154 = .ok (.invokevirtual 477, 3) := by decide +kernel
theorem dX9_writeLine_157 : decode cX9_writeLine 157 = .ok (.pop, 1) := by decide +kernel
theorem dX9_writeLine_158 : decode cX9_writeLine 158 = .ok (.return_, 1) := by decide +kernel
theorem dX9_writeLine_84 : decode cX9_writeLine 84 = .ok (.aload_n 0, 1) := by decide +kernel
theorem dX9_writeLine_85 : decode cX9_writeLine 85 = .ok (.getfield 78, 3) := by decide +kernel
theorem dX9_writeLine_88 : decode cX9_writeLine 88 = .ok (.ldc_w 489, 3) := by decide +kernel
theorem dX9_writeLine_91 : decode cX9_writeLine 91 = .ok (.invokevirtual 484, 3) := by decide +kernel
theorem dX9_writeLine_94 : decode cX9_writeLine 94 = .ok (.aload_n 1, 1) := by decide +kernel
theorem dX9_writeLine_95 : decode cX9_writeLine 95 = .ok (.getfield 216, 3) := by decide +kernel
theorem dX9_writeLine_98 : decode cX9_writeLine 98 = .ok (.bipush 24, 2) := by decide +kernel
theorem dX9_writeLine_100 : decode cX9_writeLine 100 = .ok (.iload_n 2, 1) := by decide +kernel
theorem dX9_writeLine_101 : decode cX9_writeLine 101 = .ok (.iadd, 1) := by decide +kernel
theorem dX9_writeLine_102 : decode cX9_writeLine 102 = .ok (.iaload, 1) := by decide +kernel
theorem dX9_writeLine_103 : decode cX9_writeLine 103 = .ok (.invokevirtual 473, 3) := by decide +kernel
theorem dX9_writeLine_106 : decode cX9_writeLine 106 = .ok (.pop, 1) := by decide +kernel
