-- decode rows of reftold
theorem dX10_saysKind_50 : decode cX10_saysKind 50 = .ok (.getstatic 244, 3) := by decide +kernel
theorem dX10_saysKind_53 : decode cX10_saysKind 53 = .ok (.iload_n 3, 1) := by decide +kernel
theorem dX10_saysKind_54 : decode cX10_saysKind 54 = .ok (.baload, 1) := by decide +kernel
theorem dX10_saysKind_55 : decode cX10_saysKind 55 = .ok (.bipush 32, 2) := by decide +kernel
theorem dX10_saysKind_57 : decode cX10_saysKind 57 = .ok (.if_icmp .eq 18, 3) := by decide +kernel
theorem dX10_saysKind_75 : decode cX10_saysKind 75 = .ok (.return_, 1) := by decide +kernel
theorem dX10_saysKind_60 : decode cX10_saysKind 60 = .ok (.aload_n 0, 1) := by decide +kernel
theorem dX10_saysKind_61 : decode cX10_saysKind 61 = .ok (.getstatic 244, 3) := by decide +kernel
theorem dX10_saysKind_64 : decode cX10_saysKind 64 = .ok (.iload_n 3, 1) := by decide +kernel
theorem dX10_saysKind_65 : decode cX10_saysKind 65 = .ok (.baload, 1) := by decide +kernel
theorem dX10_saysKind_66 : decode cX10_saysKind 66 = .ok (.invokevirtual 376, 3) := by decide +kernel
theorem dX10_saysKind_69 : decode cX10_saysKind 69 = .ok (.iinc 3 1, 3) := by decide +kernel
theorem dX10_saysKind_72 : decode cX10_saysKind 72 = .ok (.goto (-22), 3) := by decide +kernel
theorem dX10_saysKind_19 : decode cX10_saysKind 19 = .ok (.iload 4, 2) := by decide +kernel
theorem dX10_saysKind_21 : decode cX10_saysKind 21 = .ok (.iload_n 2, 1) := by decide +kernel
theorem dX10_saysKind_22 : decode cX10_saysKind 22 = .ok (.if_icmp .ge 28, 3) := by decide +kernel
theorem dX10_saysKind_25 : decode cX10_saysKind 25 = .ok (.getstatic 244, 3) := by decide +kernel
theorem dX10_saysKind_28 : decode cX10_saysKind 28 = .ok (.iload_n 3, 1) := by decide +kernel
theorem dX10_saysKind_29 : decode cX10_saysKind 29 = .ok (.baload, 1) := by decide +kernel
theorem dX10_saysKind_30 : decode cX10_saysKind 30 = .ok (.bipush 32, 2) := by decide +kernel
theorem dX10_saysKind_32 : decode cX10_saysKind 32 = .ok (.if_icmp .eq 9, 3) := by decide +kernel
theorem dX10_saysKind_41 : decode cX10_saysKind 41 = .ok (.iinc 3 1, 3) := by decide +kernel
theorem dX10_saysKind_44 : decode cX10_saysKind 44 = .ok (.iinc 4 1, 3) := by decide +kernel
theorem dX10_saysKind_47 : decode cX10_saysKind 47 = .ok (.goto (-28), 3) := by decide +kernel
theorem dX10_saysKind_35 : decode cX10_saysKind 35 = .ok (.iinc 3 1, 3) := by decide +kernel
theorem dX10_saysKind_38 : decode cX10_saysKind 38 = .ok (.goto (-13), 3) := by decide +kernel
theorem dX10_saysKind_0 : decode cX10_saysKind 0 = .ok (.iload_n 1, 1) := by decide +kernel
theorem dX10_saysKind_1 : decode cX10_saysKind 1 = .ok (.iconst 4, 1) := by decide +kernel
theorem dX10_saysKind_2 : decode cX10_saysKind 2 = .ok (.if_icmp .ne 7, 3) := by decide +kernel
theorem dX10_saysKind_9 : decode cX10_saysKind 9 = .ok (.bipush 9, 2) := by decide +kernel
theorem dX10_saysKind_11 : decode cX10_saysKind 11 = .ok (.iload_n 1, 1) := by decide +kernel
theorem dX10_saysKind_12 : decode cX10_saysKind 12 = .ok (.iadd, 1) := by decide +kernel
theorem dX10_saysKind_13 : decode cX10_saysKind 13 = .ok (.istore_n 2, 1) := by decide +kernel
theorem dX10_saysKind_14 : decode cX10_saysKind 14 = .ok (.iconst 0, 1) := by decide +kernel
theorem dX10_saysKind_15 : decode cX10_saysKind 15 = .ok (.istore_n 3, 1) := by decide +kernel
theorem dX10_saysKind_16 : decode cX10_saysKind 16 = .ok (.iconst 0, 1) := by decide +kernel
theorem dX10_saysKind_17 : decode cX10_saysKind 17 = .ok (.istore 4, 2) := by decide +kernel
theorem dX10_saysKind_5 : decode cX10_saysKind 5 = .ok (.iconst 5, 1) := by decide +kernel
theorem dX10_saysKind_6 : decode cX10_saysKind 6 = .ok (.goto 7, 3) := by decide +kernel
theorem dX10_told_0 : decode cX10_told 0 = .ok (.aload_n 0, 1) := by decide +kernel
theorem dX10_told_1 : decode cX10_told 1 = .ok (.iconst 0, 1) := by decide +kernel
theorem dX10_told_2 : decode cX10_told 2 = .ok (.putfield 110, 3) := by decide +kernel
theorem dX10_told_5 : decode cX10_told 5 = .ok (.aload_n 0, 1) := by decide +kernel
theorem dX10_told_6 : decode cX10_told 6 = .ok (.iload_n 1, 1) := by decide +kernel
theorem dX10_told_7 : decode cX10_told 7 = .ok (.iload_n 2, 1) := by decide +kernel
theorem dX10_told_8 : decode cX10_told 8 = .ok (.invokevirtual 370, 3) := by decide +kernel
theorem dX10_told_11 : decode cX10_told 11 = .ok (.ifCond .ne 5, 3) := by decide +kernel
theorem dX10_told_16 : decode cX10_told 16 = .ok (.aload_n 0, 1) := by decide +kernel
theorem dX10_told_17 : decode cX10_told 17 = .ok (.iconst 0, 1) := by decide +kernel
theorem dX10_told_18 : decode cX10_told 18 = .ok (.putfield 373, 3) := by decide +kernel
theorem dX10_told_21 : decode cX10_told 21 = .ok (.aload_n 0, 1) := by decide +kernel
theorem dX10_told_22 : decode cX10_told 22 = .ok (.aload_n 0, 1) := by decide +kernel
theorem dX10_told_23 : decode cX10_told 23 = .ok (.iconst 0, 1) := by decide +kernel
theorem dX10_told_24 : decode cX10_told 24 = .ok (.iload_n 1, 1) := by decide +kernel
theorem dX10_told_25 : decode cX10_told 25 = .ok (.iload_n 2, 1) := by decide +kernel
theorem dX10_told_26 : decode cX10_told 26 = .ok (.bipush 6, 2) := by decide +kernel
theorem dX10_told_28 : decode cX10_told 28 = .ok (.invokevirtual 117, 3) := by decide +kernel
theorem dX10_told_31 : decode cX10_told 31 = .ok (.invokevirtual 379, 3) := by decide +kernel
theorem dX10_told_34 : decode cX10_told 34 = .ok (.aload_n 0, 1) := by decide +kernel
theorem dX10_told_35 : decode cX10_told 35 = .ok (.bipush 32, 2) := by decide +kernel
theorem dX10_told_37 : decode cX10_told 37 = .ok (.invokevirtual 376, 3) := by decide +kernel
theorem dX10_told_40 : decode cX10_told 40 = .ok (.aload_n 0, 1) := by decide +kernel
theorem dX10_told_41 : decode cX10_told 41 = .ok (.aload_n 0, 1) := by decide +kernel
theorem dX10_told_42 : decode cX10_told 42 = .ok (.iconst 0, 1) := by decide +kernel
theorem dX10_told_43 : decode cX10_told 43 = .ok (.iload_n 1, 1) := by decide +kernel
theorem dX10_told_44 : decode cX10_told 44 = .ok (.iload_n 2, 1) := by decide +kernel
theorem dX10_told_45 : decode cX10_told 45 = .ok (.iconst 0, 1) := by decide +kernel
theorem dX10_told_46 : decode cX10_told 46 = .ok (.invokevirtual 117, 3) := by decide +kernel
theorem dX10_told_49 : decode cX10_told 49 = .ok (.invokevirtual 382, 3) := by decide +kernel
theorem dX10_told_52 : decode cX10_told 52 = .ok (.aload_n 0, 1) := by decide +kernel
theorem dX10_told_53 : decode cX10_told 53 = .ok (.bipush 111, 2) := by decide +kernel
theorem dX10_told_55 : decode cX10_told 55 = .ok (.bipush 102, 2) := by decide +kernel
theorem dX10_told_57 : decode cX10_told 57 = .ok (.invokevirtual 385, 3) := by decide +kernel
theorem dX10_told_60 : decode cX10_told 60 = .ok (.aload_n 0, 1) := by decide +kernel
theorem dX10_told_61 : decode cX10_told 61 = .ok (.aload_n 0, 1) := by decide +kernel
theorem dX10_told_62 : decode cX10_told 62 = .ok (.iconst 0, 1) := by decide +kernel
theorem dX10_told_63 : decode cX10_told 63 = .ok (.iload_n 1, 1) := by decide +kernel
theorem dX10_told_64 : decode cX10_told 64 = .ok (.iload_n 2, 1) := by decide +kernel
theorem dX10_told_65 : decode cX10_told 65 = .ok (.iconst 1, 1) := by decide +kernel
theorem dX10_told_66 : decode cX10_told 66 = .ok (.invokevirtual 117, 3) := by decide +kernel
theorem dX10_told_69 : decode cX10_told 69 = .ok (.invokevirtual 379, 3) := by decide +kernel
theorem dX10_told_72 : decode cX10_told 72 = .ok (.aload_n 0, 1) := by decide +kernel
theorem dX10_told_73 : decode cX10_told 73 = .ok (.iconst 0, 1) := by decide +kernel
theorem dX10_told_74 : decode cX10_told 74 = .ok (.iload_n 1, 1) := by decide +kernel
theorem dX10_told_75 : decode cX10_told 75 = .ok (.iload_n 2, 1) := by decide +kernel
theorem dX10_told_76 : decode cX10_told 76 = .ok (.iconst 2, 1) := by decide +kernel
theorem dX10_told_77 : decode cX10_told 77 = .ok (.invokevirtual 117, 3) := by decide +kernel
theorem dX10_told_80 : decode cX10_told 80 = .ok (.ifCond .le 45, 3) := by decide +kernel
theorem dX10_told_125 : decode cX10_told 125 = .ok (.aload_n 0, 1) := by decide +kernel
theorem dX10_told_126 : decode cX10_told 126 = .ok (.bipush 105, 2) := by decide +kernel
theorem dX10_told_128 : decode cX10_told 128 = .ok (.bipush 110, 2) := by decide +kernel
theorem dX10_told_130 : decode cX10_told 130 = .ok (.invokevirtual 385, 3) := by decide +kernel
theorem dX10_told_133 : decode cX10_told 133 = .ok (.aload_n 0, 1) := by decide +kernel
theorem dX10_told_134 : decode cX10_told 134 = .ok (.aload_n 0, 1) := by decide +kernel
theorem dX10_told_135 : decode cX10_told 135 = .ok (.iconst 0, 1) := by decide +kernel
theorem dX10_told_136 : decode cX10_told 136 = .ok (.iload_n 1, 1) := by decide +kernel
theorem dX10_told_137 : decode cX10_told 137 = .ok (.iload_n 2, 1) := by decide +kernel
theorem dX10_told_138 : decode cX10_told 138 = .ok (.iconst 3, 1) := by decide +kernel
theorem dX10_told_139 : decode cX10_told 139 = .ok (.invokevirtual 117, 3) := by decide +kernel
theorem dX10_told_142 : decode cX10_told 142 = .ok (.invokevirtual 379, 3) := by decide +kernel
theorem dX10_told_145 : decode cX10_told 145 = .ok (.aload_n 0, 1) := by decide +kernel
theorem dX10_told_146 : decode cX10_told 146 = .ok (.bipush 97, 2) := by decide +kernel
theorem dX10_told_148 : decode cX10_told 148 = .ok (.bipush 116, 2) := by decide +kernel
theorem dX10_told_150 : decode cX10_told 150 = .ok (.invokevirtual 385, 3) := by decide +kernel
theorem dX10_told_153 : decode cX10_told 153 = .ok (.aload_n 0, 1) := by decide +kernel
theorem dX10_told_154 : decode cX10_told 154 = .ok (.aload_n 0, 1) := by decide +kernel
theorem dX10_told_155 : decode cX10_told 155 = .ok (.iconst 0, 1) := by decide +kernel
theorem dX10_told_156 : decode cX10_told 156 = .ok (.iload_n 1, 1) := by decide +kernel
theorem dX10_told_157 : decode cX10_told 157 = .ok (.iload_n 2, 1) := by decide +kernel
theorem dX10_told_158 : decode cX10_told 158 = .ok (.iconst 4, 1) := by decide +kernel
theorem dX10_told_159 : decode cX10_told 159 = .ok (.invokevirtual 117, 3) := by decide +kernel
theorem dX10_told_162 : decode cX10_told 162 = .ok (.invokevirtual 379, 3) := by decide +kernel
theorem dX10_told_165 : decode cX10_told 165 = .ok (.aload_n 0, 1) := by decide +kernel
theorem dX10_told_166 : decode cX10_told 166 = .ok (.bipush 59, 2) := by decide +kernel
theorem dX10_told_168 : decode cX10_told 168 = .ok (.invokevirtual 376, 3) := by decide +kernel
theorem dX10_told_171 : decode cX10_told 171 = .ok (.iload_n 3, 1) := by decide +kernel
theorem dX10_told_172 : decode cX10_told 172 = .ok (.iconst (-1), 1) := by decide +kernel
theorem dX10_told_173 : decode cX10_told 173 = .ok (.if_icmp .ne 8, 3) := by decide +kernel
theorem dX10_told_181 : decode cX10_told 181 = .ok (.aload_n 0, 1) := by decide +kernel
theorem dX10_told_182 : decode cX10_told 182 = .ok (.iload_n 3, 1) := by decide +kernel
theorem dX10_told_183 : decode cX10_told 183 = .ok (.iconst 0, 1) := by decide +kernel
theorem dX10_told_184 : decode cX10_told 184 = .ok (.aload_n 0, 1) := by decide +kernel
theorem dX10_told_185 : decode cX10_told 185 = .ok (.getfield 373, 3) := by decide +kernel
theorem dX10_told_188 : decode cX10_told 188 = .ok (.iconst 1, 1) := by decide +kernel
theorem dX10_told_189 : decode cX10_told 189 = .ok (.isub, 1) := by decide +kernel
theorem dX10_told_190 : decode cX10_told 190 = .ok (.invokestatic 281, 3) := by decide +kernel
theorem dX10_told_193 : decode cX10_told 193 = .ok (.iconst 1, 1) := by decide +kernel
theorem dX10_told_194 : decode cX10_told 194 = .ok (.invokevirtual 324, 3) := by decide +kernel
theorem dX10_told_197 : decode cX10_told 197 = .ok (.ifCond .eq 12, 3) := by decide +kernel
theorem dX10_told_200 : decode cX10_told 200 = .ok (.aload_n 0, 1) := by decide +kernel
theorem dX10_told_201 : decode cX10_told 201 = .ok (.getfield 89, 3) := by decide +kernel
theorem dX10_told_204 : decode cX10_told 204 = .ok (.iload_n 3, 1) := by decide +kernel
theorem dX10_told_205 : decode cX10_told 205 = .ok (.iaload, 1) := by decide +kernel
theorem dX10_told_206 : decode cX10_told 206 = .ok (.goto 4, 3) := by decide +kernel
theorem dX10_told_210 : decode cX10_told 210 = .ok (.ireturn, 1) := by decide +kernel
theorem dX10_told_209 : decode cX10_told 209 = .ok (.iconst 0, 1) := by decide +kernel
theorem dX10_told_176 : decode cX10_told 176 = .ok (.aload_n 0, 1) := by decide +kernel
theorem dX10_told_177 : decode cX10_told 177 = .ok (.getfield 373, 3) := by decide +kernel
theorem dX10_told_180 : decode cX10_told 180 = .ok (.ireturn, 1) := by decide +kernel
theorem dX10_told_83 : decode cX10_told 83 = .ok (.aload_n 0, 1) := by decide +kernel
theorem dX10_told_84 : decode cX10_told 84 = .ok (.bipush 32, 2) := by decide +kernel
theorem dX10_told_86 : decode cX10_told 86 = .ok (.invokevirtual 376, 3) := by decide +kernel
theorem dX10_told_89 : decode cX10_told 89 = .ok (.aload_n 0, 1) := by decide +kernel
theorem dX10_told_90 : decode cX10_told 90 = .ok (.bipush 119, 2) := by decide +kernel
theorem dX10_told_92 : decode cX10_told 92 = .ok (.invokevirtual 376, 3) := by decide +kernel
theorem dX10_told_95 : decode cX10_told 95 = .ok (.aload_n 0, 1) := by decide +kernel
theorem dX10_told_96 : decode cX10_told 96 = .ok (.bipush 101, 2) := by decide +kernel
theorem dX10_told_98 : decode cX10_told 98 = .ok (.invokevirtual 376, 3) := by decide +kernel
theorem dX10_told_101 : decode cX10_told 101 = .ok (.aload_n 0, 1) := by decide +kernel
theorem dX10_told_102 : decode cX10_told 102 = .ok (.bipush 116, 2) := by decide +kernel
theorem dX10_told_104 : decode cX10_told 104 = .ok (.invokevirtual 376, 3) := by decide +kernel
theorem dX10_told_107 : decode cX10_told 107 = .ok (.aload_n 0, 1) := by decide +kernel
theorem dX10_told_108 : decode cX10_told 108 = .ok (.bipush 32, 2) := by decide +kernel
theorem dX10_told_110 : decode cX10_told 110 = .ok (.invokevirtual 376, 3) := by decide +kernel
theorem dX10_told_113 : decode cX10_told 113 = .ok (.aload_n 0, 1) := by decide +kernel
theorem dX10_told_114 : decode cX10_told 114 = .ok (.aload_n 0, 1) := by decide +kernel
theorem dX10_told_115 : decode cX10_told 115 = .ok (.iconst 0, 1) := by decide +kernel
theorem dX10_told_116 : decode cX10_told 116 = .ok (.iload_n 1, 1) := by decide +kernel
theorem dX10_told_117 : decode cX10_told 117 = .ok (.iload_n 2, 1) := by decide +kernel
theorem dX10_told_118 : decode cX10_told 118 = .ok (.iconst 2, 1) := by decide +kernel
theorem dX10_told_119 : decode cX10_told 119 = .ok (.invokevirtual 117, 3) := by decide +kernel
theorem dX10_told_122 : decode cX10_told 122 = .ok (.invokevirtual 379, 3) := by decide +kernel
theorem dX10_told_14 : decode cX10_told 14 = .ok (.iconst 0, 1) := by decide +kernel
theorem dX10_told_15 : decode cX10_told 15 = .ok (.ireturn, 1) := by decide +kernel
