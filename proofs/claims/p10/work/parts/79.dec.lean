-- decode rows of refh
theorem dX10_warms_10 : decode cX10_warms 10 = .ok (.iload 4, 2) := by decide +kernel
theorem dX10_warms_12 : decode cX10_warms 12 = .ok (.ifCond .le 237, 3) := by decide +kernel
theorem dX10_warms_249 : decode cX10_warms 249 = .ok (.return_, 1) := by decide +kernel
theorem dX10_warms_15 : decode cX10_warms 15 = .ok (.aload_n 0, 1) := by decide +kernel
theorem dX10_warms_16 : decode cX10_warms 16 = .ok (.iload_n 1, 1) := by decide +kernel
theorem dX10_warms_17 : decode cX10_warms 17 = .ok (.iload_n 2, 1) := by decide +kernel
theorem dX10_warms_18 : decode cX10_warms 18 = .ok (.invokevirtual 121, 3) := by decide +kernel
theorem dX10_warms_21 : decode cX10_warms 21 = .ok (.ifCond .le 228, 3) := by decide +kernel
theorem dX10_warms_24 : decode cX10_warms 24 = .ok (.aload_n 0, 1) := by decide +kernel
theorem dX10_warms_25 : decode cX10_warms 25 = .ok (.iload_n 1, 1) := by decide +kernel
theorem dX10_warms_26 : decode cX10_warms 26 = .ok (.iload_n 2, 1) := by decide +kernel
theorem dX10_warms_27 : decode cX10_warms 27 = .ok (.invokevirtual 121, 3) := by decide +kernel
theorem dX10_warms_30 : decode cX10_warms 30 = .ok (.iconst 1, 1) := by decide +kernel
theorem dX10_warms_31 : decode cX10_warms 31 = .ok (.isub, 1) := by decide +kernel
theorem dX10_warms_32 : decode cX10_warms 32 = .ok (.istore 5, 2) := by decide +kernel
theorem dX10_warms_34 : decode cX10_warms 34 = .ok (.iload_n 1, 1) := by decide +kernel
theorem dX10_warms_35 : decode cX10_warms 35 = .ok (.iload_n 2, 1) := by decide +kernel
theorem dX10_warms_36 : decode cX10_warms 36 = .ok (.iload 5, 2) := by decide +kernel
theorem dX10_warms_38 : decode cX10_warms 38 = .ok (.invokestatic 113, 3) := by decide +kernel
theorem dX10_warms_41 : decode cX10_warms 41 = .ok (.istore 6, 2) := by decide +kernel
theorem dX10_warms_43 : decode cX10_warms 43 = .ok (.iload 4, 2) := by decide +kernel
theorem dX10_warms_45 : decode cX10_warms 45 = .ok (.aload_n 0, 1) := by decide +kernel
theorem dX10_warms_46 : decode cX10_warms 46 = .ok (.getfield 9, 3) := by decide +kernel
theorem dX10_warms_49 : decode cX10_warms 49 = .ok (.iload 6, 2) := by decide +kernel
theorem dX10_warms_51 : decode cX10_warms 51 = .ok (.iconst 1, 1) := by decide +kernel
theorem dX10_warms_52 : decode cX10_warms 52 = .ok (.iadd, 1) := by decide +kernel
theorem dX10_warms_53 : decode cX10_warms 53 = .ok (.iaload, 1) := by decide +kernel
theorem dX10_warms_54 : decode cX10_warms 54 = .ok (.idiv, 1) := by decide +kernel
theorem dX10_warms_55 : decode cX10_warms 55 = .ok (.aload_n 0, 1) := by decide +kernel
theorem dX10_warms_56 : decode cX10_warms 56 = .ok (.getfield 9, 3) := by decide +kernel
theorem dX10_warms_59 : decode cX10_warms 59 = .ok (.iload 6, 2) := by decide +kernel
theorem dX10_warms_61 : decode cX10_warms 61 = .ok (.iconst 4, 1) := by decide +kernel
theorem dX10_warms_62 : decode cX10_warms 62 = .ok (.iadd, 1) := by decide +kernel
theorem dX10_warms_63 : decode cX10_warms 63 = .ok (.iaload, 1) := by decide +kernel
theorem dX10_warms_64 : decode cX10_warms 64 = .ok (.ineg, 1) := by decide +kernel
theorem dX10_warms_65 : decode cX10_warms 65 = .ok (.invokestatic 143, 3) := by decide +kernel
theorem dX10_warms_68 : decode cX10_warms 68 = .ok (.istore 7, 2) := by decide +kernel
theorem dX10_warms_70 : decode cX10_warms 70 = .ok (.aload_n 0, 1) := by decide +kernel
theorem dX10_warms_71 : decode cX10_warms 71 = .ok (.getfield 9, 3) := by decide +kernel
theorem dX10_warms_74 : decode cX10_warms 74 = .ok (.iload 6, 2) := by decide +kernel
theorem dX10_warms_76 : decode cX10_warms 76 = .ok (.iconst 4, 1) := by decide +kernel
theorem dX10_warms_77 : decode cX10_warms 77 = .ok (.iadd, 1) := by decide +kernel
theorem dX10_warms_78 : decode cX10_warms 78 = .ok (.dup2, 1) := by decide +kernel
theorem dX10_warms_79 : decode cX10_warms 79 = .ok (.iaload, 1) := by decide +kernel
theorem dX10_warms_80 : decode cX10_warms 80 = .ok (.iload 7, 2) := by decide +kernel
theorem dX10_warms_82 : decode cX10_warms 82 = .ok (.iadd, 1) := by decide +kernel
theorem dX10_warms_83 : decode cX10_warms 83 = .ok (.iastore, 1) := by decide +kernel
theorem dX10_warms_84 : decode cX10_warms 84 = .ok (.iload 4, 2) := by decide +kernel
theorem dX10_warms_86 : decode cX10_warms 86 = .ok (.iload 7, 2) := by decide +kernel
theorem dX10_warms_88 : decode cX10_warms 88 = .ok (.aload_n 0, 1) := by decide +kernel
theorem dX10_warms_89 : decode cX10_warms 89 = .ok (.getfield 9, 3) := by decide +kernel
theorem dX10_warms_92 : decode cX10_warms 92 = .ok (.iload 6, 2) := by decide +kernel
theorem dX10_warms_94 : decode cX10_warms 94 = .ok (.iconst 1, 1) := by decide +kernel
theorem dX10_warms_95 : decode cX10_warms 95 = .ok (.iadd, 1) := by decide +kernel
theorem dX10_warms_96 : decode cX10_warms 96 = .ok (.iaload, 1) := by decide +kernel
theorem dX10_warms_97 : decode cX10_warms 97 = .ok (.imul, 1) := by decide +kernel
theorem dX10_warms_98 : decode cX10_warms 98 = .ok (.isub, 1) := by decide +kernel
theorem dX10_warms_99 : decode cX10_warms 99 = .ok (.istore 4, 2) := by decide +kernel
theorem dX10_warms_101 : decode cX10_warms 101 = .ok (.aload_n 0, 1) := by decide +kernel
theorem dX10_warms_102 : decode cX10_warms 102 = .ok (.getfield 9, 3) := by decide +kernel
theorem dX10_warms_105 : decode cX10_warms 105 = .ok (.iload 6, 2) := by decide +kernel
theorem dX10_warms_107 : decode cX10_warms 107 = .ok (.iconst 4, 1) := by decide +kernel
theorem dX10_warms_108 : decode cX10_warms 108 = .ok (.iadd, 1) := by decide +kernel
theorem dX10_warms_109 : decode cX10_warms 109 = .ok (.iaload, 1) := by decide +kernel
theorem dX10_warms_110 : decode cX10_warms 110 = .ok (.ifCond .ne 23, 3) := by decide +kernel
theorem dX10_warms_133 : decode cX10_warms 133 = .ok (.iconst 0, 1) := by decide +kernel
theorem dX10_warms_134 : decode cX10_warms 134 = .ok (.istore 8, 2) := by decide +kernel
theorem dX10_warms_136 : decode cX10_warms 136 = .ok (.aload_n 0, 1) := by decide +kernel
theorem dX10_warms_137 : decode cX10_warms 137 = .ok (.getfield 9, 3) := by decide +kernel
theorem dX10_warms_140 : decode cX10_warms 140 = .ok (.iload 6, 2) := by decide +kernel
theorem dX10_warms_142 : decode cX10_warms 142 = .ok (.iconst 1, 1) := by decide +kernel
theorem dX10_warms_143 : decode cX10_warms 143 = .ok (.iadd, 1) := by decide +kernel
theorem dX10_warms_144 : decode cX10_warms 144 = .ok (.dup2, 1) := by decide +kernel
theorem dX10_warms_145 : decode cX10_warms 145 = .ok (.iaload, 1) := by decide +kernel
theorem dX10_warms_146 : decode cX10_warms 146 = .ok (.iload 8, 2) := by decide +kernel
theorem dX10_warms_148 : decode cX10_warms 148 = .ok (.isub, 1) := by decide +kernel
theorem dX10_warms_149 : decode cX10_warms 149 = .ok (.iastore, 1) := by decide +kernel
theorem dX10_warms_150 : decode cX10_warms 150 = .ok (.aload_n 0, 1) := by decide +kernel
theorem dX10_warms_151 : decode cX10_warms 151 = .ok (.getfield 9, 3) := by decide +kernel
theorem dX10_warms_154 : decode cX10_warms 154 = .ok (.iload 6, 2) := by decide +kernel
theorem dX10_warms_156 : decode cX10_warms 156 = .ok (.iconst 2, 1) := by decide +kernel
theorem dX10_warms_157 : decode cX10_warms 157 = .ok (.iadd, 1) := by decide +kernel
theorem dX10_warms_158 : decode cX10_warms 158 = .ok (.dup2, 1) := by decide +kernel
theorem dX10_warms_159 : decode cX10_warms 159 = .ok (.iaload, 1) := by decide +kernel
theorem dX10_warms_160 : decode cX10_warms 160 = .ok (.iload 8, 2) := by decide +kernel
theorem dX10_warms_162 : decode cX10_warms 162 = .ok (.iadd, 1) := by decide +kernel
theorem dX10_warms_163 : decode cX10_warms 163 = .ok (.iastore, 1) := by decide +kernel
theorem dX10_warms_164 : decode cX10_warms 164 = .ok (.iload 4, 2) := by decide +kernel
theorem dX10_warms_166 : decode cX10_warms 166 = .ok (.bipush 100, 2) := by decide +kernel
theorem dX10_warms_168 : decode cX10_warms 168 = .ok (.iload 8, 2) := by decide +kernel
theorem dX10_warms_170 : decode cX10_warms 170 = .ok (.imul, 1) := by decide +kernel
theorem dX10_warms_171 : decode cX10_warms 171 = .ok (.isub, 1) := by decide +kernel
theorem dX10_warms_172 : decode cX10_warms 172 = .ok (.istore 4, 2) := by decide +kernel
theorem dX10_warms_174 : decode cX10_warms 174 = .ok (.aload_n 0, 1) := by decide +kernel
theorem dX10_warms_175 : decode cX10_warms 175 = .ok (.getfield 9, 3) := by decide +kernel
theorem dX10_warms_178 : decode cX10_warms 178 = .ok (.iload 6, 2) := by decide +kernel
theorem dX10_warms_180 : decode cX10_warms 180 = .ok (.iconst 1, 1) := by decide +kernel
theorem dX10_warms_181 : decode cX10_warms 181 = .ok (.iadd, 1) := by decide +kernel
theorem dX10_warms_182 : decode cX10_warms 182 = .ok (.iaload, 1) := by decide +kernel
theorem dX10_warms_183 : decode cX10_warms 183 = .ok (.ifCond .le 4, 3) := by decide +kernel
theorem dX10_warms_187 : decode cX10_warms 187 = .ok (.aload_n 0, 1) := by decide +kernel
theorem dX10_warms_188 : decode cX10_warms 188 = .ok (.iload_n 1, 1) := by decide +kernel
theorem dX10_warms_189 : decode cX10_warms 189 = .ok (.iload_n 2, 1) := by decide +kernel
theorem dX10_warms_190 : decode cX10_warms 190 = .ok (.iload 5, 2) := by decide +kernel
theorem dX10_warms_192 : decode cX10_warms 192 = .ok (.invokevirtual 135, 3) := by decide +kernel
theorem dX10_warms_195 : decode cX10_warms 195 = .ok (.iload 5, 2) := by decide +kernel
theorem dX10_warms_197 : decode cX10_warms 197 = .ok (.ifCond .ne 21, 3) := by decide +kernel
theorem dX10_warms_218 : decode cX10_warms 218 = .ok (.aload_n 0, 1) := by decide +kernel
theorem dX10_warms_219 : decode cX10_warms 219 = .ok (.getfield 9, 3) := by decide +kernel
theorem dX10_warms_222 : decode cX10_warms 222 = .ok (.iload_n 1, 1) := by decide +kernel
theorem dX10_warms_223 : decode cX10_warms 223 = .ok (.iload_n 2, 1) := by decide +kernel
theorem dX10_warms_224 : decode cX10_warms 224 = .ok (.iload 5, 2) := by decide +kernel
theorem dX10_warms_226 : decode cX10_warms 226 = .ok (.iconst 1, 1) := by decide +kernel
theorem dX10_warms_227 : decode cX10_warms 227 = .ok (.isub, 1) := by decide +kernel
theorem dX10_warms_228 : decode cX10_warms 228 = .ok (.invokestatic 113, 3) := by decide +kernel
theorem dX10_warms_231 : decode cX10_warms 231 = .ok (.iconst 2, 1) := by decide +kernel
theorem dX10_warms_232 : decode cX10_warms 232 = .ok (.iadd, 1) := by decide +kernel
theorem dX10_warms_233 : decode cX10_warms 233 = .ok (.dup2, 1) := by decide +kernel
theorem dX10_warms_234 : decode cX10_warms 234 = .ok (.iaload, 1) := by decide +kernel
theorem dX10_warms_235 : decode cX10_warms 235 = .ok (.aload_n 0, 1) := by decide +kernel
theorem dX10_warms_236 : decode cX10_warms 236 = .ok (.getfield 9, 3) := by decide +kernel
theorem dX10_warms_239 : decode cX10_warms 239 = .ok (.iload 6, 2) := by decide +kernel
theorem dX10_warms_241 : decode cX10_warms 241 = .ok (.iconst 2, 1) := by decide +kernel
theorem dX10_warms_242 : decode cX10_warms 242 = .ok (.iadd, 1) := by decide +kernel
theorem dX10_warms_243 : decode cX10_warms 243 = .ok (.iaload, 1) := by decide +kernel
theorem dX10_warms_244 : decode cX10_warms 244 = .ok (.iadd, 1) := by decide +kernel
theorem dX10_warms_245 : decode cX10_warms 245 = .ok (.iastore, 1) := by decide +kernel
theorem dX10_warms_246 : decode cX10_warms 246 = .ok (.goto (-236), 3) := by decide +kernel
theorem dX10_warms_200 : decode cX10_warms 200 = .ok (.aload_n 0, 1) := by decide +kernel
theorem dX10_warms_201 : decode cX10_warms 201 = .ok (.iload_n 1, 1) := by decide +kernel
theorem dX10_warms_202 : decode cX10_warms 202 = .ok (.iload_n 2, 1) := by decide +kernel
theorem dX10_warms_203 : decode cX10_warms 203 = .ok (.aload_n 0, 1) := by decide +kernel
theorem dX10_warms_204 : decode cX10_warms 204 = .ok (.getfield 9, 3) := by decide +kernel
theorem dX10_warms_207 : decode cX10_warms 207 = .ok (.iload 6, 2) := by decide +kernel
theorem dX10_warms_209 : decode cX10_warms 209 = .ok (.iconst 2, 1) := by decide +kernel
theorem dX10_warms_210 : decode cX10_warms 210 = .ok (.iadd, 1) := by decide +kernel
theorem dX10_warms_211 : decode cX10_warms 211 = .ok (.iaload, 1) := by decide +kernel
theorem dX10_warms_212 : decode cX10_warms 212 = .ok (.invokevirtual 150, 3) := by decide +kernel
theorem dX10_warms_215 : decode cX10_warms 215 = .ok (.goto 31, 3) := by decide +kernel
theorem dX10_warms_186 : decode cX10_warms 186 = .ok (.return_, 1) := by decide +kernel
theorem dX10_warms_113 : decode cX10_warms 113 = .ok (.iload 4, 2) := by decide +kernel
theorem dX10_warms_115 : decode cX10_warms 115 = .ok (.bipush 100, 2) := by decide +kernel
theorem dX10_warms_117 : decode cX10_warms 117 = .ok (.idiv, 1) := by decide +kernel
theorem dX10_warms_118 : decode cX10_warms 118 = .ok (.aload_n 0, 1) := by decide +kernel
theorem dX10_warms_119 : decode cX10_warms 119 = .ok (.getfield 9, 3) := by decide +kernel
theorem dX10_warms_122 : decode cX10_warms 122 = .ok (.iload 6, 2) := by decide +kernel
theorem dX10_warms_124 : decode cX10_warms 124 = .ok (.iconst 1, 1) := by decide +kernel
theorem dX10_warms_125 : decode cX10_warms 125 = .ok (.iadd, 1) := by decide +kernel
theorem dX10_warms_126 : decode cX10_warms 126 = .ok (.iaload, 1) := by decide +kernel
theorem dX10_warms_127 : decode cX10_warms 127 = .ok (.invokestatic 143, 3) := by decide +kernel
theorem dX10_warms_130 : decode cX10_warms 130 = .ok (.goto 4, 3) := by decide +kernel
theorem dX10_warms_0 : decode cX10_warms 0 = .ok (.iload_n 3, 1) := by decide +kernel
theorem dX10_warms_1 : decode cX10_warms 1 = .ok (.aload_n 0, 1) := by decide +kernel
theorem dX10_warms_2 : decode cX10_warms 2 = .ok (.getfield 16, 3) := by decide +kernel
theorem dX10_warms_5 : decode cX10_warms 5 = .ok (.iload_n 2, 1) := by decide +kernel
theorem dX10_warms_6 : decode cX10_warms 6 = .ok (.iaload, 1) := by decide +kernel
theorem dX10_warms_7 : decode cX10_warms 7 = .ok (.imul, 1) := by decide +kernel
theorem dX10_warms_8 : decode cX10_warms 8 = .ok (.istore 4, 2) := by decide +kernel
theorem dX10_topped_0 : decode cX10_topped 0 = .ok (.iload_n 3, 1) := by decide +kernel
theorem dX10_topped_1 : decode cX10_topped 1 = .ok (.ifCond .le 11, 3) := by decide +kernel
theorem dX10_topped_12 : decode cX10_topped 12 = .ok (.aload_n 0, 1) := by decide +kernel
theorem dX10_topped_13 : decode cX10_topped 13 = .ok (.iload_n 1, 1) := by decide +kernel
theorem dX10_topped_14 : decode cX10_topped 14 = .ok (.iload_n 2, 1) := by decide +kernel
theorem dX10_topped_15 : decode cX10_topped 15 = .ok (.invokevirtual 121, 3) := by decide +kernel
theorem dX10_topped_18 : decode cX10_topped 18 = .ok (.ifCond .ne 4, 3) := by decide +kernel
theorem dX10_topped_22 : decode cX10_topped 22 = .ok (.iload_n 1, 1) := by decide +kernel
theorem dX10_topped_23 : decode cX10_topped 23 = .ok (.iload_n 2, 1) := by decide +kernel
theorem dX10_topped_24 : decode cX10_topped 24 = .ok (.aload_n 0, 1) := by decide +kernel
theorem dX10_topped_25 : decode cX10_topped 25 = .ok (.iload_n 1, 1) := by decide +kernel
theorem dX10_topped_26 : decode cX10_topped 26 = .ok (.iload_n 2, 1) := by decide +kernel
theorem dX10_topped_27 : decode cX10_topped 27 = .ok (.invokevirtual 121, 3) := by decide +kernel
theorem dX10_topped_30 : decode cX10_topped 30 = .ok (.iconst 1, 1) := by decide +kernel
theorem dX10_topped_31 : decode cX10_topped 31 = .ok (.isub, 1) := by decide +kernel
theorem dX10_topped_32 : decode cX10_topped 32 = .ok (.invokestatic 113, 3) := by decide +kernel
theorem dX10_topped_35 : decode cX10_topped 35 = .ok (.istore 4, 2) := by decide +kernel
theorem dX10_topped_37 : decode cX10_topped 37 = .ok (.aload_n 0, 1) := by decide +kernel
theorem dX10_topped_38 : decode cX10_topped 38 = .ok (.getfield 9, 3) := by decide +kernel
theorem dX10_topped_41 : decode cX10_topped 41 = .ok (.iload 4, 2) := by decide +kernel
theorem dX10_topped_43 : decode cX10_topped 43 = .ok (.iconst 4, 1) := by decide +kernel
theorem dX10_topped_44 : decode cX10_topped 44 = .ok (.iadd, 1) := by decide +kernel
theorem dX10_topped_45 : decode cX10_topped 45 = .ok (.dup2, 1) := by decide +kernel
theorem dX10_topped_46 : decode cX10_topped 46 = .ok (.iaload, 1) := by decide +kernel
theorem dX10_topped_47 : decode cX10_topped 47 = .ok (.iload_n 3, 1) := by decide +kernel
theorem dX10_topped_48 : decode cX10_topped 48 = .ok (.aload_n 0, 1) := by decide +kernel
theorem dX10_topped_49 : decode cX10_topped 49 = .ok (.getfield 9, 3) := by decide +kernel
theorem dX10_topped_52 : decode cX10_topped 52 = .ok (.iload 4, 2) := by decide +kernel
theorem dX10_topped_54 : decode cX10_topped 54 = .ok (.iconst 4, 1) := by decide +kernel
theorem dX10_topped_55 : decode cX10_topped 55 = .ok (.iadd, 1) := by decide +kernel
theorem dX10_topped_56 : decode cX10_topped 56 = .ok (.iaload, 1) := by decide +kernel
theorem dX10_topped_57 : decode cX10_topped 57 = .ok (.isub, 1) := by decide +kernel
theorem dX10_topped_58 : decode cX10_topped 58 = .ok (.iconst 4, 1) := by decide +kernel
theorem dX10_topped_59 : decode cX10_topped 59 = .ok (.idiv, 1) := by decide +kernel
theorem dX10_topped_60 : decode cX10_topped 60 = .ok (.iadd, 1) := by decide +kernel
theorem dX10_topped_61 : decode cX10_topped 61 = .ok (.iastore, 1) := by decide +kernel
theorem dX10_topped_62 : decode cX10_topped 62 = .ok (.return_, 1) := by decide +kernel
theorem dX10_topped_21 : decode cX10_topped 21 = .ok (.return_, 1) := by decide +kernel
theorem dX10_topped_4 : decode cX10_topped 4 = .ok (.aload_n 0, 1) := by decide +kernel
theorem dX10_topped_5 : decode cX10_topped 5 = .ok (.iload_n 1, 1) := by decide +kernel
theorem dX10_topped_6 : decode cX10_topped 6 = .ok (.iload_n 2, 1) := by decide +kernel
theorem dX10_topped_7 : decode cX10_topped 7 = .ok (.iload_n 3, 1) := by decide +kernel
theorem dX10_topped_8 : decode cX10_topped 8 = .ok (.invokevirtual 173, 3) := by decide +kernel
theorem dX10_topped_11 : decode cX10_topped 11 = .ok (.return_, 1) := by decide +kernel
theorem dX10_joins_234 : decode cX10_joins 234 = .ok (.iload 8, 2) := by decide +kernel
theorem dX10_joins_236 : decode cX10_joins 236 = .ok (.iload 7, 2) := by decide +kernel
theorem dX10_joins_238 : decode cX10_joins 238 = .ok (.if_icmp .ge 47, 3) := by decide +kernel
theorem dX10_joins_285 : decode cX10_joins 285 = .ok (.aload_n 0, 1) := by decide +kernel
theorem dX10_joins_286 : decode cX10_joins 286 = .ok (.iload_n 1, 1) := by decide +kernel
theorem dX10_joins_287 : decode cX10_joins 287 = .ok (.iload_n 2, 1) := by decide +kernel
theorem dX10_joins_288 : decode cX10_joins 288 = .ok (.iload 7, 2) := by decide +kernel
theorem dX10_joins_290 : decode cX10_joins 290 = .ok (.invokevirtual 135, 3) := by decide +kernel
theorem dX10_joins_293 : decode cX10_joins 293 = .ok (.return_, 1) := by decide +kernel
theorem dX10_joins_241 : decode cX10_joins 241 = .ok (.iconst 0, 1) := by decide +kernel
theorem dX10_joins_242 : decode cX10_joins 242 = .ok (.istore 9, 2) := by decide +kernel
theorem dX10_joins_244 : decode cX10_joins 244 = .ok (.iload 9, 2) := by decide +kernel
theorem dX10_joins_246 : decode cX10_joins 246 = .ok (.bipush 7, 2) := by decide +kernel
theorem dX10_joins_248 : decode cX10_joins 248 = .ok (.if_icmp .ge 31, 3) := by decide +kernel
theorem dX10_joins_251 : decode cX10_joins 251 = .ok (.aload_n 0, 1) := by decide +kernel
theorem dX10_joins_252 : decode cX10_joins 252 = .ok (.iload_n 1, 1) := by decide +kernel
theorem dX10_joins_253 : decode cX10_joins 253 = .ok (.iload_n 2, 1) := by decide +kernel
theorem dX10_joins_254 : decode cX10_joins 254 = .ok (.iload 8, 2) := by decide +kernel
theorem dX10_joins_256 : decode cX10_joins 256 = .ok (.iload 9, 2) := by decide +kernel
theorem dX10_joins_258 : decode cX10_joins 258 = .ok (.aload_n 0, 1) := by decide +kernel
theorem dX10_joins_259 : decode cX10_joins 259 = .ok (.iload_n 1, 1) := by decide +kernel
theorem dX10_joins_260 : decode cX10_joins 260 = .ok (.iload_n 2, 1) := by decide +kernel
theorem dX10_joins_261 : decode cX10_joins 261 = .ok (.iload 8, 2) := by decide +kernel
theorem dX10_joins_263 : decode cX10_joins 263 = .ok (.iconst 1, 1) := by decide +kernel
theorem dX10_joins_264 : decode cX10_joins 264 = .ok (.iadd, 1) := by decide +kernel
theorem dX10_joins_265 : decode cX10_joins 265 = .ok (.iload 9, 2) := by decide +kernel
theorem dX10_joins_267 : decode cX10_joins 267 = .ok (.invokevirtual 117, 3) := by decide +kernel
theorem dX10_joins_270 : decode cX10_joins 270 = .ok (.invokevirtual 131, 3) := by decide +kernel
theorem dX10_joins_273 : decode cX10_joins 273 = .ok (.iinc 9 1, 3) := by decide +kernel
theorem dX10_joins_276 : decode cX10_joins 276 = .ok (.goto (-32), 3) := by decide +kernel
theorem dX10_joins_279 : decode cX10_joins 279 = .ok (.iinc 8 1, 3) := by decide +kernel
theorem dX10_joins_282 : decode cX10_joins 282 = .ok (.goto (-48), 3) := by decide +kernel
theorem dX10_joins_0 : decode cX10_joins 0 = .ok (.iload_n 1, 1) := by decide +kernel
theorem dX10_joins_1 : decode cX10_joins 1 = .ok (.iload_n 2, 1) := by decide +kernel
theorem dX10_joins_2 : decode cX10_joins 2 = .ok (.iconst 0, 1) := by decide +kernel
theorem dX10_joins_3 : decode cX10_joins 3 = .ok (.invokestatic 113, 3) := by decide +kernel
theorem dX10_joins_6 : decode cX10_joins 6 = .ok (.istore_n 3, 1) := by decide +kernel
theorem dX10_joins_7 : decode cX10_joins 7 = .ok (.iload_n 1, 1) := by decide +kernel
theorem dX10_joins_8 : decode cX10_joins 8 = .ok (.iload_n 2, 1) := by decide +kernel
theorem dX10_joins_9 : decode cX10_joins 9 = .ok (.iconst 1, 1) := by decide +kernel
theorem dX10_joins_10 : decode cX10_joins 10 = .ok (.invokestatic 113, 3) := by decide +kernel
theorem dX10_joins_13 : decode cX10_joins 13 = .ok (.istore 4, 2) := by decide +kernel
theorem dX10_joins_15 : decode cX10_joins 15 = .ok (.aload_n 0, 1) := by decide +kernel
theorem dX10_joins_16 : decode cX10_joins 16 = .ok (.getfield 9, 3) := by decide +kernel
theorem dX10_joins_19 : decode cX10_joins 19 = .ok (.iload_n 3, 1) := by decide +kernel
theorem dX10_joins_20 : decode cX10_joins 20 = .ok (.iconst 1, 1) := by decide +kernel
theorem dX10_joins_21 : decode cX10_joins 21 = .ok (.iadd, 1) := by decide +kernel
theorem dX10_joins_22 : decode cX10_joins 22 = .ok (.iaload, 1) := by decide +kernel
theorem dX10_joins_23 : decode cX10_joins 23 = .ok (.aload_n 0, 1) := by decide +kernel
theorem dX10_joins_24 : decode cX10_joins 24 = .ok (.getfield 9, 3) := by decide +kernel
theorem dX10_joins_27 : decode cX10_joins 27 = .ok (.iload 4, 2) := by decide +kernel
theorem dX10_joins_29 : decode cX10_joins 29 = .ok (.iconst 1, 1) := by decide +kernel
theorem dX10_joins_30 : decode cX10_joins 30 = .ok (.iadd, 1) := by decide +kernel
theorem dX10_joins_31 : decode cX10_joins 31 = .ok (.iaload, 1) := by decide +kernel
theorem dX10_joins_32 : decode cX10_joins 32 = .ok (.iadd, 1) := by decide +kernel
theorem dX10_joins_33 : decode cX10_joins 33 = .ok (.istore 5, 2) := by decide +kernel
theorem dX10_joins_35 : decode cX10_joins 35 = .ok (.aload_n 0, 1) := by decide +kernel
theorem dX10_joins_36 : decode cX10_joins 36 = .ok (.getfield 9, 3) := by decide +kernel
theorem dX10_joins_39 : decode cX10_joins 39 = .ok (.iload_n 3, 1) := by decide +kernel
theorem dX10_joins_40 : decode cX10_joins 40 = .ok (.iconst 4, 1) := by decide +kernel
theorem dX10_joins_41 : decode cX10_joins 41 = .ok (.iadd, 1) := by decide +kernel
theorem dX10_joins_42 : decode cX10_joins 42 = .ok (.iaload, 1) := by decide +kernel
theorem dX10_joins_43 : decode cX10_joins 43 = .ok (.aload_n 0, 1) := by decide +kernel
theorem dX10_joins_44 : decode cX10_joins 44 = .ok (.getfield 9, 3) := by decide +kernel
theorem dX10_joins_47 : decode cX10_joins 47 = .ok (.iload_n 3, 1) := by decide +kernel
theorem dX10_joins_48 : decode cX10_joins 48 = .ok (.iconst 1, 1) := by decide +kernel
theorem dX10_joins_49 : decode cX10_joins 49 = .ok (.iadd, 1) := by decide +kernel
theorem dX10_joins_50 : decode cX10_joins 50 = .ok (.iaload, 1) := by decide +kernel
theorem dX10_joins_51 : decode cX10_joins 51 = .ok (.imul, 1) := by decide +kernel
theorem dX10_joins_52 : decode cX10_joins 52 = .ok (.aload_n 0, 1) := by decide +kernel
theorem dX10_joins_53 : decode cX10_joins 53 = .ok (.getfield 9, 3) := by decide +kernel
theorem dX10_joins_56 : decode cX10_joins 56 = .ok (.iload 4, 2) := by decide +kernel
theorem dX10_joins_58 : decode cX10_joins 58 = .ok (.iconst 4, 1) := by decide +kernel
theorem dX10_joins_59 : decode cX10_joins 59 = .ok (.iadd, 1) := by decide +kernel
theorem dX10_joins_60 : decode cX10_joins 60 = .ok (.iaload, 1) := by decide +kernel
theorem dX10_joins_61 : decode cX10_joins 61 = .ok (.aload_n 0, 1) := by decide +kernel
theorem dX10_joins_62 : decode cX10_joins 62 = .ok (.getfield 9, 3) := by decide +kernel
theorem dX10_joins_65 : decode cX10_joins 65 = .ok (.iload 4, 2) := by decide +kernel
theorem dX10_joins_67 : decode cX10_joins 67 = .ok (.iconst 1, 1) := by decide +kernel
theorem dX10_joins_68 : decode cX10_joins 68 = .ok (.iadd, 1) := by decide +kernel
theorem dX10_joins_69 : decode cX10_joins 69 = .ok (.iaload, 1) := by decide +kernel
theorem dX10_joins_70 : decode cX10_joins 70 = .ok (.imul, 1) := by decide +kernel
theorem dX10_joins_71 : decode cX10_joins 71 = .ok (.iadd, 1) := by decide +kernel
theorem dX10_joins_72 : decode cX10_joins 72 = .ok (.iload 5, 2) := by decide +kernel
theorem dX10_joins_74 : decode cX10_joins 74 = .ok (.idiv, 1) := by decide +kernel
theorem dX10_joins_75 : decode cX10_joins 75 = .ok (.istore 6, 2) := by decide +kernel
theorem dX10_joins_77 : decode cX10_joins 77 = .ok (.aload_n 0, 1) := by decide +kernel
theorem dX10_joins_78 : decode cX10_joins 78 = .ok (.getfield 9, 3) := by decide +kernel
theorem dX10_joins_81 : decode cX10_joins 81 = .ok (.iload 4, 2) := by decide +kernel
theorem dX10_joins_83 : decode cX10_joins 83 = .ok (.iconst 1, 1) := by decide +kernel
theorem dX10_joins_84 : decode cX10_joins 84 = .ok (.iadd, 1) := by decide +kernel
theorem dX10_joins_85 : decode cX10_joins 85 = .ok (.iaload, 1) := by decide +kernel
theorem dX10_joins_86 : decode cX10_joins 86 = .ok (.aload_n 0, 1) := by decide +kernel
theorem dX10_joins_87 : decode cX10_joins 87 = .ok (.getfield 9, 3) := by decide +kernel
theorem dX10_joins_90 : decode cX10_joins 90 = .ok (.iload_n 3, 1) := by decide +kernel
theorem dX10_joins_91 : decode cX10_joins 91 = .ok (.iconst 1, 1) := by decide +kernel
theorem dX10_joins_92 : decode cX10_joins 92 = .ok (.iadd, 1) := by decide +kernel
theorem dX10_joins_93 : decode cX10_joins 93 = .ok (.iaload, 1) := by decide +kernel
theorem dX10_joins_94 : decode cX10_joins 94 = .ok (.if_icmp .le 39, 3) := by decide +kernel
theorem dX10_joins_133 : decode cX10_joins 133 = .ok (.aload_n 0, 1) := by decide +kernel
theorem dX10_joins_134 : decode cX10_joins 134 = .ok (.getfield 9, 3) := by decide +kernel
theorem dX10_joins_137 : decode cX10_joins 137 = .ok (.iload_n 3, 1) := by decide +kernel
theorem dX10_joins_138 : decode cX10_joins 138 = .ok (.iconst 1, 1) := by decide +kernel
theorem dX10_joins_139 : decode cX10_joins 139 = .ok (.iadd, 1) := by decide +kernel
theorem dX10_joins_140 : decode cX10_joins 140 = .ok (.iload 5, 2) := by decide +kernel
theorem dX10_joins_142 : decode cX10_joins 142 = .ok (.iastore, 1) := by decide +kernel
theorem dX10_joins_143 : decode cX10_joins 143 = .ok (.aload_n 0, 1) := by decide +kernel
theorem dX10_joins_144 : decode cX10_joins 144 = .ok (.getfield 9, 3) := by decide +kernel
theorem dX10_joins_147 : decode cX10_joins 147 = .ok (.iload_n 3, 1) := by decide +kernel
theorem dX10_joins_148 : decode cX10_joins 148 = .ok (.iconst 2, 1) := by decide +kernel
theorem dX10_joins_149 : decode cX10_joins 149 = .ok (.iadd, 1) := by decide +kernel
theorem dX10_joins_150 : decode cX10_joins 150 = .ok (.dup2, 1) := by decide +kernel
theorem dX10_joins_151 : decode cX10_joins 151 = .ok (.iaload, 1) := by decide +kernel
theorem dX10_joins_152 : decode cX10_joins 152 = .ok (.aload_n 0, 1) := by decide +kernel
theorem dX10_joins_153 : decode cX10_joins 153 = .ok (.getfield 9, 3) := by decide +kernel
theorem dX10_joins_156 : decode cX10_joins 156 = .ok (.iload 4, 2) := by decide +kernel
theorem dX10_joins_158 : decode cX10_joins 158 = .ok (.iconst 2, 1) := by decide +kernel
theorem dX10_joins_159 : decode cX10_joins 159 = .ok (.iadd, 1) := by decide +kernel
theorem dX10_joins_160 : decode cX10_joins 160 = .ok (.iaload, 1) := by decide +kernel
theorem dX10_joins_161 : decode cX10_joins 161 = .ok (.iadd, 1) := by decide +kernel
theorem dX10_joins_162 : decode cX10_joins 162 = .ok (.iastore, 1) := by decide +kernel
theorem dX10_joins_163 : decode cX10_joins 163 = .ok (.aload_n 0, 1) := by decide +kernel
theorem dX10_joins_164 : decode cX10_joins 164 = .ok (.getfield 9, 3) := by decide +kernel
theorem dX10_joins_167 : decode cX10_joins 167 = .ok (.iload_n 3, 1) := by decide +kernel
theorem dX10_joins_168 : decode cX10_joins 168 = .ok (.iconst 3, 1) := by decide +kernel
theorem dX10_joins_169 : decode cX10_joins 169 = .ok (.iadd, 1) := by decide +kernel
theorem dX10_joins_170 : decode cX10_joins 170 = .ok (.dup2, 1) := by decide +kernel
theorem dX10_joins_171 : decode cX10_joins 171 = .ok (.iaload, 1) := by decide +kernel
theorem dX10_joins_172 : decode cX10_joins 172 = .ok (.aload_n 0, 1) := by decide +kernel
theorem dX10_joins_173 : decode cX10_joins 173 = .ok (.getfield 9, 3) := by decide +kernel
theorem dX10_joins_176 : decode cX10_joins 176 = .ok (.iload 4, 2) := by decide +kernel
theorem dX10_joins_178 : decode cX10_joins 178 = .ok (.iconst 3, 1) := by decide +kernel
theorem dX10_joins_179 : decode cX10_joins 179 = .ok (.iadd, 1) := by decide +kernel
theorem dX10_joins_180 : decode cX10_joins 180 = .ok (.iaload, 1) := by decide +kernel
theorem dX10_joins_181 : decode cX10_joins 181 = .ok (.iadd, 1) := by decide +kernel
theorem dX10_joins_182 : decode cX10_joins 182 = .ok (.iastore, 1) := by decide +kernel
theorem dX10_joins_183 : decode cX10_joins 183 = .ok (.aload_n 0, 1) := by decide +kernel
theorem dX10_joins_184 : decode cX10_joins 184 = .ok (.getfield 9, 3) := by decide +kernel
theorem dX10_joins_187 : decode cX10_joins 187 = .ok (.iload_n 3, 1) := by decide +kernel
theorem dX10_joins_188 : decode cX10_joins 188 = .ok (.iconst 4, 1) := by decide +kernel
theorem dX10_joins_189 : decode cX10_joins 189 = .ok (.iadd, 1) := by decide +kernel
theorem dX10_joins_190 : decode cX10_joins 190 = .ok (.iload 6, 2) := by decide +kernel
theorem dX10_joins_192 : decode cX10_joins 192 = .ok (.iastore, 1) := by decide +kernel
theorem dX10_joins_193 : decode cX10_joins 193 = .ok (.aload_n 0, 1) := by decide +kernel
theorem dX10_joins_194 : decode cX10_joins 194 = .ok (.getfield 9, 3) := by decide +kernel
theorem dX10_joins_197 : decode cX10_joins 197 = .ok (.iload_n 3, 1) := by decide +kernel
theorem dX10_joins_198 : decode cX10_joins 198 = .ok (.iconst 5, 1) := by decide +kernel
theorem dX10_joins_199 : decode cX10_joins 199 = .ok (.iadd, 1) := by decide +kernel
theorem dX10_joins_200 : decode cX10_joins 200 = .ok (.aload_n 0, 1) := by decide +kernel
theorem dX10_joins_201 : decode cX10_joins 201 = .ok (.getfield 9, 3) := by decide +kernel
theorem dX10_joins_204 : decode cX10_joins 204 = .ok (.iload_n 3, 1) := by decide +kernel
theorem dX10_joins_205 : decode cX10_joins 205 = .ok (.iconst 5, 1) := by decide +kernel
theorem dX10_joins_206 : decode cX10_joins 206 = .ok (.iadd, 1) := by decide +kernel
theorem dX10_joins_207 : decode cX10_joins 207 = .ok (.iaload, 1) := by decide +kernel
theorem dX10_joins_208 : decode cX10_joins 208 = .ok (.aload_n 0, 1) := by decide +kernel
theorem dX10_joins_209 : decode cX10_joins 209 = .ok (.getfield 9, 3) := by decide +kernel
theorem dX10_joins_212 : decode cX10_joins 212 = .ok (.iload 4, 2) := by decide +kernel
theorem dX10_joins_214 : decode cX10_joins 214 = .ok (.iconst 5, 1) := by decide +kernel
theorem dX10_joins_215 : decode cX10_joins 215 = .ok (.iadd, 1) := by decide +kernel
theorem dX10_joins_216 : decode cX10_joins 216 = .ok (.iaload, 1) := by decide +kernel
theorem dX10_joins_217 : decode cX10_joins 217 = .ok (.invokestatic 128, 3) := by decide +kernel
theorem dX10_joins_220 : decode cX10_joins 220 = .ok (.iastore, 1) := by decide +kernel
theorem dX10_joins_221 : decode cX10_joins 221 = .ok (.aload_n 0, 1) := by decide +kernel
theorem dX10_joins_222 : decode cX10_joins 222 = .ok (.iload_n 1, 1) := by decide +kernel
theorem dX10_joins_223 : decode cX10_joins 223 = .ok (.iload_n 2, 1) := by decide +kernel
theorem dX10_joins_224 : decode cX10_joins 224 = .ok (.invokevirtual 121, 3) := by decide +kernel
theorem dX10_joins_227 : decode cX10_joins 227 = .ok (.iconst 1, 1) := by decide +kernel
theorem dX10_joins_228 : decode cX10_joins 228 = .ok (.isub, 1) := by decide +kernel
theorem dX10_joins_229 : decode cX10_joins 229 = .ok (.istore 7, 2) := by decide +kernel
theorem dX10_joins_231 : decode cX10_joins 231 = .ok (.iconst 1, 1) := by decide +kernel
theorem dX10_joins_232 : decode cX10_joins 232 = .ok (.istore 8, 2) := by decide +kernel
theorem dX10_joins_97 : decode cX10_joins 97 = .ok (.aload_n 0, 1) := by decide +kernel
theorem dX10_joins_98 : decode cX10_joins 98 = .ok (.getfield 9, 3) := by decide +kernel
theorem dX10_joins_101 : decode cX10_joins 101 = .ok (.iload_n 3, 1) := by decide +kernel
theorem dX10_joins_102 : decode cX10_joins 102 = .ok (.iconst 0, 1) := by decide +kernel
theorem dX10_joins_103 : decode cX10_joins 103 = .ok (.iadd, 1) := by decide +kernel
theorem dX10_joins_104 : decode cX10_joins 104 = .ok (.aload_n 0, 1) := by decide +kernel
theorem dX10_joins_105 : decode cX10_joins 105 = .ok (.getfield 9, 3) := by decide +kernel
theorem dX10_joins_108 : decode cX10_joins 108 = .ok (.iload 4, 2) := by decide +kernel
theorem dX10_joins_110 : decode cX10_joins 110 = .ok (.iconst 0, 1) := by decide +kernel
theorem dX10_joins_111 : decode cX10_joins 111 = .ok (.iadd, 1) := by decide +kernel
theorem dX10_joins_112 : decode cX10_joins 112 = .ok (.iaload, 1) := by decide +kernel
theorem dX10_joins_113 : decode cX10_joins 113 = .ok (.iastore, 1) := by decide +kernel
theorem dX10_joins_114 : decode cX10_joins 114 = .ok (.aload_n 0, 1) := by decide +kernel
theorem dX10_joins_115 : decode cX10_joins 115 = .ok (.getfield 9, 3) := by decide +kernel
theorem dX10_joins_118 : decode cX10_joins 118 = .ok (.iload_n 3, 1) := by decide +kernel
theorem dX10_joins_119 : decode cX10_joins 119 = .ok (.bipush 6, 2) := by decide +kernel
theorem dX10_joins_121 : decode cX10_joins 121 = .ok (.iadd, 1) := by decide +kernel
theorem dX10_joins_122 : decode cX10_joins 122 = .ok (.aload_n 0, 1) := by decide +kernel
theorem dX10_joins_123 : decode cX10_joins 123 = .ok (.getfield 9, 3) := by decide +kernel
theorem dX10_joins_126 : decode cX10_joins 126 = .ok (.iload 4, 2) := by decide +kernel
theorem dX10_joins_128 : decode cX10_joins 128 = .ok (.bipush 6, 2) := by decide +kernel
theorem dX10_joins_130 : decode cX10_joins 130 = .ok (.iadd, 1) := by decide +kernel
theorem dX10_joins_131 : decode cX10_joins 131 = .ok (.iaload, 1) := by decide +kernel
theorem dX10_joins_132 : decode cX10_joins 132 = .ok (.iastore, 1) := by decide +kernel
theorem dX10_comes_0 : decode cX10_comes 0 = .ok (.aload_n 0, 1) := by decide +kernel
theorem dX10_comes_1 : decode cX10_comes 1 = .ok (.iload_n 1, 1) := by decide +kernel
theorem dX10_comes_2 : decode cX10_comes 2 = .ok (.iload_n 2, 1) := by decide +kernel
theorem dX10_comes_3 : decode cX10_comes 3 = .ok (.invokevirtual 121, 3) := by decide +kernel
theorem dX10_comes_6 : decode cX10_comes 6 = .ok (.bipush 12, 2) := by decide +kernel
theorem dX10_comes_8 : decode cX10_comes 8 = .ok (.if_icmp .ne 9, 3) := by decide +kernel
theorem dX10_comes_17 : decode cX10_comes 17 = .ok (.aload_n 0, 1) := by decide +kernel
theorem dX10_comes_18 : decode cX10_comes 18 = .ok (.iload_n 1, 1) := by decide +kernel
theorem dX10_comes_19 : decode cX10_comes 19 = .ok (.iload_n 2, 1) := by decide +kernel
theorem dX10_comes_20 : decode cX10_comes 20 = .ok (.invokevirtual 121, 3) := by decide +kernel
theorem dX10_comes_23 : decode cX10_comes 23 = .ok (.istore 7, 2) := by decide +kernel
theorem dX10_comes_25 : decode cX10_comes 25 = .ok (.aload_n 0, 1) := by decide +kernel
theorem dX10_comes_26 : decode cX10_comes 26 = .ok (.iload_n 1, 1) := by decide +kernel
theorem dX10_comes_27 : decode cX10_comes 27 = .ok (.iload_n 2, 1) := by decide +kernel
theorem dX10_comes_28 : decode cX10_comes 28 = .ok (.iload 7, 2) := by decide +kernel
theorem dX10_comes_30 : decode cX10_comes 30 = .ok (.iconst 0, 1) := by decide +kernel
theorem dX10_comes_31 : decode cX10_comes 31 = .ok (.iload_n 3, 1) := by decide +kernel
theorem dX10_comes_32 : decode cX10_comes 32 = .ok (.invokevirtual 131, 3) := by decide +kernel
theorem dX10_comes_35 : decode cX10_comes 35 = .ok (.aload_n 0, 1) := by decide +kernel
theorem dX10_comes_36 : decode cX10_comes 36 = .ok (.iload_n 1, 1) := by decide +kernel
theorem dX10_comes_37 : decode cX10_comes 37 = .ok (.iload_n 2, 1) := by decide +kernel
theorem dX10_comes_38 : decode cX10_comes 38 = .ok (.iload 7, 2) := by decide +kernel
theorem dX10_comes_40 : decode cX10_comes 40 = .ok (.iconst 1, 1) := by decide +kernel
theorem dX10_comes_41 : decode cX10_comes 41 = .ok (.iload 4, 2) := by decide +kernel
theorem dX10_comes_43 : decode cX10_comes 43 = .ok (.invokevirtual 131, 3) := by decide +kernel
theorem dX10_comes_46 : decode cX10_comes 46 = .ok (.aload_n 0, 1) := by decide +kernel
theorem dX10_comes_47 : decode cX10_comes 47 = .ok (.iload_n 1, 1) := by decide +kernel
theorem dX10_comes_48 : decode cX10_comes 48 = .ok (.iload_n 2, 1) := by decide +kernel
theorem dX10_comes_49 : decode cX10_comes 49 = .ok (.iload 7, 2) := by decide +kernel
theorem dX10_comes_51 : decode cX10_comes 51 = .ok (.iconst 2, 1) := by decide +kernel
theorem dX10_comes_52 : decode cX10_comes 52 = .ok (.iconst 0, 1) := by decide +kernel
theorem dX10_comes_53 : decode cX10_comes 53 = .ok (.invokevirtual 131, 3) := by decide +kernel
theorem dX10_comes_56 : decode cX10_comes 56 = .ok (.aload_n 0, 1) := by decide +kernel
theorem dX10_comes_57 : decode cX10_comes 57 = .ok (.iload_n 1, 1) := by decide +kernel
theorem dX10_comes_58 : decode cX10_comes 58 = .ok (.iload_n 2, 1) := by decide +kernel
theorem dX10_comes_59 : decode cX10_comes 59 = .ok (.iload 7, 2) := by decide +kernel
theorem dX10_comes_61 : decode cX10_comes 61 = .ok (.iconst 3, 1) := by decide +kernel
theorem dX10_comes_62 : decode cX10_comes 62 = .ok (.iload 5, 2) := by decide +kernel
theorem dX10_comes_64 : decode cX10_comes 64 = .ok (.invokevirtual 131, 3) := by decide +kernel
theorem dX10_comes_67 : decode cX10_comes 67 = .ok (.aload_n 0, 1) := by decide +kernel
theorem dX10_comes_68 : decode cX10_comes 68 = .ok (.iload_n 1, 1) := by decide +kernel
theorem dX10_comes_69 : decode cX10_comes 69 = .ok (.iload_n 2, 1) := by decide +kernel
theorem dX10_comes_70 : decode cX10_comes 70 = .ok (.iload 7, 2) := by decide +kernel
theorem dX10_comes_72 : decode cX10_comes 72 = .ok (.iconst 4, 1) := by decide +kernel
theorem dX10_comes_73 : decode cX10_comes 73 = .ok (.iload 6, 2) := by decide +kernel
theorem dX10_comes_75 : decode cX10_comes 75 = .ok (.invokevirtual 131, 3) := by decide +kernel
theorem dX10_comes_78 : decode cX10_comes 78 = .ok (.aload_n 0, 1) := by decide +kernel
theorem dX10_comes_79 : decode cX10_comes 79 = .ok (.iload_n 1, 1) := by decide +kernel
theorem dX10_comes_80 : decode cX10_comes 80 = .ok (.iload_n 2, 1) := by decide +kernel
theorem dX10_comes_81 : decode cX10_comes 81 = .ok (.iload 7, 2) := by decide +kernel
theorem dX10_comes_83 : decode cX10_comes 83 = .ok (.iconst 5, 1) := by decide +kernel
theorem dX10_comes_84 : decode cX10_comes 84 = .ok (.iconst 0, 1) := by decide +kernel
theorem dX10_comes_85 : decode cX10_comes 85 = .ok (.invokevirtual 131, 3) := by decide +kernel
theorem dX10_comes_88 : decode cX10_comes 88 = .ok (.aload_n 0, 1) := by decide +kernel
theorem dX10_comes_89 : decode cX10_comes 89 = .ok (.iload_n 1, 1) := by decide +kernel
theorem dX10_comes_90 : decode cX10_comes 90 = .ok (.iload_n 2, 1) := by decide +kernel
theorem dX10_comes_91 : decode cX10_comes 91 = .ok (.iload 7, 2) := by decide +kernel
theorem dX10_comes_93 : decode cX10_comes 93 = .ok (.bipush 6, 2) := by decide +kernel
theorem dX10_comes_95 : decode cX10_comes 95 = .ok (.aload_n 0, 1) := by decide +kernel
theorem dX10_comes_96 : decode cX10_comes 96 = .ok (.getfield 9, 3) := by decide +kernel
theorem dX10_comes_99 : decode cX10_comes 99 = .ok (.iload_n 1, 1) := by decide +kernel
theorem dX10_comes_100 : decode cX10_comes 100 = .ok (.iconst 1, 1) := by decide +kernel
theorem dX10_comes_101 : decode cX10_comes 101 = .ok (.iadd, 1) := by decide +kernel
theorem dX10_comes_102 : decode cX10_comes 102 = .ok (.iaload, 1) := by decide +kernel
theorem dX10_comes_103 : decode cX10_comes 103 = .ok (.invokevirtual 131, 3) := by decide +kernel
theorem dX10_comes_106 : decode cX10_comes 106 = .ok (.aload_n 0, 1) := by decide +kernel
theorem dX10_comes_107 : decode cX10_comes 107 = .ok (.getfield 9, 3) := by decide +kernel
theorem dX10_comes_110 : decode cX10_comes 110 = .ok (.iload_n 1, 1) := by decide +kernel
theorem dX10_comes_111 : decode cX10_comes 111 = .ok (.iconst 1, 1) := by decide +kernel
theorem dX10_comes_112 : decode cX10_comes 112 = .ok (.iadd, 1) := by decide +kernel
theorem dX10_comes_113 : decode cX10_comes 113 = .ok (.dup2, 1) := by decide +kernel
theorem dX10_comes_114 : decode cX10_comes 114 = .ok (.iaload, 1) := by decide +kernel
theorem dX10_comes_115 : decode cX10_comes 115 = .ok (.iconst 1, 1) := by decide +kernel
theorem dX10_comes_116 : decode cX10_comes 116 = .ok (.iadd, 1) := by decide +kernel
theorem dX10_comes_117 : decode cX10_comes 117 = .ok (.iastore, 1) := by decide +kernel
theorem dX10_comes_118 : decode cX10_comes 118 = .ok (.aload_n 0, 1) := by decide +kernel
theorem dX10_comes_119 : decode cX10_comes 119 = .ok (.iload_n 1, 1) := by decide +kernel
theorem dX10_comes_120 : decode cX10_comes 120 = .ok (.iload_n 2, 1) := by decide +kernel
theorem dX10_comes_121 : decode cX10_comes 121 = .ok (.iload 7, 2) := by decide +kernel
theorem dX10_comes_123 : decode cX10_comes 123 = .ok (.iconst 1, 1) := by decide +kernel
theorem dX10_comes_124 : decode cX10_comes 124 = .ok (.iadd, 1) := by decide +kernel
theorem dX10_comes_125 : decode cX10_comes 125 = .ok (.invokevirtual 135, 3) := by decide +kernel
theorem dX10_comes_128 : decode cX10_comes 128 = .ok (.return_, 1) := by decide +kernel
theorem dX10_comes_11 : decode cX10_comes 11 = .ok (.aload_n 0, 1) := by decide +kernel
theorem dX10_comes_12 : decode cX10_comes 12 = .ok (.iload_n 1, 1) := by decide +kernel
theorem dX10_comes_13 : decode cX10_comes 13 = .ok (.iload_n 2, 1) := by decide +kernel
theorem dX10_comes_14 : decode cX10_comes 14 = .ok (.invokevirtual 139, 3) := by decide +kernel
theorem dX10_drops_0 : decode cX10_drops 0 = .ok (.iload_n 3, 1) := by decide +kernel
theorem dX10_drops_1 : decode cX10_drops 1 = .ok (.iconst 1, 1) := by decide +kernel
theorem dX10_drops_2 : decode cX10_drops 2 = .ok (.if_icmp .ne 23, 3) := by decide +kernel
theorem dX10_drops_25 : decode cX10_drops 25 = .ok (.iload_n 3, 1) := by decide +kernel
theorem dX10_drops_26 : decode cX10_drops 26 = .ok (.iconst 3, 1) := by decide +kernel
theorem dX10_drops_27 : decode cX10_drops 27 = .ok (.if_icmp .ne 20, 3) := by decide +kernel
theorem dX10_drops_47 : decode cX10_drops 47 = .ok (.iload_n 3, 1) := by decide +kernel
theorem dX10_drops_48 : decode cX10_drops 48 = .ok (.iconst 2, 1) := by decide +kernel
theorem dX10_drops_49 : decode cX10_drops 49 = .ok (.if_icmp .eq 4, 3) := by decide +kernel
theorem dX10_drops_53 : decode cX10_drops 53 = .ok (.aload_n 0, 1) := by decide +kernel
theorem dX10_drops_54 : decode cX10_drops 54 = .ok (.iload_n 1, 1) := by decide +kernel
theorem dX10_drops_55 : decode cX10_drops 55 = .ok (.iload_n 2, 1) := by decide +kernel
theorem dX10_drops_56 : decode cX10_drops 56 = .ok (.invokevirtual 121, 3) := by decide +kernel
theorem dX10_drops_59 : decode cX10_drops 59 = .ok (.ifCond .ne 14, 3) := by decide +kernel
theorem dX10_drops_73 : decode cX10_drops 73 = .ok (.aload_n 0, 1) := by decide +kernel
theorem dX10_drops_74 : decode cX10_drops 74 = .ok (.getfield 9, 3) := by decide +kernel
theorem dX10_drops_77 : decode cX10_drops 77 = .ok (.iload_n 1, 1) := by decide +kernel
theorem dX10_drops_78 : decode cX10_drops 78 = .ok (.iload_n 2, 1) := by decide +kernel
theorem dX10_drops_79 : decode cX10_drops 79 = .ok (.aload_n 0, 1) := by decide +kernel
theorem dX10_drops_80 : decode cX10_drops 80 = .ok (.iload_n 1, 1) := by decide +kernel
theorem dX10_drops_81 : decode cX10_drops 81 = .ok (.iload_n 2, 1) := by decide +kernel
theorem dX10_drops_82 : decode cX10_drops 82 = .ok (.invokevirtual 121, 3) := by decide +kernel
theorem dX10_drops_85 : decode cX10_drops 85 = .ok (.iconst 1, 1) := by decide +kernel
theorem dX10_drops_86 : decode cX10_drops 86 = .ok (.isub, 1) := by decide +kernel
theorem dX10_drops_87 : decode cX10_drops 87 = .ok (.invokestatic 113, 3) := by decide +kernel
theorem dX10_drops_90 : decode cX10_drops 90 = .ok (.iconst 2, 1) := by decide +kernel
theorem dX10_drops_91 : decode cX10_drops 91 = .ok (.iadd, 1) := by decide +kernel
theorem dX10_drops_92 : decode cX10_drops 92 = .ok (.dup2, 1) := by decide +kernel
theorem dX10_drops_93 : decode cX10_drops 93 = .ok (.iaload, 1) := by decide +kernel
theorem dX10_drops_94 : decode cX10_drops 94 = .ok (.iload 4, 2) := by decide +kernel
theorem dX10_drops_96 : decode cX10_drops 96 = .ok (.iadd, 1) := by decide +kernel
theorem dX10_drops_97 : decode cX10_drops 97 = .ok (.iastore, 1) := by decide +kernel
theorem dX10_drops_98 : decode cX10_drops 98 = .ok (.return_, 1) := by decide +kernel
theorem dX10_drops_62 : decode cX10_drops 62 = .ok (.aload_n 0, 1) := by decide +kernel
theorem dX10_drops_63 : decode cX10_drops 63 = .ok (.iload_n 1, 1) := by decide +kernel
theorem dX10_drops_64 : decode cX10_drops 64 = .ok (.iload_n 2, 1) := by decide +kernel
theorem dX10_drops_65 : decode cX10_drops 65 = .ok (.iload 4, 2) := by decide +kernel
theorem dX10_drops_67 : decode cX10_drops 67 = .ok (.invokevirtual 150, 3) := by decide +kernel
theorem dX10_drops_70 : decode cX10_drops 70 = .ok (.goto 28, 3) := by decide +kernel
theorem dX10_drops_52 : decode cX10_drops 52 = .ok (.return_, 1) := by decide +kernel
theorem dX10_drops_30 : decode cX10_drops 30 = .ok (.iload 5, 2) := by decide +kernel
theorem dX10_drops_32 : decode cX10_drops 32 = .ok (.ifCond .ge 15, 3) := by decide +kernel
theorem dX10_drops_35 : decode cX10_drops 35 = .ok (.aload_n 0, 1) := by decide +kernel
theorem dX10_drops_36 : decode cX10_drops 36 = .ok (.iload_n 1, 1) := by decide +kernel
theorem dX10_drops_37 : decode cX10_drops 37 = .ok (.iload_n 2, 1) := by decide +kernel
theorem dX10_drops_38 : decode cX10_drops 38 = .ok (.iconst 4, 1) := by decide +kernel
theorem dX10_drops_39 : decode cX10_drops 39 = .ok (.iconst 1, 1) := by decide +kernel
theorem dX10_drops_40 : decode cX10_drops 40 = .ok (.bipush 10, 2) := by decide +kernel
theorem dX10_drops_42 : decode cX10_drops 42 = .ok (.iload 5, 2) := by decide +kernel
theorem dX10_drops_44 : decode cX10_drops 44 = .ok (.invokevirtual 146, 3) := by decide +kernel
theorem dX10_drops_5 : decode cX10_drops 5 = .ok (.aload_n 0, 1) := by decide +kernel
theorem dX10_drops_6 : decode cX10_drops 6 = .ok (.iload_n 1, 1) := by decide +kernel
theorem dX10_drops_7 : decode cX10_drops 7 = .ok (.iload_n 2, 1) := by decide +kernel
theorem dX10_drops_8 : decode cX10_drops 8 = .ok (.iconst 0, 1) := by decide +kernel
theorem dX10_drops_9 : decode cX10_drops 9 = .ok (.iload 4, 2) := by decide +kernel
theorem dX10_drops_11 : decode cX10_drops 11 = .ok (.bipush 10, 2) := by decide +kernel
theorem dX10_drops_13 : decode cX10_drops 13 = .ok (.iload 4, 2) := by decide +kernel
theorem dX10_drops_15 : decode cX10_drops 15 = .ok (.imul, 1) := by decide +kernel
theorem dX10_drops_16 : decode cX10_drops 16 = .ok (.iload 5, 2) := by decide +kernel
theorem dX10_drops_18 : decode cX10_drops 18 = .ok (.iconst 0, 1) := by decide +kernel
theorem dX10_drops_19 : decode cX10_drops 19 = .ok (.invokestatic 143, 3) := by decide +kernel
theorem dX10_drops_22 : decode cX10_drops 22 = .ok (.invokevirtual 146, 3) := by decide +kernel
theorem dX10_hourOf_0 : decode cX10_hourOf 0 = .ok (.aload_n 0, 1) := by decide +kernel
theorem dX10_hourOf_1 : decode cX10_hourOf 1 = .ok (.getfield 153, 3) := by decide +kernel
theorem dX10_hourOf_4 : decode cX10_hourOf 4 = .ok (.ifCond .ne 7, 3) := by decide +kernel
theorem dX10_hourOf_11 : decode cX10_hourOf 11 = .ok (.aload_n 0, 1) := by decide +kernel
theorem dX10_hourOf_12 : decode cX10_hourOf 12 = .ok (.getfield 9, 3) := by decide +kernel
theorem dX10_hourOf_15 : decode cX10_hourOf 15 = .ok (.iload_n 1, 1) := by decide +kernel
theorem dX10_hourOf_16 : decode cX10_hourOf 16 = .ok (.iconst 0, 1) := by decide +kernel
theorem dX10_hourOf_17 : decode cX10_hourOf 17 = .ok (.iadd, 1) := by decide +kernel
theorem dX10_hourOf_18 : decode cX10_hourOf 18 = .ok (.iaload, 1) := by decide +kernel
theorem dX10_hourOf_19 : decode cX10_hourOf 19 = .ok (.aload_n 0, 1) := by decide +kernel
theorem dX10_hourOf_20 : decode cX10_hourOf 20 = .ok (.getfield 153, 3) := by decide +kernel
theorem dX10_hourOf_23 : decode cX10_hourOf 23 = .ok (.irem, 1) := by decide +kernel
theorem dX10_hourOf_24 : decode cX10_hourOf 24 = .ok (.ireturn, 1) := by decide +kernel
theorem dX10_hourOf_7 : decode cX10_hourOf 7 = .ok (.iconst (-1), 1) := by decide +kernel
theorem dX10_hourOf_8 : decode cX10_hourOf 8 = .ok (.goto 16, 3) := by decide +kernel
theorem dX10_airOf_0 : decode cX10_airOf 0 = .ok (.aload_n 0, 1) := by decide +kernel
theorem dX10_airOf_1 : decode cX10_airOf 1 = .ok (.iload_n 1, 1) := by decide +kernel
theorem dX10_airOf_2 : decode cX10_airOf 2 = .ok (.invokevirtual 156, 3) := by decide +kernel
theorem dX10_airOf_5 : decode cX10_airOf 5 = .ok (.istore_n 2, 1) := by decide +kernel
theorem dX10_airOf_6 : decode cX10_airOf 6 = .ok (.iload_n 2, 1) := by decide +kernel
theorem dX10_airOf_7 : decode cX10_airOf 7 = .ok (.iconst (-1), 1) := by decide +kernel
theorem dX10_airOf_8 : decode cX10_airOf 8 = .ok (.if_icmp .ne 7, 3) := by decide +kernel
theorem dX10_airOf_15 : decode cX10_airOf 15 = .ok (.aload_n 0, 1) := by decide +kernel
theorem dX10_airOf_16 : decode cX10_airOf 16 = .ok (.getfield 160, 3) := by decide +kernel
theorem dX10_airOf_19 : decode cX10_airOf 19 = .ok (.ifCond .ne 12, 3) := by decide +kernel
theorem dX10_airOf_31 : decode cX10_airOf 31 = .ok (.bipush 100, 2) := by decide +kernel
theorem dX10_airOf_33 : decode cX10_airOf 33 = .ok (.aload_n 0, 1) := by decide +kernel
theorem dX10_airOf_34 : decode cX10_airOf 34 = .ok (.getfield 19, 3) := by decide +kernel
theorem dX10_airOf_37 : decode cX10_airOf 37 = .ok (.iload_n 2, 1) := by decide +kernel
theorem dX10_airOf_38 : decode cX10_airOf 38 = .ok (.iaload, 1) := by decide +kernel
theorem dX10_airOf_39 : decode cX10_airOf 39 = .ok (.aload_n 0, 1) := by decide +kernel
theorem dX10_airOf_40 : decode cX10_airOf 40 = .ok (.getfield 160, 3) := by decide +kernel
theorem dX10_airOf_43 : decode cX10_airOf 43 = .ok (.iadd, 1) := by decide +kernel
theorem dX10_airOf_44 : decode cX10_airOf 44 = .ok (.invokestatic 143, 3) := by decide +kernel
theorem dX10_airOf_47 : decode cX10_airOf 47 = .ok (.ireturn, 1) := by decide +kernel
theorem dX10_airOf_22 : decode cX10_airOf 22 = .ok (.aload_n 0, 1) := by decide +kernel
theorem dX10_airOf_23 : decode cX10_airOf 23 = .ok (.getfield 19, 3) := by decide +kernel
theorem dX10_airOf_26 : decode cX10_airOf 26 = .ok (.iload_n 2, 1) := by decide +kernel
theorem dX10_airOf_27 : decode cX10_airOf 27 = .ok (.iaload, 1) := by decide +kernel
theorem dX10_airOf_28 : decode cX10_airOf 28 = .ok (.goto 19, 3) := by decide +kernel
theorem dX10_airOf_11 : decode cX10_airOf 11 = .ok (.iconst 0, 1) := by decide +kernel
theorem dX10_airOf_12 : decode cX10_airOf 12 = .ok (.goto 35, 3) := by decide +kernel
theorem dX10_fallsNow_0 : decode cX10_fallsNow 0 = .ok (.aload_n 0, 1) := by decide +kernel
theorem dX10_fallsNow_1 : decode cX10_fallsNow 1 = .ok (.iload_n 1, 1) := by decide +kernel
theorem dX10_fallsNow_2 : decode cX10_fallsNow 2 = .ok (.invokevirtual 156, 3) := by decide +kernel
theorem dX10_fallsNow_5 : decode cX10_fallsNow 5 = .ok (.istore 4, 2) := by decide +kernel
theorem dX10_fallsNow_7 : decode cX10_fallsNow 7 = .ok (.iload 4, 2) := by decide +kernel
theorem dX10_fallsNow_9 : decode cX10_fallsNow 9 = .ok (.iconst (-1), 1) := by decide +kernel
theorem dX10_fallsNow_10 : decode cX10_fallsNow 10 = .ok (.if_icmp .eq 19, 3) := by decide +kernel
theorem dX10_fallsNow_29 : decode cX10_fallsNow 29 = .ok (.return_, 1) := by decide +kernel
theorem dX10_fallsNow_13 : decode cX10_fallsNow 13 = .ok (.iload 4, 2) := by decide +kernel
theorem dX10_fallsNow_15 : decode cX10_fallsNow 15 = .ok (.aload_n 0, 1) := by decide +kernel
theorem dX10_fallsNow_16 : decode cX10_fallsNow 16 = .ok (.getfield 53, 3) := by decide +kernel
theorem dX10_fallsNow_19 : decode cX10_fallsNow 19 = .ok (.if_icmp .eq 10, 3) := by decide +kernel
theorem dX10_fallsNow_22 : decode cX10_fallsNow 22 = .ok (.aload_n 0, 1) := by decide +kernel
theorem dX10_fallsNow_23 : decode cX10_fallsNow 23 = .ok (.getfield 163, 3) := by decide +kernel
theorem dX10_fallsNow_26 : decode cX10_fallsNow 26 = .ok (.ifCond .eq 4, 3) := by decide +kernel
theorem dX10_fallsNow_30 : decode cX10_fallsNow 30 = .ok (.aload_n 0, 1) := by decide +kernel
theorem dX10_fallsNow_31 : decode cX10_fallsNow 31 = .ok (.iload_n 1, 1) := by decide +kernel
theorem dX10_fallsNow_32 : decode cX10_fallsNow 32 = .ok (.iload_n 2, 1) := by decide +kernel
theorem dX10_fallsNow_33 : decode cX10_fallsNow 33 = .ok (.aload_n 0, 1) := by decide +kernel
theorem dX10_fallsNow_34 : decode cX10_fallsNow 34 = .ok (.getfield 22, 3) := by decide +kernel
theorem dX10_fallsNow_37 : decode cX10_fallsNow 37 = .ok (.iload 4, 2) := by decide +kernel
theorem dX10_fallsNow_39 : decode cX10_fallsNow 39 = .ok (.iaload, 1) := by decide +kernel
theorem dX10_fallsNow_40 : decode cX10_fallsNow 40 = .ok (.iload 4, 2) := by decide +kernel
theorem dX10_fallsNow_42 : decode cX10_fallsNow 42 = .ok (.aload_n 0, 1) := by decide +kernel
theorem dX10_fallsNow_43 : decode cX10_fallsNow 43 = .ok (.getfield 56, 3) := by decide +kernel
theorem dX10_fallsNow_46 : decode cX10_fallsNow 46 = .ok (.if_icmp .ne 10, 3) := by decide +kernel
theorem dX10_fallsNow_56 : decode cX10_fallsNow 56 = .ok (.aload_n 0, 1) := by decide +kernel
theorem dX10_fallsNow_57 : decode cX10_fallsNow 57 = .ok (.getfield 25, 3) := by decide +kernel
theorem dX10_fallsNow_60 : decode cX10_fallsNow 60 = .ok (.iload 4, 2) := by decide +kernel
theorem dX10_fallsNow_62 : decode cX10_fallsNow 62 = .ok (.iaload, 1) := by decide +kernel
theorem dX10_fallsNow_63 : decode cX10_fallsNow 63 = .ok (.iload_n 3, 1) := by decide +kernel
theorem dX10_fallsNow_64 : decode cX10_fallsNow 64 = .ok (.invokevirtual 170, 3) := by decide +kernel
theorem dX10_fallsNow_67 : decode cX10_fallsNow 67 = .ok (.return_, 1) := by decide +kernel
theorem dX10_fallsNow_49 : decode cX10_fallsNow 49 = .ok (.aload_n 0, 1) := by decide +kernel
theorem dX10_fallsNow_50 : decode cX10_fallsNow 50 = .ok (.getfield 167, 3) := by decide +kernel
theorem dX10_fallsNow_53 : decode cX10_fallsNow 53 = .ok (.goto 10, 3) := by decide +kernel
theorem dX10_hour_8 : decode cX10_hour 8 = .ok (.iload_n 3, 1) := by decide +kernel
theorem dX10_hour_9 : decode cX10_hour 9 = .ok (.aload_n 0, 1) := by decide +kernel
theorem dX10_hour_10 : decode cX10_hour 10 = .ok (.getfield 198, 3) := by decide +kernel
theorem dX10_hour_13 : decode cX10_hour 13 = .ok (.if_icmp .ge 48, 3) := by decide +kernel
theorem dX10_hour_61 : decode cX10_hour 61 = .ok (.aload_n 0, 1) := by decide +kernel
theorem dX10_hour_62 : decode cX10_hour 62 = .ok (.getfield 9, 3) := by decide +kernel
theorem dX10_hour_65 : decode cX10_hour 65 = .ok (.iload_n 1, 1) := by decide +kernel
theorem dX10_hour_66 : decode cX10_hour 66 = .ok (.iconst 0, 1) := by decide +kernel
theorem dX10_hour_67 : decode cX10_hour 67 = .ok (.iadd, 1) := by decide +kernel
theorem dX10_hour_68 : decode cX10_hour 68 = .ok (.dup2, 1) := by decide +kernel
theorem dX10_hour_69 : decode cX10_hour 69 = .ok (.iaload, 1) := by decide +kernel
theorem dX10_hour_70 : decode cX10_hour 70 = .ok (.iconst 1, 1) := by decide +kernel
theorem dX10_hour_71 : decode cX10_hour 71 = .ok (.iadd, 1) := by decide +kernel
theorem dX10_hour_72 : decode cX10_hour 72 = .ok (.iastore, 1) := by decide +kernel
theorem dX10_hour_73 : decode cX10_hour 73 = .ok (.return_, 1) := by decide +kernel
theorem dX10_hour_16 : decode cX10_hour 16 = .ok (.aload_n 0, 1) := by decide +kernel
theorem dX10_hour_17 : decode cX10_hour 17 = .ok (.iload_n 1, 1) := by decide +kernel
theorem dX10_hour_18 : decode cX10_hour 18 = .ok (.iload_n 3, 1) := by decide +kernel
theorem dX10_hour_19 : decode cX10_hour 19 = .ok (.iload_n 2, 1) := by decide +kernel
theorem dX10_hour_20 : decode cX10_hour 20 = .ok (.invokevirtual 201, 3) := by decide +kernel
theorem dX10_hour_23 : decode cX10_hour 23 = .ok (.aload_n 0, 1) := by decide +kernel
theorem dX10_hour_24 : decode cX10_hour 24 = .ok (.iload_n 1, 1) := by decide +kernel
theorem dX10_hour_25 : decode cX10_hour 25 = .ok (.iload_n 3, 1) := by decide +kernel
theorem dX10_hour_26 : decode cX10_hour 26 = .ok (.iload_n 2, 1) := by decide +kernel
theorem dX10_hour_27 : decode cX10_hour 27 = .ok (.invokevirtual 204, 3) := by decide +kernel
theorem dX10_hour_30 : decode cX10_hour 30 = .ok (.aload_n 0, 1) := by decide +kernel
theorem dX10_hour_31 : decode cX10_hour 31 = .ok (.iload_n 1, 1) := by decide +kernel
theorem dX10_hour_32 : decode cX10_hour 32 = .ok (.iload_n 3, 1) := by decide +kernel
theorem dX10_hour_33 : decode cX10_hour 33 = .ok (.invokevirtual 207, 3) := by decide +kernel
theorem dX10_hour_36 : decode cX10_hour 36 = .ok (.aload_n 0, 1) := by decide +kernel
theorem dX10_hour_37 : decode cX10_hour 37 = .ok (.iload_n 1, 1) := by decide +kernel
theorem dX10_hour_38 : decode cX10_hour 38 = .ok (.iload_n 3, 1) := by decide +kernel
theorem dX10_hour_39 : decode cX10_hour 39 = .ok (.invokevirtual 210, 3) := by decide +kernel
theorem dX10_hour_42 : decode cX10_hour 42 = .ok (.aload_n 0, 1) := by decide +kernel
theorem dX10_hour_43 : decode cX10_hour 43 = .ok (.iload_n 1, 1) := by decide +kernel
theorem dX10_hour_44 : decode cX10_hour 44 = .ok (.iload_n 3, 1) := by decide +kernel
theorem dX10_hour_45 : decode cX10_hour 45 = .ok (.invokevirtual 213, 3) := by decide +kernel
theorem dX10_hour_48 : decode cX10_hour 48 = .ok (.aload_n 0, 1) := by decide +kernel
theorem dX10_hour_49 : decode cX10_hour 49 = .ok (.iload_n 1, 1) := by decide +kernel
theorem dX10_hour_50 : decode cX10_hour 50 = .ok (.iload_n 3, 1) := by decide +kernel
theorem dX10_hour_51 : decode cX10_hour 51 = .ok (.iload_n 2, 1) := by decide +kernel
theorem dX10_hour_52 : decode cX10_hour 52 = .ok (.invokevirtual 216, 3) := by decide +kernel
theorem dX10_hour_55 : decode cX10_hour 55 = .ok (.iinc 3 1, 3) := by decide +kernel
theorem dX10_hour_58 : decode cX10_hour 58 = .ok (.goto (-50), 3) := by decide +kernel
theorem dX10_hour_0 : decode cX10_hour 0 = .ok (.aload_n 0, 1) := by decide +kernel
theorem dX10_hour_1 : decode cX10_hour 1 = .ok (.iload_n 1, 1) := by decide +kernel
theorem dX10_hour_2 : decode cX10_hour 2 = .ok (.invokevirtual 195, 3) := by decide +kernel
theorem dX10_hour_5 : decode cX10_hour 5 = .ok (.istore_n 2, 1) := by decide +kernel
theorem dX10_hour_6 : decode cX10_hour 6 = .ok (.iconst 0, 1) := by decide +kernel
theorem dX10_hour_7 : decode cX10_hour 7 = .ok (.istore_n 3, 1) := by decide +kernel
theorem dX10_goes_2 : decode cX10_goes 2 = .ok (.iload_n 3, 1) := by decide +kernel
theorem dX10_goes_3 : decode cX10_goes 3 = .ok (.iload_n 2, 1) := by decide +kernel
theorem dX10_goes_4 : decode cX10_goes 4 = .ok (.if_icmp .ge 14, 3) := by decide +kernel
theorem dX10_goes_18 : decode cX10_goes 18 = .ok (.return_, 1) := by decide +kernel
theorem dX10_goes_7 : decode cX10_goes 7 = .ok (.aload_n 0, 1) := by decide +kernel
theorem dX10_goes_8 : decode cX10_goes 8 = .ok (.iload_n 1, 1) := by decide +kernel
theorem dX10_goes_9 : decode cX10_goes 9 = .ok (.invokevirtual 219, 3) := by decide +kernel
theorem dX10_goes_12 : decode cX10_goes 12 = .ok (.iinc 3 1, 3) := by decide +kernel
theorem dX10_goes_15 : decode cX10_goes 15 = .ok (.goto (-13), 3) := by decide +kernel
theorem dX10_goes_0 : decode cX10_goes 0 = .ok (.iconst 0, 1) := by decide +kernel
theorem dX10_goes_1 : decode cX10_goes 1 = .ok (.istore_n 3, 1) := by decide +kernel
