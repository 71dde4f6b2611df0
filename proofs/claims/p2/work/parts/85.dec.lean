-- decode rows of refc
theorem dX10_slope1_0 : decode cX10_slope1 0 = .ok (.aload_n 0, 1) := by decide +kernel
theorem dX10_slope1_1 : decode cX10_slope1 1 = .ok (.aload_n 0, 1) := by decide +kernel
theorem dX10_slope1_2 : decode cX10_slope1 2 = .ok (.getfield 288, 3) := by decide +kernel
theorem dX10_slope1_5 : decode cX10_slope1 5 = .ok (.iconst 4, 1) := by decide +kernel
theorem dX10_slope1_6 : decode cX10_slope1 6 = .ok (.if_icmp .ge 7, 3) := by decide +kernel
theorem dX10_slope1_13 : decode cX10_slope1 13 = .ok (.iconst 0, 1) := by decide +kernel
theorem dX10_slope1_14 : decode cX10_slope1 14 = .ok (.iconst 2, 1) := by decide +kernel
theorem dX10_slope1_15 : decode cX10_slope1 15 = .ok (.invokevirtual 277, 3) := by decide +kernel
theorem dX10_slope1_18 : decode cX10_slope1 18 = .ok (.ifCond .ne 4, 3) := by decide +kernel
theorem dX10_slope1_21 : decode cX10_slope1 21 = .ok (.return_, 1) := by decide +kernel
theorem dX10_slope1_9 : decode cX10_slope1 9 = .ok (.iconst 1, 1) := by decide +kernel
theorem dX10_slope1_10 : decode cX10_slope1 10 = .ok (.goto 4, 3) := by decide +kernel
theorem dX10_slope1_22 : decode cX10_slope1 22 = .ok (.aload_n 0, 1) := by decide +kernel
theorem dX10_slope1_23 : decode cX10_slope1 23 = .ok (.invokevirtual 285, 3) := by decide +kernel
theorem dX10_slope1_26 : decode cX10_slope1 26 = .ok (.aload_n 0, 1) := by decide +kernel
theorem dX10_slope1_27 : decode cX10_slope1 27 = .ok (.getfield 65, 3) := by decide +kernel
theorem dX10_slope1_30 : decode cX10_slope1 30 = .ok (.aload_n 0, 1) := by decide +kernel
theorem dX10_slope1_31 : decode cX10_slope1 31 = .ok (.getfield 288, 3) := by decide +kernel
theorem dX10_slope1_34 : decode cX10_slope1 34 = .ok (.aload_n 0, 1) := by decide +kernel
theorem dX10_slope1_35 : decode cX10_slope1 35 = .ok (.iconst 0, 1) := by decide +kernel
theorem dX10_slope1_36 : decode cX10_slope1 36 = .ok (.bipush 90, 2) := by decide +kernel
theorem dX10_slope1_38 : decode cX10_slope1 38 = .ok (.invokevirtual 291, 3) := by decide +kernel
theorem dX10_slope1_41 : decode cX10_slope1 41 = .ok (.iastore, 1) := by decide +kernel
theorem dX10_slope1_42 : decode cX10_slope1 42 = .ok (.aload_n 0, 1) := by decide +kernel
theorem dX10_slope1_43 : decode cX10_slope1 43 = .ok (.getfield 274, 3) := by decide +kernel
theorem dX10_slope1_46 : decode cX10_slope1 46 = .ok (.ifCond .ne 19, 3) := by decide +kernel
theorem dX10_slope1_49 : decode cX10_slope1 49 = .ok (.aload_n 0, 1) := by decide +kernel
theorem dX10_slope1_50 : decode cX10_slope1 50 = .ok (.getfield 68, 3) := by decide +kernel
theorem dX10_slope1_53 : decode cX10_slope1 53 = .ok (.aload_n 0, 1) := by decide +kernel
theorem dX10_slope1_54 : decode cX10_slope1 54 = .ok (.getfield 288, 3) := by decide +kernel
theorem dX10_slope1_57 : decode cX10_slope1 57 = .ok (.aload_n 0, 1) := by decide +kernel
theorem dX10_slope1_58 : decode cX10_slope1 58 = .ok (.iconst 0, 1) := by decide +kernel
theorem dX10_slope1_59 : decode cX10_slope1 59 = .ok (.bipush 20, 2) := by decide +kernel
theorem dX10_slope1_61 : decode cX10_slope1 61 = .ok (.invokevirtual 291, 3) := by decide +kernel
theorem dX10_slope1_64 : decode cX10_slope1 64 = .ok (.iastore, 1) := by decide +kernel
theorem dX10_slope1_65 : decode cX10_slope1 65 = .ok (.aload_n 0, 1) := by decide +kernel
theorem dX10_slope1_66 : decode cX10_slope1 66 = .ok (.getfield 71, 3) := by decide +kernel
theorem dX10_slope1_69 : decode cX10_slope1 69 = .ok (.aload_n 0, 1) := by decide +kernel
theorem dX10_slope1_70 : decode cX10_slope1 70 = .ok (.getfield 288, 3) := by decide +kernel
theorem dX10_slope1_73 : decode cX10_slope1 73 = .ok (.iconst 0, 1) := by decide +kernel
theorem dX10_slope1_74 : decode cX10_slope1 74 = .ok (.iastore, 1) := by decide +kernel
theorem dX10_slope1_75 : decode cX10_slope1 75 = .ok (.aload_n 0, 1) := by decide +kernel
theorem dX10_slope1_76 : decode cX10_slope1 76 = .ok (.dup, 1) := by decide +kernel
theorem dX10_slope1_77 : decode cX10_slope1 77 = .ok (.getfield 288, 3) := by decide +kernel
theorem dX10_slope1_80 : decode cX10_slope1 80 = .ok (.iconst 1, 1) := by decide +kernel
theorem dX10_slope1_81 : decode cX10_slope1 81 = .ok (.iadd, 1) := by decide +kernel
theorem dX10_slope1_82 : decode cX10_slope1 82 = .ok (.putfield 288, 3) := by decide +kernel
theorem dX10_slope1_85 : decode cX10_slope1 85 = .ok (.return_, 1) := by decide +kernel
theorem dX10_layer1_0 : decode cX10_layer1 0 = .ok (.aload_n 0, 1) := by decide +kernel
theorem dX10_layer1_1 : decode cX10_layer1 1 = .ok (.invokevirtual 285, 3) := by decide +kernel
theorem dX10_layer1_4 : decode cX10_layer1 4 = .ok (.aload_n 0, 1) := by decide +kernel
theorem dX10_layer1_5 : decode cX10_layer1 5 = .ok (.aload_n 0, 1) := by decide +kernel
theorem dX10_layer1_6 : decode cX10_layer1 6 = .ok (.getfield 263, 3) := by decide +kernel
theorem dX10_layer1_9 : decode cX10_layer1 9 = .ok (.iconst 2, 1) := by decide +kernel
theorem dX10_layer1_10 : decode cX10_layer1 10 = .ok (.if_icmp .ne 7, 3) := by decide +kernel
theorem dX10_layer1_17 : decode cX10_layer1 17 = .ok (.iconst 0, 1) := by decide +kernel
theorem dX10_layer1_18 : decode cX10_layer1 18 = .ok (.iconst 1, 1) := by decide +kernel
theorem dX10_layer1_19 : decode cX10_layer1 19 = .ok (.invokevirtual 277, 3) := by decide +kernel
theorem dX10_layer1_22 : decode cX10_layer1 22 = .ok (.ifCond .eq 75, 3) := by decide +kernel
theorem dX10_layer1_97 : decode cX10_layer1 97 = .ok (.return_, 1) := by decide +kernel
theorem dX10_layer1_13 : decode cX10_layer1 13 = .ok (.iconst 1, 1) := by decide +kernel
theorem dX10_layer1_14 : decode cX10_layer1 14 = .ok (.goto 4, 3) := by decide +kernel
theorem dX10_layer1_25 : decode cX10_layer1 25 = .ok (.aload_n 0, 1) := by decide +kernel
theorem dX10_layer1_26 : decode cX10_layer1 26 = .ok (.aload_n 0, 1) := by decide +kernel
theorem dX10_layer1_27 : decode cX10_layer1 27 = .ok (.getfield 260, 3) := by decide +kernel
theorem dX10_layer1_30 : decode cX10_layer1 30 = .ok (.iconst 4, 1) := by decide +kernel
theorem dX10_layer1_31 : decode cX10_layer1 31 = .ok (.if_icmp .ge 7, 3) := by decide +kernel
theorem dX10_layer1_38 : decode cX10_layer1 38 = .ok (.iconst 0, 1) := by decide +kernel
theorem dX10_layer1_39 : decode cX10_layer1 39 = .ok (.iconst 2, 1) := by decide +kernel
theorem dX10_layer1_40 : decode cX10_layer1 40 = .ok (.invokevirtual 277, 3) := by decide +kernel
theorem dX10_layer1_43 : decode cX10_layer1 43 = .ok (.ifCond .eq 54, 3) := by decide +kernel
theorem dX10_layer1_34 : decode cX10_layer1 34 = .ok (.iconst 1, 1) := by decide +kernel
theorem dX10_layer1_35 : decode cX10_layer1 35 = .ok (.goto 4, 3) := by decide +kernel
theorem dX10_layer1_46 : decode cX10_layer1 46 = .ok (.aload_n 0, 1) := by decide +kernel
theorem dX10_layer1_47 : decode cX10_layer1 47 = .ok (.aload_n 0, 1) := by decide +kernel
theorem dX10_layer1_48 : decode cX10_layer1 48 = .ok (.getfield 260, 3) := by decide +kernel
theorem dX10_layer1_51 : decode cX10_layer1 51 = .ok (.aload_n 0, 1) := by decide +kernel
theorem dX10_layer1_52 : decode cX10_layer1 52 = .ok (.getfield 288, 3) := by decide +kernel
theorem dX10_layer1_55 : decode cX10_layer1 55 = .ok (.if_icmp .ge 7, 3) := by decide +kernel
theorem dX10_layer1_62 : decode cX10_layer1 62 = .ok (.iconst 0, 1) := by decide +kernel
theorem dX10_layer1_63 : decode cX10_layer1 63 = .ok (.iconst 3, 1) := by decide +kernel
theorem dX10_layer1_64 : decode cX10_layer1 64 = .ok (.invokevirtual 277, 3) := by decide +kernel
theorem dX10_layer1_67 : decode cX10_layer1 67 = .ok (.ifCond .eq 30, 3) := by decide +kernel
theorem dX10_layer1_58 : decode cX10_layer1 58 = .ok (.iconst 1, 1) := by decide +kernel
theorem dX10_layer1_59 : decode cX10_layer1 59 = .ok (.goto 4, 3) := by decide +kernel
theorem dX10_layer1_70 : decode cX10_layer1 70 = .ok (.aload_n 0, 1) := by decide +kernel
theorem dX10_layer1_71 : decode cX10_layer1 71 = .ok (.aload_n 0, 1) := by decide +kernel
theorem dX10_layer1_72 : decode cX10_layer1 72 = .ok (.getfield 71, 3) := by decide +kernel
theorem dX10_layer1_75 : decode cX10_layer1 75 = .ok (.aload_n 0, 1) := by decide +kernel
theorem dX10_layer1_76 : decode cX10_layer1 76 = .ok (.getfield 260, 3) := by decide +kernel
theorem dX10_layer1_79 : decode cX10_layer1 79 = .ok (.iaload, 1) := by decide +kernel
theorem dX10_layer1_80 : decode cX10_layer1 80 = .ok (.bipush 12, 2) := by decide +kernel
theorem dX10_layer1_82 : decode cX10_layer1 82 = .ok (.if_icmp .ge 7, 3) := by decide +kernel
theorem dX10_layer1_89 : decode cX10_layer1 89 = .ok (.iconst 0, 1) := by decide +kernel
theorem dX10_layer1_90 : decode cX10_layer1 90 = .ok (.iconst 2, 1) := by decide +kernel
theorem dX10_layer1_91 : decode cX10_layer1 91 = .ok (.invokevirtual 277, 3) := by decide +kernel
theorem dX10_layer1_94 : decode cX10_layer1 94 = .ok (.ifCond .ne 4, 3) := by decide +kernel
theorem dX10_layer1_85 : decode cX10_layer1 85 = .ok (.iconst 1, 1) := by decide +kernel
theorem dX10_layer1_86 : decode cX10_layer1 86 = .ok (.goto 4, 3) := by decide +kernel
theorem dX10_layer1_98 : decode cX10_layer1 98 = .ok (.aload_n 0, 1) := by decide +kernel
theorem dX10_layer1_99 : decode cX10_layer1 99 = .ok (.getfield 260, 3) := by decide +kernel
theorem dX10_layer1_102 : decode cX10_layer1 102 = .ok (.istore_n 1, 1) := by decide +kernel
theorem dX10_layer1_103 : decode cX10_layer1 103 = .ok (.bipush 84, 2) := by decide +kernel
theorem dX10_layer1_105 : decode cX10_layer1 105 = .ok (.iload_n 1, 1) := by decide +kernel
theorem dX10_layer1_106 : decode cX10_layer1 106 = .ok (.imul, 1) := by decide +kernel
theorem dX10_layer1_107 : decode cX10_layer1 107 = .ok (.bipush 7, 2) := by decide +kernel
theorem dX10_layer1_109 : decode cX10_layer1 109 = .ok (.aload_n 0, 1) := by decide +kernel
theorem dX10_layer1_110 : decode cX10_layer1 110 = .ok (.getfield 71, 3) := by decide +kernel
theorem dX10_layer1_113 : decode cX10_layer1 113 = .ok (.iload_n 1, 1) := by decide +kernel
theorem dX10_layer1_114 : decode cX10_layer1 114 = .ok (.iaload, 1) := by decide +kernel
theorem dX10_layer1_115 : decode cX10_layer1 115 = .ok (.imul, 1) := by decide +kernel
theorem dX10_layer1_116 : decode cX10_layer1 116 = .ok (.iadd, 1) := by decide +kernel
theorem dX10_layer1_117 : decode cX10_layer1 117 = .ok (.istore_n 2, 1) := by decide +kernel
theorem dX10_layer1_118 : decode cX10_layer1 118 = .ok (.aload_n 0, 1) := by decide +kernel
theorem dX10_layer1_119 : decode cX10_layer1 119 = .ok (.invokevirtual 285, 3) := by decide +kernel
theorem dX10_layer1_122 : decode cX10_layer1 122 = .ok (.aload_n 0, 1) := by decide +kernel
theorem dX10_layer1_123 : decode cX10_layer1 123 = .ok (.aload_n 0, 1) := by decide +kernel
theorem dX10_layer1_124 : decode cX10_layer1 124 = .ok (.invokevirtual 294, 3) := by decide +kernel
theorem dX10_layer1_127 : decode cX10_layer1 127 = .ok (.iconst 1, 1) := by decide +kernel
theorem dX10_layer1_128 : decode cX10_layer1 128 = .ok (.invokevirtual 277, 3) := by decide +kernel
theorem dX10_layer1_131 : decode cX10_layer1 131 = .ok (.ifCond .ne 4, 3) := by decide +kernel
theorem dX10_layer1_135 : decode cX10_layer1 135 = .ok (.aload_n 0, 1) := by decide +kernel
theorem dX10_layer1_136 : decode cX10_layer1 136 = .ok (.getfield 86, 3) := by decide +kernel
theorem dX10_layer1_139 : decode cX10_layer1 139 = .ok (.iload_n 2, 1) := by decide +kernel
theorem dX10_layer1_140 : decode cX10_layer1 140 = .ok (.iconst 0, 1) := by decide +kernel
theorem dX10_layer1_141 : decode cX10_layer1 141 = .ok (.iadd, 1) := by decide +kernel
theorem dX10_layer1_142 : decode cX10_layer1 142 = .ok (.aload_n 0, 1) := by decide +kernel
theorem dX10_layer1_143 : decode cX10_layer1 143 = .ok (.invokevirtual 298, 3) := by decide +kernel
theorem dX10_layer1_146 : decode cX10_layer1 146 = .ok (.iastore, 1) := by decide +kernel
theorem dX10_layer1_147 : decode cX10_layer1 147 = .ok (.aload_n 0, 1) := by decide +kernel
theorem dX10_layer1_148 : decode cX10_layer1 148 = .ok (.invokevirtual 285, 3) := by decide +kernel
theorem dX10_layer1_151 : decode cX10_layer1 151 = .ok (.aload_n 0, 1) := by decide +kernel
theorem dX10_layer1_152 : decode cX10_layer1 152 = .ok (.getfield 86, 3) := by decide +kernel
theorem dX10_layer1_155 : decode cX10_layer1 155 = .ok (.iload_n 2, 1) := by decide +kernel
theorem dX10_layer1_156 : decode cX10_layer1 156 = .ok (.iconst 1, 1) := by decide +kernel
theorem dX10_layer1_157 : decode cX10_layer1 157 = .ok (.iadd, 1) := by decide +kernel
theorem dX10_layer1_158 : decode cX10_layer1 158 = .ok (.aload_n 0, 1) := by decide +kernel
theorem dX10_layer1_159 : decode cX10_layer1 159 = .ok (.iconst 1, 1) := by decide +kernel
theorem dX10_layer1_160 : decode cX10_layer1 160 = .ok (.bipush 99, 2) := by decide +kernel
theorem dX10_layer1_162 : decode cX10_layer1 162 = .ok (.invokevirtual 291, 3) := by decide +kernel
theorem dX10_layer1_165 : decode cX10_layer1 165 = .ok (.iastore, 1) := by decide +kernel
theorem dX10_layer1_166 : decode cX10_layer1 166 = .ok (.aload_n 0, 1) := by decide +kernel
theorem dX10_layer1_167 : decode cX10_layer1 167 = .ok (.getfield 274, 3) := by decide +kernel
theorem dX10_layer1_170 : decode cX10_layer1 170 = .ok (.ifCond .ne 18, 3) := by decide +kernel
theorem dX10_layer1_173 : decode cX10_layer1 173 = .ok (.aload_n 0, 1) := by decide +kernel
theorem dX10_layer1_174 : decode cX10_layer1 174 = .ok (.getfield 86, 3) := by decide +kernel
theorem dX10_layer1_177 : decode cX10_layer1 177 = .ok (.iload_n 2, 1) := by decide +kernel
theorem dX10_layer1_178 : decode cX10_layer1 178 = .ok (.iconst 2, 1) := by decide +kernel
theorem dX10_layer1_179 : decode cX10_layer1 179 = .ok (.iadd, 1) := by decide +kernel
theorem dX10_layer1_180 : decode cX10_layer1 180 = .ok (.aload_n 0, 1) := by decide +kernel
theorem dX10_layer1_181 : decode cX10_layer1 181 = .ok (.iconst 0, 1) := by decide +kernel
theorem dX10_layer1_182 : decode cX10_layer1 182 = .ok (.bipush 99, 2) := by decide +kernel
theorem dX10_layer1_184 : decode cX10_layer1 184 = .ok (.invokevirtual 291, 3) := by decide +kernel
theorem dX10_layer1_187 : decode cX10_layer1 187 = .ok (.iastore, 1) := by decide +kernel
theorem dX10_layer1_188 : decode cX10_layer1 188 = .ok (.aload_n 0, 1) := by decide +kernel
theorem dX10_layer1_189 : decode cX10_layer1 189 = .ok (.getfield 274, 3) := by decide +kernel
theorem dX10_layer1_192 : decode cX10_layer1 192 = .ok (.ifCond .ne 80, 3) := by decide +kernel
theorem dX10_layer1_195 : decode cX10_layer1 195 = .ok (.aload_n 0, 1) := by decide +kernel
theorem dX10_layer1_196 : decode cX10_layer1 196 = .ok (.aload_n 0, 1) := by decide +kernel
theorem dX10_layer1_197 : decode cX10_layer1 197 = .ok (.getfield 263, 3) := by decide +kernel
theorem dX10_layer1_200 : decode cX10_layer1 200 = .ok (.iconst 2, 1) := by decide +kernel
theorem dX10_layer1_201 : decode cX10_layer1 201 = .ok (.if_icmp .ne 7, 3) := by decide +kernel
theorem dX10_layer1_208 : decode cX10_layer1 208 = .ok (.iconst 0, 1) := by decide +kernel
theorem dX10_layer1_209 : decode cX10_layer1 209 = .ok (.iconst 1, 1) := by decide +kernel
theorem dX10_layer1_210 : decode cX10_layer1 210 = .ok (.invokevirtual 277, 3) := by decide +kernel
theorem dX10_layer1_213 : decode cX10_layer1 213 = .ok (.ifCond .eq 59, 3) := by decide +kernel
theorem dX10_layer1_272 : decode cX10_layer1 272 = .ok (.return_, 1) := by decide +kernel
theorem dX10_layer1_204 : decode cX10_layer1 204 = .ok (.iconst 1, 1) := by decide +kernel
theorem dX10_layer1_205 : decode cX10_layer1 205 = .ok (.goto 4, 3) := by decide +kernel
theorem dX10_layer1_216 : decode cX10_layer1 216 = .ok (.aload_n 0, 1) := by decide +kernel
theorem dX10_layer1_217 : decode cX10_layer1 217 = .ok (.aload_n 0, 1) := by decide +kernel
theorem dX10_layer1_218 : decode cX10_layer1 218 = .ok (.getfield 260, 3) := by decide +kernel
theorem dX10_layer1_221 : decode cX10_layer1 221 = .ok (.iconst 1, 1) := by decide +kernel
theorem dX10_layer1_222 : decode cX10_layer1 222 = .ok (.sipush 999, 3) := by decide +kernel
theorem dX10_layer1_225 : decode cX10_layer1 225 = .ok (.invokestatic 281, 3) := by decide +kernel
theorem dX10_layer1_228 : decode cX10_layer1 228 = .ok (.iconst 2, 1) := by decide +kernel
theorem dX10_layer1_229 : decode cX10_layer1 229 = .ok (.invokevirtual 277, 3) := by decide +kernel
theorem dX10_layer1_232 : decode cX10_layer1 232 = .ok (.ifCond .eq 40, 3) := by decide +kernel
theorem dX10_layer1_235 : decode cX10_layer1 235 = .ok (.aload_n 0, 1) := by decide +kernel
theorem dX10_layer1_236 : decode cX10_layer1 236 = .ok (.aload_n 0, 1) := by decide +kernel
theorem dX10_layer1_237 : decode cX10_layer1 237 = .ok (.getfield 260, 3) := by decide +kernel
theorem dX10_layer1_240 : decode cX10_layer1 240 = .ok (.aload_n 0, 1) := by decide +kernel
theorem dX10_layer1_241 : decode cX10_layer1 241 = .ok (.getfield 86, 3) := by decide +kernel
theorem dX10_layer1_244 : decode cX10_layer1 244 = .ok (.iload_n 2, 1) := by decide +kernel
theorem dX10_layer1_245 : decode cX10_layer1 245 = .ok (.iconst 1, 1) := by decide +kernel
theorem dX10_layer1_246 : decode cX10_layer1 246 = .ok (.iadd, 1) := by decide +kernel
theorem dX10_layer1_247 : decode cX10_layer1 247 = .ok (.iaload, 1) := by decide +kernel
theorem dX10_layer1_248 : decode cX10_layer1 248 = .ok (.aload_n 0, 1) := by decide +kernel
theorem dX10_layer1_249 : decode cX10_layer1 249 = .ok (.getfield 86, 3) := by decide +kernel
theorem dX10_layer1_252 : decode cX10_layer1 252 = .ok (.iload_n 2, 1) := by decide +kernel
theorem dX10_layer1_253 : decode cX10_layer1 253 = .ok (.iconst 2, 1) := by decide +kernel
theorem dX10_layer1_254 : decode cX10_layer1 254 = .ok (.iadd, 1) := by decide +kernel
theorem dX10_layer1_255 : decode cX10_layer1 255 = .ok (.iaload, 1) := by decide +kernel
theorem dX10_layer1_256 : decode cX10_layer1 256 = .ok (.iadd, 1) := by decide +kernel
theorem dX10_layer1_257 : decode cX10_layer1 257 = .ok (.if_icmp .lt 7, 3) := by decide +kernel
theorem dX10_layer1_264 : decode cX10_layer1 264 = .ok (.iconst 0, 1) := by decide +kernel
theorem dX10_layer1_265 : decode cX10_layer1 265 = .ok (.iconst 5, 1) := by decide +kernel
theorem dX10_layer1_266 : decode cX10_layer1 266 = .ok (.invokevirtual 277, 3) := by decide +kernel
theorem dX10_layer1_269 : decode cX10_layer1 269 = .ok (.ifCond .ne 4, 3) := by decide +kernel
theorem dX10_layer1_260 : decode cX10_layer1 260 = .ok (.iconst 1, 1) := by decide +kernel
theorem dX10_layer1_261 : decode cX10_layer1 261 = .ok (.goto 4, 3) := by decide +kernel
theorem dX10_layer1_273 : decode cX10_layer1 273 = .ok (.aload_n 0, 1) := by decide +kernel
theorem dX10_layer1_274 : decode cX10_layer1 274 = .ok (.getfield 86, 3) := by decide +kernel
theorem dX10_layer1_277 : decode cX10_layer1 277 = .ok (.iload_n 2, 1) := by decide +kernel
theorem dX10_layer1_278 : decode cX10_layer1 278 = .ok (.iconst 3, 1) := by decide +kernel
theorem dX10_layer1_279 : decode cX10_layer1 279 = .ok (.iadd, 1) := by decide +kernel
theorem dX10_layer1_280 : decode cX10_layer1 280 = .ok (.aload_n 0, 1) := by decide +kernel
theorem dX10_layer1_281 : decode cX10_layer1 281 = .ok (.getfield 260, 3) := by decide +kernel
theorem dX10_layer1_284 : decode cX10_layer1 284 = .ok (.iastore, 1) := by decide +kernel
theorem dX10_layer1_285 : decode cX10_layer1 285 = .ok (.aload_n 0, 1) := by decide +kernel
theorem dX10_layer1_286 : decode cX10_layer1 286 = .ok (.invokevirtual 285, 3) := by decide +kernel
theorem dX10_layer1_289 : decode cX10_layer1 289 = .ok (.aload_n 0, 1) := by decide +kernel
theorem dX10_layer1_290 : decode cX10_layer1 290 = .ok (.getfield 86, 3) := by decide +kernel
theorem dX10_layer1_293 : decode cX10_layer1 293 = .ok (.iload_n 2, 1) := by decide +kernel
theorem dX10_layer1_294 : decode cX10_layer1 294 = .ok (.iconst 4, 1) := by decide +kernel
theorem dX10_layer1_295 : decode cX10_layer1 295 = .ok (.iadd, 1) := by decide +kernel
theorem dX10_layer1_296 : decode cX10_layer1 296 = .ok (.aload_n 0, 1) := by decide +kernel
theorem dX10_layer1_297 : decode cX10_layer1 297 = .ok (.iconst 0, 1) := by decide +kernel
theorem dX10_layer1_298 : decode cX10_layer1 298 = .ok (.sipush 300, 3) := by decide +kernel
theorem dX10_layer1_301 : decode cX10_layer1 301 = .ok (.invokevirtual 291, 3) := by decide +kernel
theorem dX10_layer1_304 : decode cX10_layer1 304 = .ok (.ineg, 1) := by decide +kernel
theorem dX10_layer1_305 : decode cX10_layer1 305 = .ok (.iastore, 1) := by decide +kernel
theorem dX10_layer1_306 : decode cX10_layer1 306 = .ok (.aload_n 0, 1) := by decide +kernel
theorem dX10_layer1_307 : decode cX10_layer1 307 = .ok (.getfield 86, 3) := by decide +kernel
theorem dX10_layer1_310 : decode cX10_layer1 310 = .ok (.iload_n 2, 1) := by decide +kernel
theorem dX10_layer1_311 : decode cX10_layer1 311 = .ok (.iconst 5, 1) := by decide +kernel
theorem dX10_layer1_312 : decode cX10_layer1 312 = .ok (.iadd, 1) := by decide +kernel
theorem dX10_layer1_313 : decode cX10_layer1 313 = .ok (.iconst 0, 1) := by decide +kernel
theorem dX10_layer1_314 : decode cX10_layer1 314 = .ok (.iastore, 1) := by decide +kernel
theorem dX10_layer1_315 : decode cX10_layer1 315 = .ok (.aload_n 0, 1) := by decide +kernel
theorem dX10_layer1_316 : decode cX10_layer1 316 = .ok (.getfield 86, 3) := by decide +kernel
theorem dX10_layer1_319 : decode cX10_layer1 319 = .ok (.iload_n 2, 1) := by decide +kernel
theorem dX10_layer1_320 : decode cX10_layer1 320 = .ok (.bipush 6, 2) := by decide +kernel
theorem dX10_layer1_322 : decode cX10_layer1 322 = .ok (.iadd, 1) := by decide +kernel
theorem dX10_layer1_323 : decode cX10_layer1 323 = .ok (.aload_n 0, 1) := by decide +kernel
theorem dX10_layer1_324 : decode cX10_layer1 324 = .ok (.getfield 302, 3) := by decide +kernel
theorem dX10_layer1_327 : decode cX10_layer1 327 = .ok (.iastore, 1) := by decide +kernel
theorem dX10_layer1_328 : decode cX10_layer1 328 = .ok (.aload_n 0, 1) := by decide +kernel
theorem dX10_layer1_329 : decode cX10_layer1 329 = .ok (.getfield 71, 3) := by decide +kernel
theorem dX10_layer1_332 : decode cX10_layer1 332 = .ok (.iload_n 1, 1) := by decide +kernel
theorem dX10_layer1_333 : decode cX10_layer1 333 = .ok (.dup2, 1) := by decide +kernel
theorem dX10_layer1_334 : decode cX10_layer1 334 = .ok (.iaload, 1) := by decide +kernel
theorem dX10_layer1_335 : decode cX10_layer1 335 = .ok (.iconst 1, 1) := by decide +kernel
theorem dX10_layer1_336 : decode cX10_layer1 336 = .ok (.iadd, 1) := by decide +kernel
theorem dX10_layer1_337 : decode cX10_layer1 337 = .ok (.iastore, 1) := by decide +kernel
theorem dX10_layer1_338 : decode cX10_layer1 338 = .ok (.aload_n 0, 1) := by decide +kernel
theorem dX10_layer1_339 : decode cX10_layer1 339 = .ok (.dup, 1) := by decide +kernel
theorem dX10_layer1_340 : decode cX10_layer1 340 = .ok (.getfield 302, 3) := by decide +kernel
theorem dX10_layer1_343 : decode cX10_layer1 343 = .ok (.iconst 1, 1) := by decide +kernel
theorem dX10_layer1_344 : decode cX10_layer1 344 = .ok (.iadd, 1) := by decide +kernel
theorem dX10_layer1_345 : decode cX10_layer1 345 = .ok (.putfield 302, 3) := by decide +kernel
theorem dX10_layer1_348 : decode cX10_layer1 348 = .ok (.return_, 1) := by decide +kernel
theorem dX10_layer1_134 : decode cX10_layer1 134 = .ok (.return_, 1) := by decide +kernel
theorem dX10_hour1_0 : decode cX10_hour1 0 = .ok (.aload_n 0, 1) := by decide +kernel
theorem dX10_hour1_1 : decode cX10_hour1 1 = .ok (.aload_n 0, 1) := by decide +kernel
theorem dX10_hour1_2 : decode cX10_hour1 2 = .ok (.getfield 305, 3) := by decide +kernel
theorem dX10_hour1_5 : decode cX10_hour1 5 = .ok (.bipush 24, 2) := by decide +kernel
theorem dX10_hour1_7 : decode cX10_hour1 7 = .ok (.if_icmp .ge 7, 3) := by decide +kernel
theorem dX10_hour1_14 : decode cX10_hour1 14 = .ok (.iconst 0, 1) := by decide +kernel
theorem dX10_hour1_15 : decode cX10_hour1 15 = .ok (.iconst 2, 1) := by decide +kernel
theorem dX10_hour1_16 : decode cX10_hour1 16 = .ok (.invokevirtual 277, 3) := by decide +kernel
theorem dX10_hour1_19 : decode cX10_hour1 19 = .ok (.ifCond .ne 4, 3) := by decide +kernel
theorem dX10_hour1_22 : decode cX10_hour1 22 = .ok (.return_, 1) := by decide +kernel
theorem dX10_hour1_10 : decode cX10_hour1 10 = .ok (.iconst 1, 1) := by decide +kernel
theorem dX10_hour1_11 : decode cX10_hour1 11 = .ok (.goto 4, 3) := by decide +kernel
theorem dX10_hour1_23 : decode cX10_hour1 23 = .ok (.aload_n 0, 1) := by decide +kernel
theorem dX10_hour1_24 : decode cX10_hour1 24 = .ok (.invokevirtual 285, 3) := by decide +kernel
theorem dX10_hour1_27 : decode cX10_hour1 27 = .ok (.aload_n 0, 1) := by decide +kernel
theorem dX10_hour1_28 : decode cX10_hour1 28 = .ok (.getfield 263, 3) := by decide +kernel
theorem dX10_hour1_31 : decode cX10_hour1 31 = .ok (.iconst 3, 1) := by decide +kernel
theorem dX10_hour1_32 : decode cX10_hour1 32 = .ok (.if_icmp .ne 16, 3) := by decide +kernel
theorem dX10_hour1_48 : decode cX10_hour1 48 = .ok (.iconst 0, 1) := by decide +kernel
theorem dX10_hour1_49 : decode cX10_hour1 49 = .ok (.istore_n 1, 1) := by decide +kernel
theorem dX10_hour1_50 : decode cX10_hour1 50 = .ok (.iload_n 1, 1) := by decide +kernel
theorem dX10_hour1_51 : decode cX10_hour1 51 = .ok (.ifCond .eq 7, 3) := by decide +kernel
theorem dX10_hour1_58 : decode cX10_hour1 58 = .ok (.aload_n 0, 1) := by decide +kernel
theorem dX10_hour1_59 : decode cX10_hour1 59 = .ok (.iconst 0, 1) := by decide +kernel
theorem dX10_hour1_60 : decode cX10_hour1 60 = .ok (.iload_n 1, 1) := by decide +kernel
theorem dX10_hour1_61 : decode cX10_hour1 61 = .ok (.ifCond .eq 9, 3) := by decide +kernel
theorem dX10_hour1_70 : decode cX10_hour1 70 = .ok (.bipush 100, 2) := by decide +kernel
theorem dX10_hour1_72 : decode cX10_hour1 72 = .ok (.invokevirtual 291, 3) := by decide +kernel
theorem dX10_hour1_75 : decode cX10_hour1 75 = .ok (.istore_n 2, 1) := by decide +kernel
theorem dX10_hour1_76 : decode cX10_hour1 76 = .ok (.aload_n 0, 1) := by decide +kernel
theorem dX10_hour1_77 : decode cX10_hour1 77 = .ok (.getfield 274, 3) := by decide +kernel
theorem dX10_hour1_80 : decode cX10_hour1 80 = .ok (.ifCond .eq 4, 3) := by decide +kernel
theorem dX10_hour1_84 : decode cX10_hour1 84 = .ok (.aload_n 0, 1) := by decide +kernel
theorem dX10_hour1_85 : decode cX10_hour1 85 = .ok (.getfield 74, 3) := by decide +kernel
theorem dX10_hour1_88 : decode cX10_hour1 88 = .ok (.aload_n 0, 1) := by decide +kernel
theorem dX10_hour1_89 : decode cX10_hour1 89 = .ok (.getfield 305, 3) := by decide +kernel
theorem dX10_hour1_92 : decode cX10_hour1 92 = .ok (.iload_n 1, 1) := by decide +kernel
theorem dX10_hour1_93 : decode cX10_hour1 93 = .ok (.ifCond .eq 8, 3) := by decide +kernel
theorem dX10_hour1_101 : decode cX10_hour1 101 = .ok (.iload_n 2, 1) := by decide +kernel
theorem dX10_hour1_102 : decode cX10_hour1 102 = .ok (.iastore, 1) := by decide +kernel
theorem dX10_hour1_103 : decode cX10_hour1 103 = .ok (.aload_n 0, 1) := by decide +kernel
theorem dX10_hour1_104 : decode cX10_hour1 104 = .ok (.getfield 77, 3) := by decide +kernel
theorem dX10_hour1_107 : decode cX10_hour1 107 = .ok (.aload_n 0, 1) := by decide +kernel
theorem dX10_hour1_108 : decode cX10_hour1 108 = .ok (.getfield 305, 3) := by decide +kernel
theorem dX10_hour1_111 : decode cX10_hour1 111 = .ok (.iconst 0, 1) := by decide +kernel
theorem dX10_hour1_112 : decode cX10_hour1 112 = .ok (.iastore, 1) := by decide +kernel
theorem dX10_hour1_113 : decode cX10_hour1 113 = .ok (.aload_n 0, 1) := by decide +kernel
theorem dX10_hour1_114 : decode cX10_hour1 114 = .ok (.getfield 80, 3) := by decide +kernel
theorem dX10_hour1_117 : decode cX10_hour1 117 = .ok (.aload_n 0, 1) := by decide +kernel
theorem dX10_hour1_118 : decode cX10_hour1 118 = .ok (.getfield 305, 3) := by decide +kernel
theorem dX10_hour1_121 : decode cX10_hour1 121 = .ok (.iconst 0, 1) := by decide +kernel
theorem dX10_hour1_122 : decode cX10_hour1 122 = .ok (.iastore, 1) := by decide +kernel
theorem dX10_hour1_123 : decode cX10_hour1 123 = .ok (.aload_n 0, 1) := by decide +kernel
theorem dX10_hour1_124 : decode cX10_hour1 124 = .ok (.iconst 3, 1) := by decide +kernel
theorem dX10_hour1_125 : decode cX10_hour1 125 = .ok (.invokevirtual 308, 3) := by decide +kernel
theorem dX10_hour1_128 : decode cX10_hour1 128 = .ok (.ifCond .ne 19, 3) := by decide +kernel
theorem dX10_hour1_147 : decode cX10_hour1 147 = .ok (.aload_n 0, 1) := by decide +kernel
theorem dX10_hour1_148 : decode cX10_hour1 148 = .ok (.getfield 77, 3) := by decide +kernel
theorem dX10_hour1_151 : decode cX10_hour1 151 = .ok (.aload_n 0, 1) := by decide +kernel
theorem dX10_hour1_152 : decode cX10_hour1 152 = .ok (.getfield 305, 3) := by decide +kernel
theorem dX10_hour1_155 : decode cX10_hour1 155 = .ok (.aload_n 0, 1) := by decide +kernel
theorem dX10_hour1_156 : decode cX10_hour1 156 = .ok (.getfield 257, 3) := by decide +kernel
theorem dX10_hour1_159 : decode cX10_hour1 159 = .ok (.iconst 3, 1) := by decide +kernel
theorem dX10_hour1_160 : decode cX10_hour1 160 = .ok (.isub, 1) := by decide +kernel
theorem dX10_hour1_161 : decode cX10_hour1 161 = .ok (.iconst 1, 1) := by decide +kernel
theorem dX10_hour1_162 : decode cX10_hour1 162 = .ok (.iadd, 1) := by decide +kernel
theorem dX10_hour1_163 : decode cX10_hour1 163 = .ok (.iastore, 1) := by decide +kernel
theorem dX10_hour1_164 : decode cX10_hour1 164 = .ok (.aload_n 0, 1) := by decide +kernel
theorem dX10_hour1_165 : decode cX10_hour1 165 = .ok (.invokevirtual 285, 3) := by decide +kernel
theorem dX10_hour1_168 : decode cX10_hour1 168 = .ok (.aload_n 0, 1) := by decide +kernel
theorem dX10_hour1_169 : decode cX10_hour1 169 = .ok (.getfield 77, 3) := by decide +kernel
theorem dX10_hour1_172 : decode cX10_hour1 172 = .ok (.aload_n 0, 1) := by decide +kernel
theorem dX10_hour1_173 : decode cX10_hour1 173 = .ok (.getfield 305, 3) := by decide +kernel
theorem dX10_hour1_176 : decode cX10_hour1 176 = .ok (.iaload, 1) := by decide +kernel
theorem dX10_hour1_177 : decode cX10_hour1 177 = .ok (.iconst 3, 1) := by decide +kernel
theorem dX10_hour1_178 : decode cX10_hour1 178 = .ok (.if_icmp .ge 19, 3) := by decide +kernel
theorem dX10_hour1_197 : decode cX10_hour1 197 = .ok (.aload_n 0, 1) := by decide +kernel
theorem dX10_hour1_198 : decode cX10_hour1 198 = .ok (.dup, 1) := by decide +kernel
theorem dX10_hour1_199 : decode cX10_hour1 199 = .ok (.getfield 305, 3) := by decide +kernel
theorem dX10_hour1_202 : decode cX10_hour1 202 = .ok (.iconst 1, 1) := by decide +kernel
theorem dX10_hour1_203 : decode cX10_hour1 203 = .ok (.iadd, 1) := by decide +kernel
theorem dX10_hour1_204 : decode cX10_hour1 204 = .ok (.putfield 305, 3) := by decide +kernel
theorem dX10_hour1_207 : decode cX10_hour1 207 = .ok (.return_, 1) := by decide +kernel
theorem dX10_hour1_181 : decode cX10_hour1 181 = .ok (.aload_n 0, 1) := by decide +kernel
theorem dX10_hour1_182 : decode cX10_hour1 182 = .ok (.getfield 80, 3) := by decide +kernel
theorem dX10_hour1_185 : decode cX10_hour1 185 = .ok (.aload_n 0, 1) := by decide +kernel
theorem dX10_hour1_186 : decode cX10_hour1 186 = .ok (.getfield 305, 3) := by decide +kernel
theorem dX10_hour1_189 : decode cX10_hour1 189 = .ok (.aload_n 0, 1) := by decide +kernel
theorem dX10_hour1_190 : decode cX10_hour1 190 = .ok (.iconst 1, 1) := by decide +kernel
theorem dX10_hour1_191 : decode cX10_hour1 191 = .ok (.bipush 50, 2) := by decide +kernel
theorem dX10_hour1_193 : decode cX10_hour1 193 = .ok (.invokevirtual 291, 3) := by decide +kernel
theorem dX10_hour1_196 : decode cX10_hour1 196 = .ok (.iastore, 1) := by decide +kernel
theorem dX10_hour1_131 : decode cX10_hour1 131 = .ok (.aload_n 0, 1) := by decide +kernel
theorem dX10_hour1_132 : decode cX10_hour1 132 = .ok (.iconst 4, 1) := by decide +kernel
theorem dX10_hour1_133 : decode cX10_hour1 133 = .ok (.invokevirtual 308, 3) := by decide +kernel
theorem dX10_hour1_136 : decode cX10_hour1 136 = .ok (.ifCond .ne 11, 3) := by decide +kernel
theorem dX10_hour1_139 : decode cX10_hour1 139 = .ok (.aload_n 0, 1) := by decide +kernel
theorem dX10_hour1_140 : decode cX10_hour1 140 = .ok (.iconst 5, 1) := by decide +kernel
theorem dX10_hour1_141 : decode cX10_hour1 141 = .ok (.invokevirtual 308, 3) := by decide +kernel
theorem dX10_hour1_144 : decode cX10_hour1 144 = .ok (.ifCond .eq 53, 3) := by decide +kernel
theorem dX10_hour1_83 : decode cX10_hour1 83 = .ok (.return_, 1) := by decide +kernel
theorem dX10_hour1_35 : decode cX10_hour1 35 = .ok (.aload_n 0, 1) := by decide +kernel
theorem dX10_hour1_36 : decode cX10_hour1 36 = .ok (.getfield 260, 3) := by decide +kernel
theorem dX10_hour1_39 : decode cX10_hour1 39 = .ok (.bipush 45, 2) := by decide +kernel
theorem dX10_hour1_41 : decode cX10_hour1 41 = .ok (.if_icmp .ne 7, 3) := by decide +kernel
theorem dX10_hour1_44 : decode cX10_hour1 44 = .ok (.iconst 1, 1) := by decide +kernel
theorem dX10_hour1_45 : decode cX10_hour1 45 = .ok (.goto 4, 3) := by decide +kernel
theorem dX10_hour1_54 : decode cX10_hour1 54 = .ok (.aload_n 0, 1) := by decide +kernel
theorem dX10_hour1_55 : decode cX10_hour1 55 = .ok (.invokevirtual 285, 3) := by decide +kernel
theorem dX10_hour1_64 : decode cX10_hour1 64 = .ok (.sipush 300, 3) := by decide +kernel
theorem dX10_hour1_67 : decode cX10_hour1 67 = .ok (.goto 5, 3) := by decide +kernel
theorem dX10_hour1_96 : decode cX10_hour1 96 = .ok (.iload_n 2, 1) := by decide +kernel
theorem dX10_hour1_97 : decode cX10_hour1 97 = .ok (.ineg, 1) := by decide +kernel
theorem dX10_hour1_98 : decode cX10_hour1 98 = .ok (.goto 4, 3) := by decide +kernel
theorem dX10_table1_0 : decode cX10_table1 0 = .ok (.aload_n 0, 1) := by decide +kernel
theorem dX10_table1_1 : decode cX10_table1 1 = .ok (.getfield 257, 3) := by decide +kernel
theorem dX10_table1_4 : decode cX10_table1 4 = .ok (.bipush 6, 2) := by decide +kernel
theorem dX10_table1_6 : decode cX10_table1 6 = .ok (.isub, 1) := by decide +kernel
theorem dX10_table1_7 : decode cX10_table1 7 = .ok (.istore_n 1, 1) := by decide +kernel
theorem dX10_table1_8 : decode cX10_table1 8 = .ok (.aload_n 0, 1) := by decide +kernel
theorem dX10_table1_9 : decode cX10_table1 9 = .ok (.invokevirtual 285, 3) := by decide +kernel
theorem dX10_table1_12 : decode cX10_table1 12 = .ok (.aload_n 0, 1) := by decide +kernel
theorem dX10_table1_13 : decode cX10_table1 13 = .ok (.aload_n 0, 1) := by decide +kernel
theorem dX10_table1_14 : decode cX10_table1 14 = .ok (.invokevirtual 294, 3) := by decide +kernel
theorem dX10_table1_17 : decode cX10_table1 17 = .ok (.iconst 1, 1) := by decide +kernel
theorem dX10_table1_18 : decode cX10_table1 18 = .ok (.invokevirtual 277, 3) := by decide +kernel
theorem dX10_table1_21 : decode cX10_table1 21 = .ok (.ifCond .ne 4, 3) := by decide +kernel
theorem dX10_table1_25 : decode cX10_table1 25 = .ok (.iconst 5, 1) := by decide +kernel
theorem dX10_table1_26 : decode cX10_table1 26 = .ok (.iload_n 1, 1) := by decide +kernel
theorem dX10_table1_27 : decode cX10_table1 27 = .ok (.imul, 1) := by decide +kernel
theorem dX10_table1_28 : decode cX10_table1 28 = .ok (.aload_n 0, 1) := by decide +kernel
theorem dX10_table1_29 : decode cX10_table1 29 = .ok (.invokevirtual 298, 3) := by decide +kernel
theorem dX10_table1_32 : decode cX10_table1 32 = .ok (.iadd, 1) := by decide +kernel
theorem dX10_table1_33 : decode cX10_table1 33 = .ok (.istore_n 2, 1) := by decide +kernel
theorem dX10_table1_34 : decode cX10_table1 34 = .ok (.aload_n 0, 1) := by decide +kernel
theorem dX10_table1_35 : decode cX10_table1 35 = .ok (.aload_n 0, 1) := by decide +kernel
theorem dX10_table1_36 : decode cX10_table1 36 = .ok (.getfield 83, 3) := by decide +kernel
theorem dX10_table1_39 : decode cX10_table1 39 = .ok (.iload_n 2, 1) := by decide +kernel
theorem dX10_table1_40 : decode cX10_table1 40 = .ok (.iaload, 1) := by decide +kernel
theorem dX10_table1_41 : decode cX10_table1 41 = .ok (.iconst (-1), 1) := by decide +kernel
theorem dX10_table1_42 : decode cX10_table1 42 = .ok (.if_icmp .ne 7, 3) := by decide +kernel
theorem dX10_table1_49 : decode cX10_table1 49 = .ok (.iconst 0, 1) := by decide +kernel
theorem dX10_table1_50 : decode cX10_table1 50 = .ok (.iconst 4, 1) := by decide +kernel
theorem dX10_table1_51 : decode cX10_table1 51 = .ok (.invokevirtual 277, 3) := by decide +kernel
theorem dX10_table1_54 : decode cX10_table1 54 = .ok (.ifCond .ne 4, 3) := by decide +kernel
theorem dX10_table1_57 : decode cX10_table1 57 = .ok (.return_, 1) := by decide +kernel
theorem dX10_table1_45 : decode cX10_table1 45 = .ok (.iconst 1, 1) := by decide +kernel
theorem dX10_table1_46 : decode cX10_table1 46 = .ok (.goto 4, 3) := by decide +kernel
theorem dX10_table1_58 : decode cX10_table1 58 = .ok (.aload_n 0, 1) := by decide +kernel
theorem dX10_table1_59 : decode cX10_table1 59 = .ok (.invokevirtual 285, 3) := by decide +kernel
theorem dX10_table1_62 : decode cX10_table1 62 = .ok (.aload_n 0, 1) := by decide +kernel
theorem dX10_table1_63 : decode cX10_table1 63 = .ok (.getfield 83, 3) := by decide +kernel
theorem dX10_table1_66 : decode cX10_table1 66 = .ok (.iload_n 2, 1) := by decide +kernel
theorem dX10_table1_67 : decode cX10_table1 67 = .ok (.aload_n 0, 1) := by decide +kernel
theorem dX10_table1_68 : decode cX10_table1 68 = .ok (.iload_n 1, 1) := by decide +kernel
theorem dX10_table1_69 : decode cX10_table1 69 = .ok (.iconst 2, 1) := by decide +kernel
theorem dX10_table1_70 : decode cX10_table1 70 = .ok (.if_icmp .ne 7, 3) := by decide +kernel
theorem dX10_table1_77 : decode cX10_table1 77 = .ok (.iconst 0, 1) := by decide +kernel
theorem dX10_table1_78 : decode cX10_table1 78 = .ok (.iload_n 1, 1) := by decide +kernel
theorem dX10_table1_79 : decode cX10_table1 79 = .ok (.iconst 2, 1) := by decide +kernel
theorem dX10_table1_80 : decode cX10_table1 80 = .ok (.if_icmp .ne 9, 3) := by decide +kernel
theorem dX10_table1_89 : decode cX10_table1 89 = .ok (.bipush 99, 2) := by decide +kernel
theorem dX10_table1_91 : decode cX10_table1 91 = .ok (.invokevirtual 291, 3) := by decide +kernel
theorem dX10_table1_94 : decode cX10_table1 94 = .ok (.iastore, 1) := by decide +kernel
theorem dX10_table1_95 : decode cX10_table1 95 = .ok (.return_, 1) := by decide +kernel
theorem dX10_table1_83 : decode cX10_table1 83 = .ok (.sipush 9999, 3) := by decide +kernel
theorem dX10_table1_86 : decode cX10_table1 86 = .ok (.goto 5, 3) := by decide +kernel
theorem dX10_table1_73 : decode cX10_table1 73 = .ok (.iconst 1, 1) := by decide +kernel
theorem dX10_table1_74 : decode cX10_table1 74 = .ok (.goto 4, 3) := by decide +kernel
theorem dX10_table1_24 : decode cX10_table1 24 = .ok (.return_, 1) := by decide +kernel
theorem dX10_clause1_0 : decode cX10_clause1 0 = .ok (.aload_n 0, 1) := by decide +kernel
theorem dX10_clause1_1 : decode cX10_clause1 1 = .ok (.getfield 263, 3) := by decide +kernel
theorem dX10_clause1_4 : decode cX10_clause1 4 = .ok (.iconst 1, 1) := by decide +kernel
theorem dX10_clause1_5 : decode cX10_clause1 5 = .ok (.if_icmp .ne 10, 3) := by decide +kernel
theorem dX10_clause1_15 : decode cX10_clause1 15 = .ok (.iconst (-1), 1) := by decide +kernel
theorem dX10_clause1_16 : decode cX10_clause1 16 = .ok (.istore_n 1, 1) := by decide +kernel
theorem dX10_clause1_17 : decode cX10_clause1 17 = .ok (.iload_n 1, 1) := by decide +kernel
theorem dX10_clause1_18 : decode cX10_clause1 18 = .ok (.ifCond .ne 10, 3) := by decide +kernel
theorem dX10_clause1_28 : decode cX10_clause1 28 = .ok (.iload_n 1, 1) := by decide +kernel
theorem dX10_clause1_29 : decode cX10_clause1 29 = .ok (.iconst 1, 1) := by decide +kernel
theorem dX10_clause1_30 : decode cX10_clause1 30 = .ok (.if_icmp .ne 10, 3) := by decide +kernel
theorem dX10_clause1_40 : decode cX10_clause1 40 = .ok (.iload_n 1, 1) := by decide +kernel
theorem dX10_clause1_41 : decode cX10_clause1 41 = .ok (.iconst 2, 1) := by decide +kernel
theorem dX10_clause1_42 : decode cX10_clause1 42 = .ok (.if_icmp .ne 10, 3) := by decide +kernel
theorem dX10_clause1_52 : decode cX10_clause1 52 = .ok (.iload_n 1, 1) := by decide +kernel
theorem dX10_clause1_53 : decode cX10_clause1 53 = .ok (.bipush 6, 2) := by decide +kernel
theorem dX10_clause1_55 : decode cX10_clause1 55 = .ok (.bipush 8, 2) := by decide +kernel
theorem dX10_clause1_57 : decode cX10_clause1 57 = .ok (.invokestatic 281, 3) := by decide +kernel
theorem dX10_clause1_60 : decode cX10_clause1 60 = .ok (.ifCond .eq 10, 3) := by decide +kernel
theorem dX10_clause1_70 : decode cX10_clause1 70 = .ok (.aload_n 0, 1) := by decide +kernel
theorem dX10_clause1_71 : decode cX10_clause1 71 = .ok (.iconst 0, 1) := by decide +kernel
theorem dX10_clause1_72 : decode cX10_clause1 72 = .ok (.iconst 1, 1) := by decide +kernel
theorem dX10_clause1_73 : decode cX10_clause1 73 = .ok (.invokevirtual 277, 3) := by decide +kernel
theorem dX10_clause1_76 : decode cX10_clause1 76 = .ok (.pop, 1) := by decide +kernel
theorem dX10_clause1_77 : decode cX10_clause1 77 = .ok (.return_, 1) := by decide +kernel
theorem dX10_clause1_63 : decode cX10_clause1 63 = .ok (.aload_n 0, 1) := by decide +kernel
theorem dX10_clause1_64 : decode cX10_clause1 64 = .ok (.invokevirtual 319, 3) := by decide +kernel
theorem dX10_clause1_67 : decode cX10_clause1 67 = .ok (.goto 10, 3) := by decide +kernel
theorem dX10_clause1_8 : decode cX10_clause1 8 = .ok (.aload_n 0, 1) := by decide +kernel
theorem dX10_clause1_9 : decode cX10_clause1 9 = .ok (.getfield 257, 3) := by decide +kernel
theorem dX10_clause1_12 : decode cX10_clause1 12 = .ok (.goto 4, 3) := by decide +kernel
theorem dX10_clause1_45 : decode cX10_clause1 45 = .ok (.aload_n 0, 1) := by decide +kernel
theorem dX10_clause1_46 : decode cX10_clause1 46 = .ok (.invokevirtual 316, 3) := by decide +kernel
theorem dX10_clause1_49 : decode cX10_clause1 49 = .ok (.goto 28, 3) := by decide +kernel
theorem dX10_clause1_33 : decode cX10_clause1 33 = .ok (.aload_n 0, 1) := by decide +kernel
theorem dX10_clause1_34 : decode cX10_clause1 34 = .ok (.invokevirtual 314, 3) := by decide +kernel
theorem dX10_clause1_37 : decode cX10_clause1 37 = .ok (.goto 40, 3) := by decide +kernel
theorem dX10_clause1_21 : decode cX10_clause1 21 = .ok (.aload_n 0, 1) := by decide +kernel
theorem dX10_clause1_22 : decode cX10_clause1 22 = .ok (.invokevirtual 311, 3) := by decide +kernel
theorem dX10_clause1_25 : decode cX10_clause1 25 = .ok (.goto 52, 3) := by decide +kernel
