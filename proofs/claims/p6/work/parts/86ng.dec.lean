-- decode rows of ylayer
theorem dX10_layer1_0 : decode cX10_layer1 0 = .ok (.aload_n 0, 1) := by decide +kernel
theorem dX10_layer1_1 : decode cX10_layer1 1 = .ok (.invokevirtual 285, 3) := by decide +kernel
theorem dX10_layer1_4 : decode cX10_layer1 4 = .ok (.aload_n 0, 1) := by decide +kernel
theorem dX10_layer1_5 : decode cX10_layer1 5 = .ok (.aload_n 0, 1) := by decide +kernel
theorem dX10_layer1_6 : decode cX10_layer1 6 = .ok (.getfield 263, 3) := by decide +kernel
theorem dX10_layer1_9 : decode cX10_layer1 9 = .ok (.iconst 2, 1) := by decide +kernel
theorem dX10_layer1_10 : decode cX10_layer1 10 = .ok (.if_icmp .ne 7, 3) := by decide +kernel
theorem dX10_layer1_17 : decode cX10_layer1 17 = .ok (.iconst 0, 1) := by decide +kernel
theorem dX10_layer1_18 : decode cX10_layer1 18 = .ok (.iconst 1, 1) := by decide +kernel
theorem dX10_layer1_19 : decode cX10_layer1 19 = .ok (.invokevirtual 277, 3) := by decide +kernel
theorem dX10_layer1_22 : decode cX10_layer1 22 = .ok (.ifCond .eq 75, 3) := by decide +kernel
theorem dX10_layer1_97 : decode cX10_layer1 97 = .ok (.return_, 1) := by decide +kernel
theorem dX10_layer1_13 : decode cX10_layer1 13 = .ok (.iconst 1, 1) := by decide +kernel
theorem dX10_layer1_14 : decode cX10_layer1 14 = .ok (.goto 4, 3) := by decide +kernel
theorem dX10_layer1_25 : decode cX10_layer1 25 = .ok (.aload_n 0, 1) := by decide +kernel
theorem dX10_layer1_26 : decode cX10_layer1 26 = .ok (.aload_n 0, 1) := by decide +kernel
theorem dX10_layer1_27 : decode cX10_layer1 27 = .ok (.getfield 260, 3) := by decide +kernel
theorem dX10_layer1_30 : decode cX10_layer1 30 = .ok (.iconst 4, 1) := by decide +kernel
theorem dX10_layer1_31 : decode cX10_layer1 31 = .ok (.if_icmp .ge 7, 3) := by decide +kernel
theorem dX10_layer1_38 : decode cX10_layer1 38 = .ok (.iconst 0, 1) := by decide +kernel
theorem dX10_layer1_39 : decode cX10_layer1 39 = .ok (.iconst 2, 1) := by decide +kernel
theorem dX10_layer1_40 : decode cX10_layer1 40 = .ok (.invokevirtual 277, 3) := by decide +kernel
theorem dX10_layer1_43 : decode cX10_layer1 43 = .ok (.ifCond .eq 54, 3) := by decide +kernel
theorem dX10_layer1_34 : decode cX10_layer1 34 = .ok (.iconst 1, 1) := by decide +kernel
theorem dX10_layer1_35 : decode cX10_layer1 35 = .ok (.goto 4, 3) := by decide +kernel
theorem dX10_layer1_46 : decode cX10_layer1 46 = .ok (.aload_n 0, 1) := by decide +kernel
theorem dX10_layer1_47 : decode cX10_layer1 47 = .ok (.aload_n 0, 1) := by decide +kernel
theorem dX10_layer1_48 : decode cX10_layer1 48 = .ok (.getfield 260, 3) := by decide +kernel
theorem dX10_layer1_51 : decode cX10_layer1 51 = .ok (.aload_n 0, 1) := by decide +kernel
theorem dX10_layer1_52 : decode cX10_layer1 52 = .ok (.getfield 288, 3) := by decide +kernel
theorem dX10_layer1_55 : decode cX10_layer1 55 = .ok (.if_icmp .ge 7, 3) := by decide +kernel
theorem dX10_layer1_62 : decode cX10_layer1 62 = .ok (.iconst 0, 1) := by decide +kernel
theorem dX10_layer1_63 : decode cX10_layer1 63 = .ok (.iconst 3, 1) := by decide +kernel
theorem dX10_layer1_64 : decode cX10_layer1 64 = .ok (.invokevirtual 277, 3) := by decide +kernel
theorem dX10_layer1_67 : decode cX10_layer1 67 = .ok (.ifCond .eq 30, 3) := by decide +kernel
theorem dX10_layer1_58 : decode cX10_layer1 58 = .ok (.iconst 1, 1) := by decide +kernel
theorem dX10_layer1_59 : decode cX10_layer1 59 = .ok (.goto 4, 3) := by decide +kernel
theorem dX10_layer1_70 : decode cX10_layer1 70 = .ok (.aload_n 0, 1) := by decide +kernel
theorem dX10_layer1_71 : decode cX10_layer1 71 = .ok (.aload_n 0, 1) := by decide +kernel
theorem dX10_layer1_72 : decode cX10_layer1 72 = .ok (.getfield 71, 3) := by decide +kernel
theorem dX10_layer1_75 : decode cX10_layer1 75 = .ok (.aload_n 0, 1) := by decide +kernel
theorem dX10_layer1_76 : decode cX10_layer1 76 = .ok (.getfield 260, 3) := by decide +kernel
theorem dX10_layer1_79 : decode cX10_layer1 79 = .ok (.iaload, 1) := by decide +kernel
theorem dX10_layer1_80 : decode cX10_layer1 80 = .ok (.bipush 12, 2) := by decide +kernel
theorem dX10_layer1_82 : decode cX10_layer1 82 = .ok (.if_icmp .ge 7, 3) := by decide +kernel
theorem dX10_layer1_89 : decode cX10_layer1 89 = .ok (.iconst 0, 1) := by decide +kernel
theorem dX10_layer1_90 : decode cX10_layer1 90 = .ok (.iconst 2, 1) := by decide +kernel
theorem dX10_layer1_91 : decode cX10_layer1 91 = .ok (.invokevirtual 277, 3) := by decide +kernel
theorem dX10_layer1_94 : decode cX10_layer1 94 = .ok (.ifCond .ne 4, 3) := by decide +kernel
theorem dX10_layer1_85 : decode cX10_layer1 85 = .ok (.iconst 1, 1) := by decide +kernel
theorem dX10_layer1_86 : decode cX10_layer1 86 = .ok (.goto 4, 3) := by decide +kernel
theorem dX10_layer1_98 : decode cX10_layer1 98 = .ok (.aload_n 0, 1) := by decide +kernel
theorem dX10_layer1_99 : decode cX10_layer1 99 = .ok (.getfield 260, 3) := by decide +kernel
theorem dX10_layer1_102 : decode cX10_layer1 102 = .ok (.istore_n 1, 1) := by decide +kernel
theorem dX10_layer1_103 : decode cX10_layer1 103 = .ok (.bipush 84, 2) := by decide +kernel
theorem dX10_layer1_105 : decode cX10_layer1 105 = .ok (.iload_n 1, 1) := by decide +kernel
theorem dX10_layer1_106 : decode cX10_layer1 106 = .ok (.imul, 1) := by decide +kernel
theorem dX10_layer1_107 : decode cX10_layer1 107 = .ok (.bipush 7, 2) := by decide +kernel
theorem dX10_layer1_109 : decode cX10_layer1 109 = .ok (.aload_n 0, 1) := by decide +kernel
theorem dX10_layer1_110 : decode cX10_layer1 110 = .ok (.getfield 71, 3) := by decide +kernel
theorem dX10_layer1_113 : decode cX10_layer1 113 = .ok (.iload_n 1, 1) := by decide +kernel
theorem dX10_layer1_114 : decode cX10_layer1 114 = .ok (.iaload, 1) := by decide +kernel
theorem dX10_layer1_115 : decode cX10_layer1 115 = .ok (.imul, 1) := by decide +kernel
theorem dX10_layer1_116 : decode cX10_layer1 116 = .ok (.iadd, 1) := by decide +kernel
theorem dX10_layer1_117 : decode cX10_layer1 117 = .ok (.istore_n 2, 1) := by decide +kernel
theorem dX10_layer1_118 : decode cX10_layer1 118 = .ok (.aload_n 0, 1) := by decide +kernel
theorem dX10_layer1_119 : decode cX10_layer1 119 = .ok (.invokevirtual 285, 3) := by decide +kernel
theorem dX10_layer1_122 : decode cX10_layer1 122 = .ok (.aload_n 0, 1) := by decide +kernel
theorem dX10_layer1_123 : decode cX10_layer1 123 = .ok (.aload_n 0, 1) := by decide +kernel
theorem dX10_layer1_124 : decode cX10_layer1 124 = .ok (.invokevirtual 294, 3) := by decide +kernel
theorem dX10_layer1_127 : decode cX10_layer1 127 = .ok (.iconst 1, 1) := by decide +kernel
theorem dX10_layer1_128 : decode cX10_layer1 128 = .ok (.invokevirtual 277, 3) := by decide +kernel
theorem dX10_layer1_131 : decode cX10_layer1 131 = .ok (.ifCond .ne 4, 3) := by decide +kernel
theorem dX10_layer1_135 : decode cX10_layer1 135 = .ok (.aload_n 0, 1) := by decide +kernel
theorem dX10_layer1_136 : decode cX10_layer1 136 = .ok (.getfield 86, 3) := by decide +kernel
theorem dX10_layer1_139 : decode cX10_layer1 139 = .ok (.iload_n 2, 1) := by decide +kernel
theorem dX10_layer1_140 : decode cX10_layer1 140 = .ok (.iconst 0, 1) := by decide +kernel
theorem dX10_layer1_141 : decode cX10_layer1 141 = .ok (.iadd, 1) := by decide +kernel
theorem dX10_layer1_142 : decode cX10_layer1 142 = .ok (.aload_n 0, 1) := by decide +kernel
theorem dX10_layer1_143 : decode cX10_layer1 143 = .ok (.invokevirtual 298, 3) := by decide +kernel
theorem dX10_layer1_146 : decode cX10_layer1 146 = .ok (.iastore, 1) := by decide +kernel
theorem dX10_layer1_147 : decode cX10_layer1 147 = .ok (.aload_n 0, 1) := by decide +kernel
theorem dX10_layer1_148 : decode cX10_layer1 148 = .ok (.invokevirtual 285, 3) := by decide +kernel
theorem dX10_layer1_151 : decode cX10_layer1 151 = .ok (.aload_n 0, 1) := by decide +kernel
theorem dX10_layer1_152 : decode cX10_layer1 152 = .ok (.getfield 86, 3) := by decide +kernel
theorem dX10_layer1_155 : decode cX10_layer1 155 = .ok (.iload_n 2, 1) := by decide +kernel
theorem dX10_layer1_156 : decode cX10_layer1 156 = .ok (.iconst 1, 1) := by decide +kernel
theorem dX10_layer1_157 : decode cX10_layer1 157 = .ok (.iadd, 1) := by decide +kernel
theorem dX10_layer1_158 : decode cX10_layer1 158 = .ok (.aload_n 0, 1) := by decide +kernel
theorem dX10_layer1_159 : decode cX10_layer1 159 = .ok (.iconst 1, 1) := by decide +kernel
theorem dX10_layer1_160 : decode cX10_layer1 160 = .ok (.bipush 99, 2) := by decide +kernel
theorem dX10_layer1_162 : decode cX10_layer1 162 = .ok (.invokevirtual 291, 3) := by decide +kernel
theorem dX10_layer1_165 : decode cX10_layer1 165 = .ok (.iastore, 1) := by decide +kernel
theorem dX10_layer1_166 : decode cX10_layer1 166 = .ok (.aload_n 0, 1) := by decide +kernel
theorem dX10_layer1_167 : decode cX10_layer1 167 = .ok (.getfield 274, 3) := by decide +kernel
theorem dX10_layer1_170 : decode cX10_layer1 170 = .ok (.ifCond .ne 18, 3) := by decide +kernel
theorem dX10_layer1_173 : decode cX10_layer1 173 = .ok (.aload_n 0, 1) := by decide +kernel
theorem dX10_layer1_174 : decode cX10_layer1 174 = .ok (.getfield 86, 3) := by decide +kernel
theorem dX10_layer1_177 : decode cX10_layer1 177 = .ok (.iload_n 2, 1) := by decide +kernel
theorem dX10_layer1_178 : decode cX10_layer1 178 = .ok (.iconst 2, 1) := by decide +kernel
theorem dX10_layer1_179 : decode cX10_layer1 179 = .ok (.iadd, 1) := by decide +kernel
theorem dX10_layer1_180 : decode cX10_layer1 180 = .ok (.aload_n 0, 1) := by decide +kernel
theorem dX10_layer1_181 : decode cX10_layer1 181 = .ok (.iconst 0, 1) := by decide +kernel
theorem dX10_layer1_182 : decode cX10_layer1 182 = .ok (.bipush 99, 2) := by decide +kernel
theorem dX10_layer1_184 : decode cX10_layer1 184 = .ok (.invokevirtual 291, 3) := by decide +kernel
theorem dX10_layer1_187 : decode cX10_layer1 187 = .ok (.iastore, 1) := by decide +kernel
theorem dX10_layer1_188 : decode cX10_layer1 188 = .ok (.aload_n 0, 1) := by decide +kernel
theorem dX10_layer1_189 : decode cX10_layer1 189 = .ok (.getfield 274, 3) := by decide +kernel
theorem dX10_layer1_192 : decode cX10_layer1 192 = .ok (.ifCond .ne 80, 3) := by decide +kernel
theorem dX10_layer1_195 : decode cX10_layer1 195 = .ok (.aload_n 0, 1) := by decide +kernel
theorem dX10_layer1_196 : decode cX10_layer1 196 = .ok (.aload_n 0, 1) := by decide +kernel
theorem dX10_layer1_197 : decode cX10_layer1 197 = .ok (.getfield 263, 3) := by decide +kernel
theorem dX10_layer1_200 : decode cX10_layer1 200 = .ok (.iconst 2, 1) := by decide +kernel
theorem dX10_layer1_201 : decode cX10_layer1 201 = .ok (.if_icmp .ne 7, 3) := by decide +kernel
theorem dX10_layer1_208 : decode cX10_layer1 208 = .ok (.iconst 0, 1) := by decide +kernel
theorem dX10_layer1_209 : decode cX10_layer1 209 = .ok (.iconst 1, 1) := by decide +kernel
theorem dX10_layer1_210 : decode cX10_layer1 210 = .ok (.invokevirtual 277, 3) := by decide +kernel
theorem dX10_layer1_213 : decode cX10_layer1 213 = .ok (.ifCond .eq 59, 3) := by decide +kernel
theorem dX10_layer1_272 : decode cX10_layer1 272 = .ok (.return_, 1) := by decide +kernel
theorem dX10_layer1_204 : decode cX10_layer1 204 = .ok (.iconst 1, 1) := by decide +kernel
theorem dX10_layer1_205 : decode cX10_layer1 205 = .ok (.goto 4, 3) := by decide +kernel
theorem dX10_layer1_216 : decode cX10_layer1 216 = .ok (.aload_n 0, 1) := by decide +kernel
theorem dX10_layer1_217 : decode cX10_layer1 217 = .ok (.aload_n 0, 1) := by decide +kernel
theorem dX10_layer1_218 : decode cX10_layer1 218 = .ok (.getfield 260, 3) := by decide +kernel
theorem dX10_layer1_221 : decode cX10_layer1 221 = .ok (.iconst 1, 1) := by decide +kernel
theorem dX10_layer1_222 : decode cX10_layer1 222 = .ok (.sipush 999, 3) := by decide +kernel
theorem dX10_layer1_225 : decode cX10_layer1 225 = .ok (.invokestatic 281, 3) := by decide +kernel
theorem dX10_layer1_228 : decode cX10_layer1 228 = .ok (.iconst 2, 1) := by decide +kernel
theorem dX10_layer1_229 : decode cX10_layer1 229 = .ok (.invokevirtual 277, 3) := by decide +kernel
theorem dX10_layer1_232 : decode cX10_layer1 232 = .ok (.ifCond .eq 40, 3) := by decide +kernel
theorem dX10_layer1_235 : decode cX10_layer1 235 = .ok (.aload_n 0, 1) := by decide +kernel
theorem dX10_layer1_236 : decode cX10_layer1 236 = .ok (.aload_n 0, 1) := by decide +kernel
theorem dX10_layer1_237 : decode cX10_layer1 237 = .ok (.getfield 260, 3) := by decide +kernel
theorem dX10_layer1_240 : decode cX10_layer1 240 = .ok (.aload_n 0, 1) := by decide +kernel
theorem dX10_layer1_241 : decode cX10_layer1 241 = .ok (.getfield 86, 3) := by decide +kernel
theorem dX10_layer1_244 : decode cX10_layer1 244 = .ok (.iload_n 2, 1) := by decide +kernel
theorem dX10_layer1_245 : decode cX10_layer1 245 = .ok (.iconst 1, 1) := by decide +kernel
theorem dX10_layer1_246 : decode cX10_layer1 246 = .ok (.iadd, 1) := by decide +kernel
theorem dX10_layer1_247 : decode cX10_layer1 247 = .ok (.iaload, 1) := by decide +kernel
theorem dX10_layer1_248 : decode cX10_layer1 248 = .ok (.aload_n 0, 1) := by decide +kernel
theorem dX10_layer1_249 : decode cX10_layer1 249 = .ok (.getfield 86, 3) := by decide +kernel
theorem dX10_layer1_252 : decode cX10_layer1 252 = .ok (.iload_n 2, 1) := by decide +kernel
theorem dX10_layer1_253 : decode cX10_layer1 253 = .ok (.iconst 2, 1) := by decide +kernel
theorem dX10_layer1_254 : decode cX10_layer1 254 = .ok (.iadd, 1) := by decide +kernel
theorem dX10_layer1_255 : decode cX10_layer1 255 = .ok (.iaload, 1) := by decide +kernel
theorem dX10_layer1_256 : decode cX10_layer1 256 = .ok (.iadd, 1) := by decide +kernel
theorem dX10_layer1_257 : decode cX10_layer1 257 = .ok (.if_icmp .lt 7, 3) := by decide +kernel
theorem dX10_layer1_264 : decode cX10_layer1 264 = .ok (.iconst 0, 1) := by decide +kernel
theorem dX10_layer1_265 : decode cX10_layer1 265 = .ok (.iconst 5, 1) := by decide +kernel
theorem dX10_layer1_266 : decode cX10_layer1 266 = .ok (.invokevirtual 277, 3) := by decide +kernel
theorem dX10_layer1_269 : decode cX10_layer1 269 = .ok (.ifCond .ne 4, 3) := by decide +kernel
theorem dX10_layer1_260 : decode cX10_layer1 260 = .ok (.iconst 1, 1) := by decide +kernel
theorem dX10_layer1_261 : decode cX10_layer1 261 = .ok (.goto 4, 3) := by decide +kernel
theorem dX10_layer1_273 : decode cX10_layer1 273 = .ok (.aload_n 0, 1) := by decide +kernel
theorem dX10_layer1_274 : decode cX10_layer1 274 = .ok (.getfield 86, 3) := by decide +kernel
theorem dX10_layer1_277 : decode cX10_layer1 277 = .ok (.iload_n 2, 1) := by decide +kernel
theorem dX10_layer1_278 : decode cX10_layer1 278 = .ok (.iconst 3, 1) := by decide +kernel
theorem dX10_layer1_279 : decode cX10_layer1 279 = .ok (.iadd, 1) := by decide +kernel
theorem dX10_layer1_280 : decode cX10_layer1 280 = .ok (.aload_n 0, 1) := by decide +kernel
theorem dX10_layer1_281 : decode cX10_layer1 281 = .ok (.getfield 260, 3) := by decide +kernel
theorem dX10_layer1_284 : decode cX10_layer1 284 = .ok (.iastore, 1) := by decide +kernel
theorem dX10_layer1_285 : decode cX10_layer1 285 = .ok (.aload_n 0, 1) := by decide +kernel
theorem dX10_layer1_286 : decode cX10_layer1 286 = .ok (.invokevirtual 285, 3) := by decide +kernel
theorem dX10_layer1_289 : decode cX10_layer1 289 = .ok (.aload_n 0, 1) := by decide +kernel
theorem dX10_layer1_290 : decode cX10_layer1 290 = .ok (.getfield 86, 3) := by decide +kernel
theorem dX10_layer1_293 : decode cX10_layer1 293 = .ok (.iload_n 2, 1) := by decide +kernel
theorem dX10_layer1_294 : decode cX10_layer1 294 = .ok (.iconst 4, 1) := by decide +kernel
theorem dX10_layer1_295 : decode cX10_layer1 295 = .ok (.iadd, 1) := by decide +kernel
theorem dX10_layer1_296 : decode cX10_layer1 296 = .ok (.aload_n 0, 1) := by decide +kernel
theorem dX10_layer1_297 : decode cX10_layer1 297 = .ok (.iconst 0, 1) := by decide +kernel
theorem dX10_layer1_298 : decode cX10_layer1 298 = .ok (.sipush 300, 3) := by decide +kernel
theorem dX10_layer1_301 : decode cX10_layer1 301 = .ok (.invokevirtual 291, 3) := by decide +kernel
theorem dX10_layer1_304 : decode cX10_layer1 304 = .ok (.ineg, 1) := by decide +kernel
theorem dX10_layer1_305 : decode cX10_layer1 305 = .ok (.iastore, 1) := by decide +kernel
theorem dX10_layer1_306 : decode cX10_layer1 306 = .ok (.aload_n 0, 1) := by decide +kernel
theorem dX10_layer1_307 : decode cX10_layer1 307 = .ok (.getfield 86, 3) := by decide +kernel
theorem dX10_layer1_310 : decode cX10_layer1 310 = .ok (.iload_n 2, 1) := by decide +kernel
theorem dX10_layer1_311 : decode cX10_layer1 311 = .ok (.iconst 5, 1) := by decide +kernel
theorem dX10_layer1_312 : decode cX10_layer1 312 = .ok (.iadd, 1) := by decide +kernel
theorem dX10_layer1_313 : decode cX10_layer1 313 = .ok (.iconst 0, 1) := by decide +kernel
theorem dX10_layer1_314 : decode cX10_layer1 314 = .ok (.iastore, 1) := by decide +kernel
theorem dX10_layer1_315 : decode cX10_layer1 315 = .ok (.aload_n 0, 1) := by decide +kernel
theorem dX10_layer1_316 : decode cX10_layer1 316 = .ok (.getfield 86, 3) := by decide +kernel
theorem dX10_layer1_319 : decode cX10_layer1 319 = .ok (.iload_n 2, 1) := by decide +kernel
theorem dX10_layer1_320 : decode cX10_layer1 320 = .ok (.bipush 6, 2) := by decide +kernel
theorem dX10_layer1_322 : decode cX10_layer1 322 = .ok (.iadd, 1) := by decide +kernel
theorem dX10_layer1_323 : decode cX10_layer1 323 = .ok (.aload_n 0, 1) := by decide +kernel
theorem dX10_layer1_324 : decode cX10_layer1 324 = .ok (.getfield 302, 3) := by decide +kernel
theorem dX10_layer1_327 : decode cX10_layer1 327 = .ok (.iastore, 1) := by decide +kernel
theorem dX10_layer1_328 : decode cX10_layer1 328 = .ok (.aload_n 0, 1) := by decide +kernel
theorem dX10_layer1_329 : decode cX10_layer1 329 = .ok (.getfield 71, 3) := by decide +kernel
theorem dX10_layer1_332 : decode cX10_layer1 332 = .ok (.iload_n 1, 1) := by decide +kernel
theorem dX10_layer1_333 : decode cX10_layer1 333 = .ok (.dup2, 1) := by decide +kernel
theorem dX10_layer1_334 : decode cX10_layer1 334 = .ok (.iaload, 1) := by decide +kernel
theorem dX10_layer1_335 : decode cX10_layer1 335 = .ok (.iconst 1, 1) := by decide +kernel
theorem dX10_layer1_336 : decode cX10_layer1 336 = .ok (.iadd, 1) := by decide +kernel
theorem dX10_layer1_337 : decode cX10_layer1 337 = .ok (.iastore, 1) := by decide +kernel
theorem dX10_layer1_338 : decode cX10_layer1 338 = .ok (.aload_n 0, 1) := by decide +kernel
theorem dX10_layer1_339 : decode cX10_layer1 339 = .ok (.dup, 1) := by decide +kernel
theorem dX10_layer1_340 : decode cX10_layer1 340 = .ok (.getfield 302, 3) := by decide +kernel
theorem dX10_layer1_343 : decode cX10_layer1 343 = .ok (.iconst 1, 1) := by decide +kernel
theorem dX10_layer1_344 : decode cX10_layer1 344 = .ok (.iadd, 1) := by decide +kernel
theorem dX10_layer1_345 : decode cX10_layer1 345 = .ok (.putfield 302, 3) := by decide +kernel
theorem dX10_layer1_348 : decode cX10_layer1 348 = .ok (.return_, 1) := by decide +kernel
theorem dX10_layer1_134 : decode cX10_layer1 134 = .ok (.return_, 1) := by decide +kernel
