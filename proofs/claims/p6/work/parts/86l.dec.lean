-- decode rows of yread
theorem dX10_wordFrom_11 : decode cX10_wordFrom 11 = .ok (.iload 6, 2) := by decide +kernel
theorem dX10_wordFrom_13 : decode cX10_wordFrom 13 = .ok (.getstatic 244, 3) := by decide +kernel
theorem dX10_wordFrom_16 : decode cX10_wordFrom 16 = .ok (.arraylength, 1) := by decide +kernel
theorem dX10_wordFrom_17 : decode cX10_wordFrom 17 = .ok (.if_icmp .ge 81, 3) := by decide +kernel
theorem dX10_wordFrom_98 : decode cX10_wordFrom 98 = .ok (.iconst (-1), 1) := by decide +kernel
theorem dX10_wordFrom_99 : decode cX10_wordFrom 99 = .ok (.ireturn, 1) := by decide +kernel
theorem dX10_wordFrom_20 : decode cX10_wordFrom 20 = .ok (.getstatic 244, 3) := by decide +kernel
theorem dX10_wordFrom_23 : decode cX10_wordFrom 23 = .ok (.iload 6, 2) := by decide +kernel
theorem dX10_wordFrom_25 : decode cX10_wordFrom 25 = .ok (.baload, 1) := by decide +kernel
theorem dX10_wordFrom_26 : decode cX10_wordFrom 26 = .ok (.bipush 32, 2) := by decide +kernel
theorem dX10_wordFrom_28 : decode cX10_wordFrom 28 = .ok (.if_icmp .ne 28, 3) := by decide +kernel
theorem dX10_wordFrom_56 : decode cX10_wordFrom 56 = .ok (.iload 5, 2) := by decide +kernel
theorem dX10_wordFrom_58 : decode cX10_wordFrom 58 = .ok (.ifCond .eq 28, 3) := by decide +kernel
theorem dX10_wordFrom_86 : decode cX10_wordFrom 86 = .ok (.iconst 0, 1) := by decide +kernel
theorem dX10_wordFrom_87 : decode cX10_wordFrom 87 = .ok (.istore 5, 2) := by decide +kernel
theorem dX10_wordFrom_89 : decode cX10_wordFrom 89 = .ok (.iinc 4 1, 3) := by decide +kernel
theorem dX10_wordFrom_92 : decode cX10_wordFrom 92 = .ok (.iinc 6 1, 3) := by decide +kernel
theorem dX10_wordFrom_95 : decode cX10_wordFrom 95 = .ok (.goto (-84), 3) := by decide +kernel
theorem dX10_wordFrom_61 : decode cX10_wordFrom 61 = .ok (.iload 4, 2) := by decide +kernel
theorem dX10_wordFrom_63 : decode cX10_wordFrom 63 = .ok (.iload_n 2, 1) := by decide +kernel
theorem dX10_wordFrom_64 : decode cX10_wordFrom 64 = .ok (.if_icmp .ge 22, 3) := by decide +kernel
theorem dX10_wordFrom_67 : decode cX10_wordFrom 67 = .ok (.aload_n 0, 1) := by decide +kernel
theorem dX10_wordFrom_68 : decode cX10_wordFrom 68 = .ok (.iload 4, 2) := by decide +kernel
theorem dX10_wordFrom_70 : decode cX10_wordFrom 70 = .ok (.invokevirtual 248, 3) := by decide +kernel
theorem dX10_wordFrom_73 : decode cX10_wordFrom 73 = .ok (.getstatic 244, 3) := by decide +kernel
theorem dX10_wordFrom_76 : decode cX10_wordFrom 76 = .ok (.iload 6, 2) := by decide +kernel
theorem dX10_wordFrom_78 : decode cX10_wordFrom 78 = .ok (.baload, 1) := by decide +kernel
theorem dX10_wordFrom_79 : decode cX10_wordFrom 79 = .ok (.if_icmp .ne 7, 3) := by decide +kernel
theorem dX10_wordFrom_82 : decode cX10_wordFrom 82 = .ok (.iconst 1, 1) := by decide +kernel
theorem dX10_wordFrom_83 : decode cX10_wordFrom 83 = .ok (.goto 4, 3) := by decide +kernel
theorem dX10_wordFrom_31 : decode cX10_wordFrom 31 = .ok (.iload 5, 2) := by decide +kernel
theorem dX10_wordFrom_33 : decode cX10_wordFrom 33 = .ok (.ifCond .eq 11, 3) := by decide +kernel
theorem dX10_wordFrom_44 : decode cX10_wordFrom 44 = .ok (.iinc 3 1, 3) := by decide +kernel
theorem dX10_wordFrom_47 : decode cX10_wordFrom 47 = .ok (.iload_n 1, 1) := by decide +kernel
theorem dX10_wordFrom_48 : decode cX10_wordFrom 48 = .ok (.istore 4, 2) := by decide +kernel
theorem dX10_wordFrom_50 : decode cX10_wordFrom 50 = .ok (.iconst 1, 1) := by decide +kernel
theorem dX10_wordFrom_51 : decode cX10_wordFrom 51 = .ok (.istore 5, 2) := by decide +kernel
theorem dX10_wordFrom_53 : decode cX10_wordFrom 53 = .ok (.goto 39, 3) := by decide +kernel
theorem dX10_wordFrom_36 : decode cX10_wordFrom 36 = .ok (.iload 4, 2) := by decide +kernel
theorem dX10_wordFrom_38 : decode cX10_wordFrom 38 = .ok (.iload_n 2, 1) := by decide +kernel
theorem dX10_wordFrom_39 : decode cX10_wordFrom 39 = .ok (.if_icmp .ne 5, 3) := by decide +kernel
theorem dX10_wordFrom_42 : decode cX10_wordFrom 42 = .ok (.iload_n 3, 1) := by decide +kernel
theorem dX10_wordFrom_43 : decode cX10_wordFrom 43 = .ok (.ireturn, 1) := by decide +kernel
theorem dX10_wordFrom_0 : decode cX10_wordFrom 0 = .ok (.iconst 0, 1) := by decide +kernel
theorem dX10_wordFrom_1 : decode cX10_wordFrom 1 = .ok (.istore_n 3, 1) := by decide +kernel
theorem dX10_wordFrom_2 : decode cX10_wordFrom 2 = .ok (.iload_n 1, 1) := by decide +kernel
theorem dX10_wordFrom_3 : decode cX10_wordFrom 3 = .ok (.istore 4, 2) := by decide +kernel
theorem dX10_wordFrom_5 : decode cX10_wordFrom 5 = .ok (.iconst 1, 1) := by decide +kernel
theorem dX10_wordFrom_6 : decode cX10_wordFrom 6 = .ok (.istore 5, 2) := by decide +kernel
theorem dX10_wordFrom_8 : decode cX10_wordFrom 8 = .ok (.iconst 0, 1) := by decide +kernel
theorem dX10_wordFrom_9 : decode cX10_wordFrom 9 = .ok (.istore 6, 2) := by decide +kernel
theorem dX10_go_0 : decode cX10_go 0 = .ok (.aload_n 0, 1) := by decide +kernel
theorem dX10_go_1 : decode cX10_go 1 = .ok (.getfield 251, 3) := by decide +kernel
theorem dX10_go_4 : decode cX10_go 4 = .ok (.aload_n 0, 1) := by decide +kernel
theorem dX10_go_5 : decode cX10_go 5 = .ok (.getfield 241, 3) := by decide +kernel
theorem dX10_go_8 : decode cX10_go 8 = .ok (.if_icmp .ge 42, 3) := by decide +kernel
theorem dX10_go_50 : decode cX10_go 50 = .ok (.aload_n 0, 1) := by decide +kernel
theorem dX10_go_51 : decode cX10_go 51 = .ok (.aload_n 0, 1) := by decide +kernel
theorem dX10_go_52 : decode cX10_go 52 = .ok (.getfield 251, 3) := by decide +kernel
theorem dX10_go_55 : decode cX10_go 55 = .ok (.putfield 254, 3) := by decide +kernel
theorem dX10_go_58 : decode cX10_go 58 = .ok (.aload_n 0, 1) := by decide +kernel
theorem dX10_go_59 : decode cX10_go 59 = .ok (.aload_n 0, 1) := by decide +kernel
theorem dX10_go_60 : decode cX10_go 60 = .ok (.getfield 251, 3) := by decide +kernel
theorem dX10_go_63 : decode cX10_go 63 = .ok (.invokevirtual 248, 3) := by decide +kernel
theorem dX10_go_66 : decode cX10_go 66 = .ok (.istore_n 1, 1) := by decide +kernel
theorem dX10_go_67 : decode cX10_go 67 = .ok (.aload_n 0, 1) := by decide +kernel
theorem dX10_go_68 : decode cX10_go 68 = .ok (.iconst (-1), 1) := by decide +kernel
theorem dX10_go_69 : decode cX10_go 69 = .ok (.putfield 257, 3) := by decide +kernel
theorem dX10_go_72 : decode cX10_go 72 = .ok (.aload_n 0, 1) := by decide +kernel
theorem dX10_go_73 : decode cX10_go 73 = .ok (.iconst 0, 1) := by decide +kernel
theorem dX10_go_74 : decode cX10_go 74 = .ok (.putfield 260, 3) := by decide +kernel
theorem dX10_go_77 : decode cX10_go 77 = .ok (.aload_n 0, 1) := by decide +kernel
theorem dX10_go_78 : decode cX10_go 78 = .ok (.getfield 251, 3) := by decide +kernel
theorem dX10_go_81 : decode cX10_go 81 = .ok (.aload_n 0, 1) := by decide +kernel
theorem dX10_go_82 : decode cX10_go 82 = .ok (.getfield 241, 3) := by decide +kernel
theorem dX10_go_85 : decode cX10_go 85 = .ok (.if_icmp .lt 11, 3) := by decide +kernel
theorem dX10_go_96 : decode cX10_go 96 = .ok (.iload_n 1, 1) := by decide +kernel
theorem dX10_go_97 : decode cX10_go 97 = .ok (.invokestatic 266, 3) := by decide +kernel
theorem dX10_go_100 : decode cX10_go 100 = .ok (.ifCond .eq 54, 3) := by decide +kernel
theorem dX10_go_154 : decode cX10_go 154 = .ok (.iload_n 1, 1) := by decide +kernel
theorem dX10_go_155 : decode cX10_go 155 = .ok (.bipush 48, 2) := by decide +kernel
theorem dX10_go_157 : decode cX10_go 157 = .ok (.if_icmp .lt 98, 3) := by decide +kernel
theorem dX10_go_255 : decode cX10_go 255 = .ok (.aload_n 0, 1) := by decide +kernel
theorem dX10_go_256 : decode cX10_go 256 = .ok (.dup, 1) := by decide +kernel
theorem dX10_go_257 : decode cX10_go 257 = .ok (.getfield 251, 3) := by decide +kernel
theorem dX10_go_260 : decode cX10_go 260 = .ok (.iconst 1, 1) := by decide +kernel
theorem dX10_go_261 : decode cX10_go 261 = .ok (.iadd, 1) := by decide +kernel
theorem dX10_go_262 : decode cX10_go 262 = .ok (.putfield 251, 3) := by decide +kernel
theorem dX10_go_265 : decode cX10_go 265 = .ok (.aload_n 0, 1) := by decide +kernel
theorem dX10_go_266 : decode cX10_go 266 = .ok (.iload_n 1, 1) := by decide +kernel
theorem dX10_go_267 : decode cX10_go 267 = .ok (.bipush 59, 2) := by decide +kernel
theorem dX10_go_269 : decode cX10_go 269 = .ok (.if_icmp .eq 9, 3) := by decide +kernel
theorem dX10_go_278 : decode cX10_go 278 = .ok (.iconst 3, 1) := by decide +kernel
theorem dX10_go_279 : decode cX10_go 279 = .ok (.goto 4, 3) := by decide +kernel
theorem dX10_go_283 : decode cX10_go 283 = .ok (.putfield 263, 3) := by decide +kernel
theorem dX10_go_286 : decode cX10_go 286 = .ok (.aload_n 0, 1) := by decide +kernel
theorem dX10_go_287 : decode cX10_go 287 = .ok (.iload_n 1, 1) := by decide +kernel
theorem dX10_go_288 : decode cX10_go 288 = .ok (.putfield 260, 3) := by decide +kernel
theorem dX10_go_291 : decode cX10_go 291 = .ok (.return_, 1) := by decide +kernel
theorem dX10_go_272 : decode cX10_go 272 = .ok (.iload_n 1, 1) := by decide +kernel
theorem dX10_go_273 : decode cX10_go 273 = .ok (.bipush 45, 2) := by decide +kernel
theorem dX10_go_275 : decode cX10_go 275 = .ok (.if_icmp .ne 7, 3) := by decide +kernel
theorem dX10_go_282 : decode cX10_go 282 = .ok (.iconst 4, 1) := by decide +kernel
theorem dX10_go_160 : decode cX10_go 160 = .ok (.iload_n 1, 1) := by decide +kernel
theorem dX10_go_161 : decode cX10_go 161 = .ok (.bipush 57, 2) := by decide +kernel
theorem dX10_go_163 : decode cX10_go 163 = .ok (.if_icmp .gt 92, 3) := by decide +kernel
theorem dX10_go_166 : decode cX10_go 166 = .ok (.aload_n 0, 1) := by decide +kernel
theorem dX10_go_167 : decode cX10_go 167 = .ok (.aload_n 0, 1) := by decide +kernel
theorem dX10_go_168 : decode cX10_go 168 = .ok (.getfield 251, 3) := by decide +kernel
theorem dX10_go_171 : decode cX10_go 171 = .ok (.invokevirtual 248, 3) := by decide +kernel
theorem dX10_go_174 : decode cX10_go 174 = .ok (.bipush 48, 2) := by decide +kernel
theorem dX10_go_176 : decode cX10_go 176 = .ok (.if_icmp .lt 71, 3) := by decide +kernel
theorem dX10_go_247 : decode cX10_go 247 = .ok (.aload_n 0, 1) := by decide +kernel
theorem dX10_go_248 : decode cX10_go 248 = .ok (.iconst 2, 1) := by decide +kernel
theorem dX10_go_249 : decode cX10_go 249 = .ok (.putfield 263, 3) := by decide +kernel
theorem dX10_go_252 : decode cX10_go 252 = .ok (.goto 39, 3) := by decide +kernel
theorem dX10_go_179 : decode cX10_go 179 = .ok (.aload_n 0, 1) := by decide +kernel
theorem dX10_go_180 : decode cX10_go 180 = .ok (.aload_n 0, 1) := by decide +kernel
theorem dX10_go_181 : decode cX10_go 181 = .ok (.getfield 251, 3) := by decide +kernel
theorem dX10_go_184 : decode cX10_go 184 = .ok (.invokevirtual 248, 3) := by decide +kernel
theorem dX10_go_187 : decode cX10_go 187 = .ok (.bipush 57, 2) := by decide +kernel
theorem dX10_go_189 : decode cX10_go 189 = .ok (.if_icmp .gt 58, 3) := by decide +kernel
theorem dX10_go_192 : decode cX10_go 192 = .ok (.aload_n 0, 1) := by decide +kernel
theorem dX10_go_193 : decode cX10_go 193 = .ok (.aload_n 0, 1) := by decide +kernel
theorem dX10_go_194 : decode cX10_go 194 = .ok (.getfield 251, 3) := by decide +kernel
theorem dX10_go_197 : decode cX10_go 197 = .ok (.aload_n 0, 1) := by decide +kernel
theorem dX10_go_198 : decode cX10_go 198 = .ok (.getfield 254, 3) := by decide +kernel
theorem dX10_go_201 : decode cX10_go 201 = .ok (.isub, 1) := by decide +kernel
theorem dX10_go_202 : decode cX10_go 202 = .ok (.iconst 4, 1) := by decide +kernel
theorem dX10_go_203 : decode cX10_go 203 = .ok (.if_icmp .ge 25, 3) := by decide +kernel
theorem dX10_go_228 : decode cX10_go 228 = .ok (.ldc_w 273, 3) := by decide +kernel
theorem dX10_go_231 : decode cX10_go 231 = .ok (.putfield 260, 3) := by decide +kernel
theorem dX10_go_234 : decode cX10_go 234 = .ok (.aload_n 0, 1) := by decide +kernel
theorem dX10_go_235 : decode cX10_go 235 = .ok (.dup, 1) := by decide +kernel
theorem dX10_go_236 : decode cX10_go 236 = .ok (.getfield 251, 3) := by decide +kernel
theorem dX10_go_239 : decode cX10_go 239 = .ok (.iconst 1, 1) := by decide +kernel
theorem dX10_go_240 : decode cX10_go 240 = .ok (.iadd, 1) := by decide +kernel
theorem dX10_go_241 : decode cX10_go 241 = .ok (.putfield 251, 3) := by decide +kernel
theorem dX10_go_244 : decode cX10_go 244 = .ok (.goto (-78), 3) := by decide +kernel
theorem dX10_go_206 : decode cX10_go 206 = .ok (.bipush 10, 2) := by decide +kernel
theorem dX10_go_208 : decode cX10_go 208 = .ok (.aload_n 0, 1) := by decide +kernel
theorem dX10_go_209 : decode cX10_go 209 = .ok (.getfield 260, 3) := by decide +kernel
theorem dX10_go_212 : decode cX10_go 212 = .ok (.imul, 1) := by decide +kernel
theorem dX10_go_213 : decode cX10_go 213 = .ok (.aload_n 0, 1) := by decide +kernel
theorem dX10_go_214 : decode cX10_go 214 = .ok (.aload_n 0, 1) := by decide +kernel
theorem dX10_go_215 : decode cX10_go 215 = .ok (.getfield 251, 3) := by decide +kernel
theorem dX10_go_218 : decode cX10_go 218 = .ok (.invokevirtual 248, 3) := by decide +kernel
theorem dX10_go_221 : decode cX10_go 221 = .ok (.iadd, 1) := by decide +kernel
theorem dX10_go_222 : decode cX10_go 222 = .ok (.bipush 48, 2) := by decide +kernel
theorem dX10_go_224 : decode cX10_go 224 = .ok (.isub, 1) := by decide +kernel
theorem dX10_go_225 : decode cX10_go 225 = .ok (.goto 6, 3) := by decide +kernel
theorem dX10_go_103 : decode cX10_go 103 = .ok (.aload_n 0, 1) := by decide +kernel
theorem dX10_go_104 : decode cX10_go 104 = .ok (.aload_n 0, 1) := by decide +kernel
theorem dX10_go_105 : decode cX10_go 105 = .ok (.getfield 251, 3) := by decide +kernel
theorem dX10_go_108 : decode cX10_go 108 = .ok (.invokevirtual 248, 3) := by decide +kernel
theorem dX10_go_111 : decode cX10_go 111 = .ok (.invokestatic 266, 3) := by decide +kernel
theorem dX10_go_114 : decode cX10_go 114 = .ok (.ifCond .eq 16, 3) := by decide +kernel
theorem dX10_go_130 : decode cX10_go 130 = .ok (.aload_n 0, 1) := by decide +kernel
theorem dX10_go_131 : decode cX10_go 131 = .ok (.iconst 1, 1) := by decide +kernel
theorem dX10_go_132 : decode cX10_go 132 = .ok (.putfield 263, 3) := by decide +kernel
theorem dX10_go_135 : decode cX10_go 135 = .ok (.aload_n 0, 1) := by decide +kernel
theorem dX10_go_136 : decode cX10_go 136 = .ok (.aload_n 0, 1) := by decide +kernel
theorem dX10_go_137 : decode cX10_go 137 = .ok (.aload_n 0, 1) := by decide +kernel
theorem dX10_go_138 : decode cX10_go 138 = .ok (.getfield 254, 3) := by decide +kernel
theorem dX10_go_141 : decode cX10_go 141 = .ok (.aload_n 0, 1) := by decide +kernel
theorem dX10_go_142 : decode cX10_go 142 = .ok (.getfield 251, 3) := by decide +kernel
theorem dX10_go_145 : decode cX10_go 145 = .ok (.invokevirtual 270, 3) := by decide +kernel
theorem dX10_go_148 : decode cX10_go 148 = .ok (.putfield 257, 3) := by decide +kernel
theorem dX10_go_151 : decode cX10_go 151 = .ok (.goto 140, 3) := by decide +kernel
theorem dX10_go_117 : decode cX10_go 117 = .ok (.aload_n 0, 1) := by decide +kernel
theorem dX10_go_118 : decode cX10_go 118 = .ok (.dup, 1) := by decide +kernel
theorem dX10_go_119 : decode cX10_go 119 = .ok (.getfield 251, 3) := by decide +kernel
theorem dX10_go_122 : decode cX10_go 122 = .ok (.iconst 1, 1) := by decide +kernel
theorem dX10_go_123 : decode cX10_go 123 = .ok (.iadd, 1) := by decide +kernel
theorem dX10_go_124 : decode cX10_go 124 = .ok (.putfield 251, 3) := by decide +kernel
theorem dX10_go_127 : decode cX10_go 127 = .ok (.goto (-24), 3) := by decide +kernel
theorem dX10_go_88 : decode cX10_go 88 = .ok (.aload_n 0, 1) := by decide +kernel
theorem dX10_go_89 : decode cX10_go 89 = .ok (.iconst 0, 1) := by decide +kernel
theorem dX10_go_90 : decode cX10_go 90 = .ok (.putfield 263, 3) := by decide +kernel
theorem dX10_go_93 : decode cX10_go 93 = .ok (.goto 198, 3) := by decide +kernel
theorem dX10_go_11 : decode cX10_go 11 = .ok (.aload_n 0, 1) := by decide +kernel
theorem dX10_go_12 : decode cX10_go 12 = .ok (.aload_n 0, 1) := by decide +kernel
theorem dX10_go_13 : decode cX10_go 13 = .ok (.getfield 251, 3) := by decide +kernel
theorem dX10_go_16 : decode cX10_go 16 = .ok (.invokevirtual 248, 3) := by decide +kernel
theorem dX10_go_19 : decode cX10_go 19 = .ok (.bipush 32, 2) := by decide +kernel
theorem dX10_go_21 : decode cX10_go 21 = .ok (.if_icmp .eq 16, 3) := by decide +kernel
theorem dX10_go_37 : decode cX10_go 37 = .ok (.aload_n 0, 1) := by decide +kernel
theorem dX10_go_38 : decode cX10_go 38 = .ok (.dup, 1) := by decide +kernel
theorem dX10_go_39 : decode cX10_go 39 = .ok (.getfield 251, 3) := by decide +kernel
theorem dX10_go_42 : decode cX10_go 42 = .ok (.iconst 1, 1) := by decide +kernel
theorem dX10_go_43 : decode cX10_go 43 = .ok (.iadd, 1) := by decide +kernel
theorem dX10_go_44 : decode cX10_go 44 = .ok (.putfield 251, 3) := by decide +kernel
theorem dX10_go_47 : decode cX10_go 47 = .ok (.goto (-47), 3) := by decide +kernel
theorem dX10_go_24 : decode cX10_go 24 = .ok (.aload_n 0, 1) := by decide +kernel
theorem dX10_go_25 : decode cX10_go 25 = .ok (.aload_n 0, 1) := by decide +kernel
theorem dX10_go_26 : decode cX10_go 26 = .ok (.getfield 251, 3) := by decide +kernel
theorem dX10_go_29 : decode cX10_go 29 = .ok (.invokevirtual 248, 3) := by decide +kernel
theorem dX10_go_32 : decode cX10_go 32 = .ok (.bipush 10, 2) := by decide +kernel
theorem dX10_go_34 : decode cX10_go 34 = .ok (.if_icmp .ne 16, 3) := by decide +kernel
theorem dX10_wants_0 : decode cX10_wants 0 = .ok (.aload_n 0, 1) := by decide +kernel
theorem dX10_wants_1 : decode cX10_wants 1 = .ok (.getfield 274, 3) := by decide +kernel
theorem dX10_wants_4 : decode cX10_wants 4 = .ok (.ifCond .ne 20, 3) := by decide +kernel
theorem dX10_wants_7 : decode cX10_wants 7 = .ok (.iload_n 1, 1) := by decide +kernel
theorem dX10_wants_8 : decode cX10_wants 8 = .ok (.ifCond .ne 16, 3) := by decide +kernel
theorem dX10_wants_24 : decode cX10_wants 24 = .ok (.aload_n 0, 1) := by decide +kernel
theorem dX10_wants_25 : decode cX10_wants 25 = .ok (.getfield 274, 3) := by decide +kernel
theorem dX10_wants_28 : decode cX10_wants 28 = .ok (.ifCond .ne 7, 3) := by decide +kernel
theorem dX10_wants_31 : decode cX10_wants 31 = .ok (.iconst 1, 1) := by decide +kernel
theorem dX10_wants_32 : decode cX10_wants 32 = .ok (.goto 4, 3) := by decide +kernel
theorem dX10_wants_36 : decode cX10_wants 36 = .ok (.ireturn, 1) := by decide +kernel
theorem dX10_wants_11 : decode cX10_wants 11 = .ok (.aload_n 0, 1) := by decide +kernel
theorem dX10_wants_12 : decode cX10_wants 12 = .ok (.iload_n 2, 1) := by decide +kernel
theorem dX10_wants_13 : decode cX10_wants 13 = .ok (.putfield 274, 3) := by decide +kernel
theorem dX10_wants_16 : decode cX10_wants 16 = .ok (.aload_n 0, 1) := by decide +kernel
theorem dX10_wants_17 : decode cX10_wants 17 = .ok (.aload_n 0, 1) := by decide +kernel
theorem dX10_wants_18 : decode cX10_wants 18 = .ok (.getfield 254, 3) := by decide +kernel
theorem dX10_wants_21 : decode cX10_wants 21 = .ok (.putfield 49, 3) := by decide +kernel
theorem dX10_wants_35 : decode cX10_wants 35 = .ok (.iconst 0, 1) := by decide +kernel
theorem dX10_number_0 : decode cX10_number 0 = .ok (.aload_n 0, 1) := by decide +kernel
theorem dX10_number_1 : decode cX10_number 1 = .ok (.aload_n 0, 1) := by decide +kernel
theorem dX10_number_2 : decode cX10_number 2 = .ok (.getfield 263, 3) := by decide +kernel
theorem dX10_number_5 : decode cX10_number 5 = .ok (.iconst 2, 1) := by decide +kernel
theorem dX10_number_6 : decode cX10_number 6 = .ok (.if_icmp .ne 7, 3) := by decide +kernel
theorem dX10_number_13 : decode cX10_number 13 = .ok (.iconst 0, 1) := by decide +kernel
theorem dX10_number_14 : decode cX10_number 14 = .ok (.iconst 1, 1) := by decide +kernel
theorem dX10_number_15 : decode cX10_number 15 = .ok (.invokevirtual 277, 3) := by decide +kernel
theorem dX10_number_18 : decode cX10_number 18 = .ok (.ifCond .eq 20, 3) := by decide +kernel
theorem dX10_number_38 : decode cX10_number 38 = .ok (.iload_n 1, 1) := by decide +kernel
theorem dX10_number_39 : decode cX10_number 39 = .ok (.ireturn, 1) := by decide +kernel
theorem dX10_number_9 : decode cX10_number 9 = .ok (.iconst 1, 1) := by decide +kernel
theorem dX10_number_10 : decode cX10_number 10 = .ok (.goto 4, 3) := by decide +kernel
theorem dX10_number_21 : decode cX10_number 21 = .ok (.aload_n 0, 1) := by decide +kernel
theorem dX10_number_22 : decode cX10_number 22 = .ok (.aload_n 0, 1) := by decide +kernel
theorem dX10_number_23 : decode cX10_number 23 = .ok (.getfield 260, 3) := by decide +kernel
theorem dX10_number_26 : decode cX10_number 26 = .ok (.iload_n 1, 1) := by decide +kernel
theorem dX10_number_27 : decode cX10_number 27 = .ok (.iload_n 2, 1) := by decide +kernel
theorem dX10_number_28 : decode cX10_number 28 = .ok (.invokestatic 281, 3) := by decide +kernel
theorem dX10_number_31 : decode cX10_number 31 = .ok (.iconst 2, 1) := by decide +kernel
theorem dX10_number_32 : decode cX10_number 32 = .ok (.invokevirtual 277, 3) := by decide +kernel
theorem dX10_number_35 : decode cX10_number 35 = .ok (.ifCond .ne 5, 3) := by decide +kernel
theorem dX10_number_40 : decode cX10_number 40 = .ok (.aload_n 0, 1) := by decide +kernel
theorem dX10_number_41 : decode cX10_number 41 = .ok (.getfield 260, 3) := by decide +kernel
theorem dX10_number_44 : decode cX10_number 44 = .ok (.istore_n 3, 1) := by decide +kernel
theorem dX10_number_45 : decode cX10_number 45 = .ok (.aload_n 0, 1) := by decide +kernel
theorem dX10_number_46 : decode cX10_number 46 = .ok (.invokevirtual 285, 3) := by decide +kernel
theorem dX10_number_49 : decode cX10_number 49 = .ok (.iload_n 3, 1) := by decide +kernel
theorem dX10_number_50 : decode cX10_number 50 = .ok (.ireturn, 1) := by decide +kernel
theorem dX10_is_0 : decode cX10_is 0 = .ok (.aload_n 0, 1) := by decide +kernel
theorem dX10_is_1 : decode cX10_is 1 = .ok (.getfield 274, 3) := by decide +kernel
theorem dX10_is_4 : decode cX10_is 4 = .ok (.ifCond .ne 23, 3) := by decide +kernel
theorem dX10_is_7 : decode cX10_is 7 = .ok (.aload_n 0, 1) := by decide +kernel
theorem dX10_is_8 : decode cX10_is 8 = .ok (.getfield 263, 3) := by decide +kernel
theorem dX10_is_11 : decode cX10_is 11 = .ok (.iconst 1, 1) := by decide +kernel
theorem dX10_is_12 : decode cX10_is 12 = .ok (.if_icmp .ne 15, 3) := by decide +kernel
theorem dX10_is_27 : decode cX10_is 27 = .ok (.iconst 0, 1) := by decide +kernel
theorem dX10_is_28 : decode cX10_is 28 = .ok (.ireturn, 1) := by decide +kernel
theorem dX10_is_15 : decode cX10_is 15 = .ok (.aload_n 0, 1) := by decide +kernel
theorem dX10_is_16 : decode cX10_is 16 = .ok (.getfield 257, 3) := by decide +kernel
theorem dX10_is_19 : decode cX10_is 19 = .ok (.iload_n 1, 1) := by decide +kernel
theorem dX10_is_20 : decode cX10_is 20 = .ok (.if_icmp .ne 7, 3) := by decide +kernel
theorem dX10_is_23 : decode cX10_is 23 = .ok (.iconst 1, 1) := by decide +kernel
theorem dX10_is_24 : decode cX10_is 24 = .ok (.goto 4, 3) := by decide +kernel
theorem dX10_isKind_0 : decode cX10_isKind 0 = .ok (.aload_n 0, 1) := by decide +kernel
theorem dX10_isKind_1 : decode cX10_isKind 1 = .ok (.getfield 263, 3) := by decide +kernel
theorem dX10_isKind_4 : decode cX10_isKind 4 = .ok (.iconst 1, 1) := by decide +kernel
theorem dX10_isKind_5 : decode cX10_isKind 5 = .ok (.if_icmp .ne 29, 3) := by decide +kernel
theorem dX10_isKind_34 : decode cX10_isKind 34 = .ok (.iconst 0, 1) := by decide +kernel
theorem dX10_isKind_35 : decode cX10_isKind 35 = .ok (.ireturn, 1) := by decide +kernel
theorem dX10_isKind_8 : decode cX10_isKind 8 = .ok (.aload_n 0, 1) := by decide +kernel
theorem dX10_isKind_9 : decode cX10_isKind 9 = .ok (.getfield 257, 3) := by decide +kernel
theorem dX10_isKind_12 : decode cX10_isKind 12 = .ok (.bipush 9, 2) := by decide +kernel
theorem dX10_isKind_14 : decode cX10_isKind 14 = .ok (.bipush 12, 2) := by decide +kernel
theorem dX10_isKind_16 : decode cX10_isKind 16 = .ok (.invokestatic 281, 3) := by decide +kernel
theorem dX10_isKind_19 : decode cX10_isKind 19 = .ok (.ifCond .ne 11, 3) := by decide +kernel
theorem dX10_isKind_30 : decode cX10_isKind 30 = .ok (.iconst 1, 1) := by decide +kernel
theorem dX10_isKind_31 : decode cX10_isKind 31 = .ok (.goto 4, 3) := by decide +kernel
theorem dX10_isKind_22 : decode cX10_isKind 22 = .ok (.aload_n 0, 1) := by decide +kernel
theorem dX10_isKind_23 : decode cX10_isKind 23 = .ok (.getfield 257, 3) := by decide +kernel
theorem dX10_isKind_26 : decode cX10_isKind 26 = .ok (.iconst 5, 1) := by decide +kernel
theorem dX10_isKind_27 : decode cX10_isKind 27 = .ok (.if_icmp .ne 7, 3) := by decide +kernel
theorem dX10_kindHere_0 : decode cX10_kindHere 0 = .ok (.aload_n 0, 1) := by decide +kernel
theorem dX10_kindHere_1 : decode cX10_kindHere 1 = .ok (.getfield 257, 3) := by decide +kernel
theorem dX10_kindHere_4 : decode cX10_kindHere 4 = .ok (.iconst 5, 1) := by decide +kernel
theorem dX10_kindHere_5 : decode cX10_kindHere 5 = .ok (.if_icmp .ne 7, 3) := by decide +kernel
theorem dX10_kindHere_12 : decode cX10_kindHere 12 = .ok (.aload_n 0, 1) := by decide +kernel
theorem dX10_kindHere_13 : decode cX10_kindHere 13 = .ok (.getfield 257, 3) := by decide +kernel
theorem dX10_kindHere_16 : decode cX10_kindHere 16 = .ok (.bipush 9, 2) := by decide +kernel
theorem dX10_kindHere_18 : decode cX10_kindHere 18 = .ok (.isub, 1) := by decide +kernel
theorem dX10_kindHere_19 : decode cX10_kindHere 19 = .ok (.ireturn, 1) := by decide +kernel
theorem dX10_kindHere_8 : decode cX10_kindHere 8 = .ok (.iconst 4, 1) := by decide +kernel
theorem dX10_kindHere_9 : decode cX10_kindHere 9 = .ok (.goto 10, 3) := by decide +kernel
