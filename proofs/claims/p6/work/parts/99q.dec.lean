-- decode rows of refbec
theorem dX10_becomes_0 : decode cX10_becomes 0 = .ok (.aload_n 0, 1) := by decide +kernel
theorem dX10_becomes_1 : decode cX10_becomes 1 = .ok (.aload_n 0, 1) := by decide +kernel
theorem dX10_becomes_2 : decode cX10_becomes 2 = .ok (.getfield 288, 3) := by decide +kernel
theorem dX10_becomes_5 : decode cX10_becomes 5 = .ok (.putfield 198, 3) := by decide +kernel
theorem dX10_becomes_8 : decode cX10_becomes 8 = .ok (.aload_n 0, 1) := by decide +kernel
theorem dX10_becomes_9 : decode cX10_becomes 9 = .ok (.aload_n 0, 1) := by decide +kernel
theorem dX10_becomes_10 : decode cX10_becomes 10 = .ok (.getfield 305, 3) := by decide +kernel
theorem dX10_becomes_13 : decode cX10_becomes 13 = .ok (.putfield 153, 3) := by decide +kernel
theorem dX10_becomes_16 : decode cX10_becomes 16 = .ok (.aload_n 0, 1) := by decide +kernel
theorem dX10_becomes_17 : decode cX10_becomes 17 = .ok (.invokevirtual 107, 3) := by decide +kernel
theorem dX10_becomes_20 : decode cX10_becomes 20 = .ok (.iconst 0, 1) := by decide +kernel
theorem dX10_becomes_21 : decode cX10_becomes 21 = .ok (.istore_n 1, 1) := by decide +kernel
theorem dX10_becomes_22 : decode cX10_becomes 22 = .ok (.iload_n 1, 1) := by decide +kernel
theorem dX10_becomes_23 : decode cX10_becomes 23 = .ok (.bipush 15, 2) := by decide +kernel
theorem dX10_becomes_25 : decode cX10_becomes 25 = .ok (.if_icmp .ge 31, 3) := by decide +kernel
theorem dX10_becomes_56 : decode cX10_becomes 56 = .ok (.iconst 0, 1) := by decide +kernel
theorem dX10_becomes_57 : decode cX10_becomes 57 = .ok (.istore_n 1, 1) := by decide +kernel
theorem dX10_becomes_58 : decode cX10_becomes 58 = .ok (.iload_n 1, 1) := by decide +kernel
theorem dX10_becomes_59 : decode cX10_becomes 59 = .ok (.aload_n 0, 1) := by decide +kernel
theorem dX10_becomes_60 : decode cX10_becomes 60 = .ok (.getfield 153, 3) := by decide +kernel
theorem dX10_becomes_63 : decode cX10_becomes 63 = .ok (.if_icmp .ge 45, 3) := by decide +kernel
theorem dX10_becomes_108 : decode cX10_becomes 108 = .ok (.iconst 0, 1) := by decide +kernel
theorem dX10_becomes_109 : decode cX10_becomes 109 = .ok (.istore_n 1, 1) := by decide +kernel
theorem dX10_becomes_110 : decode cX10_becomes 110 = .ok (.iload_n 1, 1) := by decide +kernel
theorem dX10_becomes_111 : decode cX10_becomes 111 = .ok (.sipush 350, 3) := by decide +kernel
theorem dX10_becomes_114 : decode cX10_becomes 114 = .ok (.if_icmp .ge 16, 3) := by decide +kernel
theorem dX10_becomes_130 : decode cX10_becomes 130 = .ok (.aload_n 0, 1) := by decide +kernel
theorem dX10_becomes_131 : decode cX10_becomes 131 = .ok (.getfield 9, 3) := by decide +kernel
theorem dX10_becomes_134 : decode cX10_becomes 134 = .ok (.iconst 1, 1) := by decide +kernel
theorem dX10_becomes_135 : decode cX10_becomes 135 = .ok (.aload_n 0, 1) := by decide +kernel
theorem dX10_becomes_136 : decode cX10_becomes 136 = .ok (.getfield 302, 3) := by decide +kernel
theorem dX10_becomes_139 : decode cX10_becomes 139 = .ok (.iastore, 1) := by decide +kernel
theorem dX10_becomes_140 : decode cX10_becomes 140 = .ok (.iconst 0, 1) := by decide +kernel
theorem dX10_becomes_141 : decode cX10_becomes 141 = .ok (.istore_n 1, 1) := by decide +kernel
theorem dX10_becomes_142 : decode cX10_becomes 142 = .ok (.iload_n 1, 1) := by decide +kernel
theorem dX10_becomes_143 : decode cX10_becomes 143 = .ok (.aload_n 0, 1) := by decide +kernel
theorem dX10_becomes_144 : decode cX10_becomes 144 = .ok (.getfield 198, 3) := by decide +kernel
theorem dX10_becomes_147 : decode cX10_becomes 147 = .ok (.if_icmp .ge 86, 3) := by decide +kernel
theorem dX10_becomes_233 : decode cX10_becomes 233 = .ok (.aload_n 0, 1) := by decide +kernel
theorem dX10_becomes_234 : decode cX10_becomes 234 = .ok (.aload_n 0, 1) := by decide +kernel
theorem dX10_becomes_235 : decode cX10_becomes 235 = .ok (.aload_n 0, 1) := by decide +kernel
theorem dX10_becomes_236 : decode cX10_becomes 236 = .ok (.aload_n 0, 1) := by decide +kernel
theorem dX10_becomes_237 : decode cX10_becomes 237 = .ok (.iconst 0, 1) := by decide +kernel
theorem dX10_becomes_238 : decode cX10_becomes 238 = .ok (.dup_x1, 1) := by decide +kernel
theorem dX10_becomes_239 : decode cX10_becomes 239 = .ok (.putfield 333, 3) := by decide +kernel
theorem dX10_becomes_242 : decode cX10_becomes 242 = .ok (.dup_x1, 1) := by decide +kernel
theorem dX10_becomes_243 : decode cX10_becomes 243 = .ok (.putfield 336, 3) := by decide +kernel
theorem dX10_becomes_246 : decode cX10_becomes 246 = .ok (.dup_x1, 1) := by decide +kernel
theorem dX10_becomes_247 : decode cX10_becomes 247 = .ok (.putfield 339, 3) := by decide +kernel
theorem dX10_becomes_250 : decode cX10_becomes 250 = .ok (.putfield 342, 3) := by decide +kernel
theorem dX10_becomes_253 : decode cX10_becomes 253 = .ok (.return_, 1) := by decide +kernel
theorem dX10_becomes_150 : decode cX10_becomes 150 = .ok (.aload_n 0, 1) := by decide +kernel
theorem dX10_becomes_151 : decode cX10_becomes 151 = .ok (.getfield 13, 3) := by decide +kernel
theorem dX10_becomes_154 : decode cX10_becomes 154 = .ok (.iload_n 1, 1) := by decide +kernel
theorem dX10_becomes_155 : decode cX10_becomes 155 = .ok (.aload_n 0, 1) := by decide +kernel
theorem dX10_becomes_156 : decode cX10_becomes 156 = .ok (.getfield 65, 3) := by decide +kernel
theorem dX10_becomes_159 : decode cX10_becomes 159 = .ok (.iload_n 1, 1) := by decide +kernel
theorem dX10_becomes_160 : decode cX10_becomes 160 = .ok (.iaload, 1) := by decide +kernel
theorem dX10_becomes_161 : decode cX10_becomes 161 = .ok (.iastore, 1) := by decide +kernel
theorem dX10_becomes_162 : decode cX10_becomes 162 = .ok (.aload_n 0, 1) := by decide +kernel
theorem dX10_becomes_163 : decode cX10_becomes 163 = .ok (.getfield 16, 3) := by decide +kernel
theorem dX10_becomes_166 : decode cX10_becomes 166 = .ok (.iload_n 1, 1) := by decide +kernel
theorem dX10_becomes_167 : decode cX10_becomes 167 = .ok (.aload_n 0, 1) := by decide +kernel
theorem dX10_becomes_168 : decode cX10_becomes 168 = .ok (.getfield 68, 3) := by decide +kernel
theorem dX10_becomes_171 : decode cX10_becomes 171 = .ok (.iload_n 1, 1) := by decide +kernel
theorem dX10_becomes_172 : decode cX10_becomes 172 = .ok (.iaload, 1) := by decide +kernel
theorem dX10_becomes_173 : decode cX10_becomes 173 = .ok (.iastore, 1) := by decide +kernel
theorem dX10_becomes_174 : decode cX10_becomes 174 = .ok (.aload_n 0, 1) := by decide +kernel
theorem dX10_becomes_175 : decode cX10_becomes 175 = .ok (.iconst 0, 1) := by decide +kernel
theorem dX10_becomes_176 : decode cX10_becomes 176 = .ok (.iload_n 1, 1) := by decide +kernel
theorem dX10_becomes_177 : decode cX10_becomes 177 = .ok (.aload_n 0, 1) := by decide +kernel
theorem dX10_becomes_178 : decode cX10_becomes 178 = .ok (.getfield 71, 3) := by decide +kernel
theorem dX10_becomes_181 : decode cX10_becomes 181 = .ok (.iload_n 1, 1) := by decide +kernel
theorem dX10_becomes_182 : decode cX10_becomes 182 = .ok (.iaload, 1) := by decide +kernel
theorem dX10_becomes_183 : decode cX10_becomes 183 = .ok (.invokevirtual 135, 3) := by decide +kernel
theorem dX10_becomes_186 : decode cX10_becomes 186 = .ok (.iconst 0, 1) := by decide +kernel
theorem dX10_becomes_187 : decode cX10_becomes 187 = .ok (.istore_n 2, 1) := by decide +kernel
theorem dX10_becomes_188 : decode cX10_becomes 188 = .ok (.iload_n 2, 1) := by decide +kernel
theorem dX10_becomes_189 : decode cX10_becomes 189 = .ok (.bipush 84, 2) := by decide +kernel
theorem dX10_becomes_191 : decode cX10_becomes 191 = .ok (.if_icmp .ge 36, 3) := by decide +kernel
theorem dX10_becomes_227 : decode cX10_becomes 227 = .ok (.iinc 1 1, 3) := by decide +kernel
theorem dX10_becomes_230 : decode cX10_becomes 230 = .ok (.goto (-88), 3) := by decide +kernel
theorem dX10_becomes_194 : decode cX10_becomes 194 = .ok (.aload_n 0, 1) := by decide +kernel
theorem dX10_becomes_195 : decode cX10_becomes 195 = .ok (.getfield 9, 3) := by decide +kernel
theorem dX10_becomes_198 : decode cX10_becomes 198 = .ok (.bipush 6, 2) := by decide +kernel
theorem dX10_becomes_200 : decode cX10_becomes 200 = .ok (.bipush 86, 2) := by decide +kernel
theorem dX10_becomes_202 : decode cX10_becomes 202 = .ok (.iload_n 1, 1) := by decide +kernel
theorem dX10_becomes_203 : decode cX10_becomes 203 = .ok (.imul, 1) := by decide +kernel
theorem dX10_becomes_204 : decode cX10_becomes 204 = .ok (.iadd, 1) := by decide +kernel
theorem dX10_becomes_205 : decode cX10_becomes 205 = .ok (.iconst 2, 1) := by decide +kernel
theorem dX10_becomes_206 : decode cX10_becomes 206 = .ok (.iadd, 1) := by decide +kernel
theorem dX10_becomes_207 : decode cX10_becomes 207 = .ok (.iload_n 2, 1) := by decide +kernel
theorem dX10_becomes_208 : decode cX10_becomes 208 = .ok (.iadd, 1) := by decide +kernel
theorem dX10_becomes_209 : decode cX10_becomes 209 = .ok (.aload_n 0, 1) := by decide +kernel
theorem dX10_becomes_210 : decode cX10_becomes 210 = .ok (.getfield 86, 3) := by decide +kernel
theorem dX10_becomes_213 : decode cX10_becomes 213 = .ok (.bipush 84, 2) := by decide +kernel
theorem dX10_becomes_215 : decode cX10_becomes 215 = .ok (.iload_n 1, 1) := by decide +kernel
theorem dX10_becomes_216 : decode cX10_becomes 216 = .ok (.imul, 1) := by decide +kernel
theorem dX10_becomes_217 : decode cX10_becomes 217 = .ok (.iload_n 2, 1) := by decide +kernel
theorem dX10_becomes_218 : decode cX10_becomes 218 = .ok (.iadd, 1) := by decide +kernel
theorem dX10_becomes_219 : decode cX10_becomes 219 = .ok (.iaload, 1) := by decide +kernel
theorem dX10_becomes_220 : decode cX10_becomes 220 = .ok (.iastore, 1) := by decide +kernel
theorem dX10_becomes_221 : decode cX10_becomes 221 = .ok (.iinc 2 1, 3) := by decide +kernel
theorem dX10_becomes_224 : decode cX10_becomes 224 = .ok (.goto (-36), 3) := by decide +kernel
theorem dX10_becomes_117 : decode cX10_becomes 117 = .ok (.aload_n 0, 1) := by decide +kernel
theorem dX10_becomes_118 : decode cX10_becomes 118 = .ok (.getfield 9, 3) := by decide +kernel
theorem dX10_becomes_121 : decode cX10_becomes 121 = .ok (.iload_n 1, 1) := by decide +kernel
theorem dX10_becomes_122 : decode cX10_becomes 122 = .ok (.iconst 0, 1) := by decide +kernel
theorem dX10_becomes_123 : decode cX10_becomes 123 = .ok (.iastore, 1) := by decide +kernel
theorem dX10_becomes_124 : decode cX10_becomes 124 = .ok (.iinc 1 1, 3) := by decide +kernel
theorem dX10_becomes_127 : decode cX10_becomes 127 = .ok (.goto (-17), 3) := by decide +kernel
theorem dX10_becomes_66 : decode cX10_becomes 66 = .ok (.aload_n 0, 1) := by decide +kernel
theorem dX10_becomes_67 : decode cX10_becomes 67 = .ok (.getfield 19, 3) := by decide +kernel
theorem dX10_becomes_70 : decode cX10_becomes 70 = .ok (.iload_n 1, 1) := by decide +kernel
theorem dX10_becomes_71 : decode cX10_becomes 71 = .ok (.aload_n 0, 1) := by decide +kernel
theorem dX10_becomes_72 : decode cX10_becomes 72 = .ok (.getfield 74, 3) := by decide +kernel
theorem dX10_becomes_75 : decode cX10_becomes 75 = .ok (.iload_n 1, 1) := by decide +kernel
theorem dX10_becomes_76 : decode cX10_becomes 76 = .ok (.iaload, 1) := by decide +kernel
theorem dX10_becomes_77 : decode cX10_becomes 77 = .ok (.iastore, 1) := by decide +kernel
theorem dX10_becomes_78 : decode cX10_becomes 78 = .ok (.aload_n 0, 1) := by decide +kernel
theorem dX10_becomes_79 : decode cX10_becomes 79 = .ok (.getfield 22, 3) := by decide +kernel
theorem dX10_becomes_82 : decode cX10_becomes 82 = .ok (.iload_n 1, 1) := by decide +kernel
theorem dX10_becomes_83 : decode cX10_becomes 83 = .ok (.aload_n 0, 1) := by decide +kernel
theorem dX10_becomes_84 : decode cX10_becomes 84 = .ok (.getfield 77, 3) := by decide +kernel
theorem dX10_becomes_87 : decode cX10_becomes 87 = .ok (.iload_n 1, 1) := by decide +kernel
theorem dX10_becomes_88 : decode cX10_becomes 88 = .ok (.iaload, 1) := by decide +kernel
theorem dX10_becomes_89 : decode cX10_becomes 89 = .ok (.iastore, 1) := by decide +kernel
theorem dX10_becomes_90 : decode cX10_becomes 90 = .ok (.aload_n 0, 1) := by decide +kernel
theorem dX10_becomes_91 : decode cX10_becomes 91 = .ok (.getfield 25, 3) := by decide +kernel
theorem dX10_becomes_94 : decode cX10_becomes 94 = .ok (.iload_n 1, 1) := by decide +kernel
theorem dX10_becomes_95 : decode cX10_becomes 95 = .ok (.aload_n 0, 1) := by decide +kernel
theorem dX10_becomes_96 : decode cX10_becomes 96 = .ok (.getfield 80, 3) := by decide +kernel
theorem dX10_becomes_99 : decode cX10_becomes 99 = .ok (.iload_n 1, 1) := by decide +kernel
theorem dX10_becomes_100 : decode cX10_becomes 100 = .ok (.iaload, 1) := by decide +kernel
theorem dX10_becomes_101 : decode cX10_becomes 101 = .ok (.iastore, 1) := by decide +kernel
theorem dX10_becomes_102 : decode cX10_becomes 102 = .ok (.iinc 1 1, 3) := by decide +kernel
theorem dX10_becomes_105 : decode cX10_becomes 105 = .ok (.goto (-47), 3) := by decide +kernel
theorem dX10_becomes_28 : decode cX10_becomes 28 = .ok (.aload_n 0, 1) := by decide +kernel
theorem dX10_becomes_29 : decode cX10_becomes 29 = .ok (.getfield 83, 3) := by decide +kernel
theorem dX10_becomes_32 : decode cX10_becomes 32 = .ok (.iload_n 1, 1) := by decide +kernel
theorem dX10_becomes_33 : decode cX10_becomes 33 = .ok (.iaload, 1) := by decide +kernel
theorem dX10_becomes_34 : decode cX10_becomes 34 = .ok (.iconst (-1), 1) := by decide +kernel
theorem dX10_becomes_35 : decode cX10_becomes 35 = .ok (.if_icmp .eq 15, 3) := by decide +kernel
theorem dX10_becomes_50 : decode cX10_becomes 50 = .ok (.iinc 1 1, 3) := by decide +kernel
theorem dX10_becomes_53 : decode cX10_becomes 53 = .ok (.goto (-31), 3) := by decide +kernel
theorem dX10_becomes_38 : decode cX10_becomes 38 = .ok (.aload_n 0, 1) := by decide +kernel
theorem dX10_becomes_39 : decode cX10_becomes 39 = .ok (.getfield 28, 3) := by decide +kernel
theorem dX10_becomes_42 : decode cX10_becomes 42 = .ok (.iload_n 1, 1) := by decide +kernel
theorem dX10_becomes_43 : decode cX10_becomes 43 = .ok (.aload_n 0, 1) := by decide +kernel
theorem dX10_becomes_44 : decode cX10_becomes 44 = .ok (.getfield 83, 3) := by decide +kernel
theorem dX10_becomes_47 : decode cX10_becomes 47 = .ok (.iload_n 1, 1) := by decide +kernel
theorem dX10_becomes_48 : decode cX10_becomes 48 = .ok (.iaload, 1) := by decide +kernel
theorem dX10_becomes_49 : decode cX10_becomes 49 = .ok (.iastore, 1) := by decide +kernel
