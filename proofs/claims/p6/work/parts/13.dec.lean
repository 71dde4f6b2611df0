-- decode rows of mod
theorem dX10_laysTable_0 : decode cX10_laysTable 0 = .ok (.iconst 0, 1) := by decide +kernel
theorem dX10_laysTable_1 : decode cX10_laysTable 1 = .ok (.istore_n 1, 1) := by decide +kernel
theorem dX10_laysTable_2 : decode cX10_laysTable 2 = .ok (.iload_n 1, 1) := by decide +kernel
theorem dX10_laysTable_3 : decode cX10_laysTable 3 = .ok (.iconst 5, 1) := by decide +kernel
theorem dX10_laysTable_4 : decode cX10_laysTable 4 = .ok (.if_icmp .ge 153, 3) := by decide +kernel
theorem dX10_laysTable_7 : decode cX10_laysTable 7 = .ok (.aload_n 0, 1) := by decide +kernel
theorem dX10_laysTable_8 : decode cX10_laysTable 8 = .ok (.getfield 28, 3) := by decide +kernel
theorem dX10_laysTable_11 : decode cX10_laysTable 11 = .ok (.iload_n 1, 1) := by decide +kernel
theorem dX10_laysTable_12 : decode cX10_laysTable 12 = .ok (.iload_n 1, 1) := by decide +kernel
theorem dX10_laysTable_13 : decode cX10_laysTable 13 = .ok (.ifCond .ne 7, 3) := by decide +kernel
theorem dX10_laysTable_16 : decode cX10_laysTable 16 = .ok (.iconst 3, 1) := by decide +kernel
theorem dX10_laysTable_17 : decode cX10_laysTable 17 = .ok (.goto 33, 3) := by decide +kernel
theorem dX10_laysTable_50 : decode cX10_laysTable 50 = .ok (.iastore, 1) := by decide +kernel
theorem dX10_laysTable_51 : decode cX10_laysTable 51 = .ok (.aload_n 0, 1) := by decide +kernel
theorem dX10_laysTable_52 : decode cX10_laysTable 52 = .ok (.getfield 28, 3) := by decide +kernel
theorem dX10_laysTable_55 : decode cX10_laysTable 55 = .ok (.iconst 5, 1) := by decide +kernel
theorem dX10_laysTable_56 : decode cX10_laysTable 56 = .ok (.iload_n 1, 1) := by decide +kernel
theorem dX10_laysTable_57 : decode cX10_laysTable 57 = .ok (.iadd, 1) := by decide +kernel
theorem dX10_laysTable_58 : decode cX10_laysTable 58 = .ok (.iload_n 1, 1) := by decide +kernel
theorem dX10_laysTable_59 : decode cX10_laysTable 59 = .ok (.ifCond .ne 7, 3) := by decide +kernel
theorem dX10_laysTable_62 : decode cX10_laysTable 62 = .ok (.iconst 5, 1) := by decide +kernel
theorem dX10_laysTable_63 : decode cX10_laysTable 63 = .ok (.goto 32, 3) := by decide +kernel
theorem dX10_laysTable_95 : decode cX10_laysTable 95 = .ok (.iastore, 1) := by decide +kernel
theorem dX10_laysTable_96 : decode cX10_laysTable 96 = .ok (.aload_n 0, 1) := by decide +kernel
theorem dX10_laysTable_97 : decode cX10_laysTable 97 = .ok (.getfield 28, 3) := by decide +kernel
theorem dX10_laysTable_100 : decode cX10_laysTable 100 = .ok (.bipush 10, 2) := by decide +kernel
theorem dX10_laysTable_102 : decode cX10_laysTable 102 = .ok (.iload_n 1, 1) := by decide +kernel
theorem dX10_laysTable_103 : decode cX10_laysTable 103 = .ok (.iadd, 1) := by decide +kernel
theorem dX10_laysTable_104 : decode cX10_laysTable 104 = .ok (.iload_n 1, 1) := by decide +kernel
theorem dX10_laysTable_105 : decode cX10_laysTable 105 = .ok (.ifCond .ne 9, 3) := by decide +kernel
theorem dX10_laysTable_108 : decode cX10_laysTable 108 = .ok (.sipush 1000, 3) := by decide +kernel
theorem dX10_laysTable_111 : decode cX10_laysTable 111 = .ok (.goto 39, 3) := by decide +kernel
theorem dX10_laysTable_150 : decode cX10_laysTable 150 = .ok (.iastore, 1) := by decide +kernel
theorem dX10_laysTable_151 : decode cX10_laysTable 151 = .ok (.iinc 1 1, 3) := by decide +kernel
theorem dX10_laysTable_154 : decode cX10_laysTable 154 = .ok (.goto (-152), 3) := by decide +kernel
theorem dX10_laysTable_20 : decode cX10_laysTable 20 = .ok (.iload_n 1, 1) := by decide +kernel
theorem dX10_laysTable_21 : decode cX10_laysTable 21 = .ok (.iconst 1, 1) := by decide +kernel
theorem dX10_laysTable_22 : decode cX10_laysTable 22 = .ok (.if_icmp .ne 8, 3) := by decide +kernel
theorem dX10_laysTable_25 : decode cX10_laysTable 25 = .ok (.bipush 12, 2) := by decide +kernel
theorem dX10_laysTable_27 : decode cX10_laysTable 27 = .ok (.goto 23, 3) := by decide +kernel
theorem dX10_laysTable_66 : decode cX10_laysTable 66 = .ok (.iload_n 1, 1) := by decide +kernel
theorem dX10_laysTable_67 : decode cX10_laysTable 67 = .ok (.iconst 1, 1) := by decide +kernel
theorem dX10_laysTable_68 : decode cX10_laysTable 68 = .ok (.if_icmp .ne 8, 3) := by decide +kernel
theorem dX10_laysTable_71 : decode cX10_laysTable 71 = .ok (.bipush 8, 2) := by decide +kernel
theorem dX10_laysTable_73 : decode cX10_laysTable 73 = .ok (.goto 22, 3) := by decide +kernel
theorem dX10_laysTable_114 : decode cX10_laysTable 114 = .ok (.iload_n 1, 1) := by decide +kernel
theorem dX10_laysTable_115 : decode cX10_laysTable 115 = .ok (.iconst 1, 1) := by decide +kernel
theorem dX10_laysTable_116 : decode cX10_laysTable 116 = .ok (.if_icmp .ne 9, 3) := by decide +kernel
theorem dX10_laysTable_119 : decode cX10_laysTable 119 = .ok (.sipush 4000, 3) := by decide +kernel
theorem dX10_laysTable_122 : decode cX10_laysTable 122 = .ok (.goto 28, 3) := by decide +kernel
theorem dX10_laysTable_30 : decode cX10_laysTable 30 = .ok (.iload_n 1, 1) := by decide +kernel
theorem dX10_laysTable_31 : decode cX10_laysTable 31 = .ok (.iconst 2, 1) := by decide +kernel
theorem dX10_laysTable_32 : decode cX10_laysTable 32 = .ok (.if_icmp .ne 7, 3) := by decide +kernel
theorem dX10_laysTable_35 : decode cX10_laysTable 35 = .ok (.iconst 4, 1) := by decide +kernel
theorem dX10_laysTable_36 : decode cX10_laysTable 36 = .ok (.goto 14, 3) := by decide +kernel
theorem dX10_laysTable_76 : decode cX10_laysTable 76 = .ok (.iload_n 1, 1) := by decide +kernel
theorem dX10_laysTable_77 : decode cX10_laysTable 77 = .ok (.iconst 2, 1) := by decide +kernel
theorem dX10_laysTable_78 : decode cX10_laysTable 78 = .ok (.if_icmp .ne 7, 3) := by decide +kernel
theorem dX10_laysTable_81 : decode cX10_laysTable 81 = .ok (.iconst 3, 1) := by decide +kernel
theorem dX10_laysTable_82 : decode cX10_laysTable 82 = .ok (.goto 13, 3) := by decide +kernel
theorem dX10_laysTable_125 : decode cX10_laysTable 125 = .ok (.iload_n 1, 1) := by decide +kernel
theorem dX10_laysTable_126 : decode cX10_laysTable 126 = .ok (.iconst 2, 1) := by decide +kernel
theorem dX10_laysTable_127 : decode cX10_laysTable 127 = .ok (.if_icmp .ne 9, 3) := by decide +kernel
theorem dX10_laysTable_130 : decode cX10_laysTable 130 = .ok (.sipush 6000, 3) := by decide +kernel
theorem dX10_laysTable_133 : decode cX10_laysTable 133 = .ok (.goto 17, 3) := by decide +kernel
theorem dX10_laysTable_39 : decode cX10_laysTable 39 = .ok (.iload_n 1, 1) := by decide +kernel
theorem dX10_laysTable_40 : decode cX10_laysTable 40 = .ok (.iconst 3, 1) := by decide +kernel
theorem dX10_laysTable_41 : decode cX10_laysTable 41 = .ok (.if_icmp .ne 8, 3) := by decide +kernel
theorem dX10_laysTable_44 : decode cX10_laysTable 44 = .ok (.bipush 40, 2) := by decide +kernel
theorem dX10_laysTable_46 : decode cX10_laysTable 46 = .ok (.goto 4, 3) := by decide +kernel
theorem dX10_laysTable_85 : decode cX10_laysTable 85 = .ok (.iload_n 1, 1) := by decide +kernel
theorem dX10_laysTable_86 : decode cX10_laysTable 86 = .ok (.iconst 3, 1) := by decide +kernel
theorem dX10_laysTable_87 : decode cX10_laysTable 87 = .ok (.if_icmp .ne 7, 3) := by decide +kernel
theorem dX10_laysTable_90 : decode cX10_laysTable 90 = .ok (.iconst 2, 1) := by decide +kernel
theorem dX10_laysTable_91 : decode cX10_laysTable 91 = .ok (.goto 4, 3) := by decide +kernel
theorem dX10_laysTable_136 : decode cX10_laysTable 136 = .ok (.iload_n 1, 1) := by decide +kernel
theorem dX10_laysTable_137 : decode cX10_laysTable 137 = .ok (.iconst 3, 1) := by decide +kernel
theorem dX10_laysTable_138 : decode cX10_laysTable 138 = .ok (.if_icmp .ne 9, 3) := by decide +kernel
theorem dX10_laysTable_141 : decode cX10_laysTable 141 = .ok (.sipush 9000, 3) := by decide +kernel
theorem dX10_laysTable_144 : decode cX10_laysTable 144 = .ok (.goto 6, 3) := by decide +kernel
theorem dX10_laysTable_49 : decode cX10_laysTable 49 = .ok (.iconst 1, 1) := by decide +kernel
theorem dX10_laysTable_94 : decode cX10_laysTable 94 = .ok (.iconst 1, 1) := by decide +kernel
theorem dX10_laysTable_147 : decode cX10_laysTable 147 = .ok (.sipush 8000, 3) := by decide +kernel
theorem dX10_laysTable_157 : decode cX10_laysTable 157 = .ok (.return_, 1) := by decide +kernel
theorem dX10_init_0 : decode cX10_init 0 = .ok (.aload_n 0, 1) := by decide +kernel
theorem dX10_init_1 : decode cX10_init 1 = .ok (.invokespecial 3, 3) := by decide +kernel
theorem dX10_init_4 : decode cX10_init 4 = .ok (.aload_n 0, 1) := by decide +kernel
theorem dX10_init_5 : decode cX10_init 5 = .ok (.sipush 29200, 3) := by decide +kernel
theorem dX10_init_8 : decode cX10_init 8 = .ok (.newarray .int, 2) := by decide +kernel
theorem dX10_init_10 : decode cX10_init 10 = .ok (.putfield 9, 3) := by decide +kernel
theorem dX10_init_13 : decode cX10_init 13 = .ok (.aload_n 0, 1) := by decide +kernel
theorem dX10_init_14 : decode cX10_init 14 = .ok (.iconst 4, 1) := by decide +kernel
theorem dX10_init_15 : decode cX10_init 15 = .ok (.newarray .int, 2) := by decide +kernel
theorem dX10_init_17 : decode cX10_init 17 = .ok (.putfield 13, 3) := by decide +kernel
theorem dX10_init_20 : decode cX10_init 20 = .ok (.aload_n 0, 1) := by decide +kernel
theorem dX10_init_21 : decode cX10_init 21 = .ok (.iconst 4, 1) := by decide +kernel
theorem dX10_init_22 : decode cX10_init 22 = .ok (.newarray .int, 2) := by decide +kernel
theorem dX10_init_24 : decode cX10_init 24 = .ok (.putfield 16, 3) := by decide +kernel
theorem dX10_init_27 : decode cX10_init 27 = .ok (.aload_n 0, 1) := by decide +kernel
theorem dX10_init_28 : decode cX10_init 28 = .ok (.bipush 24, 2) := by decide +kernel
theorem dX10_init_30 : decode cX10_init 30 = .ok (.newarray .int, 2) := by decide +kernel
theorem dX10_init_32 : decode cX10_init 32 = .ok (.putfield 19, 3) := by decide +kernel
theorem dX10_init_35 : decode cX10_init 35 = .ok (.aload_n 0, 1) := by decide +kernel
theorem dX10_init_36 : decode cX10_init 36 = .ok (.bipush 24, 2) := by decide +kernel
theorem dX10_init_38 : decode cX10_init 38 = .ok (.newarray .int, 2) := by decide +kernel
theorem dX10_init_40 : decode cX10_init 40 = .ok (.putfield 22, 3) := by decide +kernel
theorem dX10_init_43 : decode cX10_init 43 = .ok (.aload_n 0, 1) := by decide +kernel
theorem dX10_init_44 : decode cX10_init 44 = .ok (.bipush 24, 2) := by decide +kernel
theorem dX10_init_46 : decode cX10_init 46 = .ok (.newarray .int, 2) := by decide +kernel
theorem dX10_init_48 : decode cX10_init 48 = .ok (.putfield 25, 3) := by decide +kernel
theorem dX10_init_51 : decode cX10_init 51 = .ok (.aload_n 0, 1) := by decide +kernel
theorem dX10_init_52 : decode cX10_init 52 = .ok (.bipush 15, 2) := by decide +kernel
theorem dX10_init_54 : decode cX10_init 54 = .ok (.newarray .int, 2) := by decide +kernel
theorem dX10_init_56 : decode cX10_init 56 = .ok (.putfield 28, 3) := by decide +kernel
theorem dX10_init_59 : decode cX10_init 59 = .ok (.aload_n 0, 1) := by decide +kernel
theorem dX10_init_60 : decode cX10_init 60 = .ok (.bipush 16, 2) := by decide +kernel
theorem dX10_init_62 : decode cX10_init 62 = .ok (.newarray .int, 2) := by decide +kernel
theorem dX10_init_64 : decode cX10_init 64 = .ok (.putfield 31, 3) := by decide +kernel
theorem dX10_init_67 : decode cX10_init 67 = .ok (.aload_n 0, 1) := by decide +kernel
theorem dX10_init_68 : decode cX10_init 68 = .ok (.bipush 16, 2) := by decide +kernel
theorem dX10_init_70 : decode cX10_init 70 = .ok (.newarray .int, 2) := by decide +kernel
theorem dX10_init_72 : decode cX10_init 72 = .ok (.putfield 34, 3) := by decide +kernel
theorem dX10_init_75 : decode cX10_init 75 = .ok (.aload_n 0, 1) := by decide +kernel
theorem dX10_init_76 : decode cX10_init 76 = .ok (.bipush 16, 2) := by decide +kernel
theorem dX10_init_78 : decode cX10_init 78 = .ok (.newarray .int, 2) := by decide +kernel
theorem dX10_init_80 : decode cX10_init 80 = .ok (.putfield 37, 3) := by decide +kernel
theorem dX10_init_83 : decode cX10_init 83 = .ok (.aload_n 0, 1) := by decide +kernel
theorem dX10_init_84 : decode cX10_init 84 = .ok (.bipush 6, 2) := by decide +kernel
theorem dX10_init_86 : decode cX10_init 86 = .ok (.newarray .int, 2) := by decide +kernel
theorem dX10_init_88 : decode cX10_init 88 = .ok (.putfield 40, 3) := by decide +kernel
theorem dX10_init_91 : decode cX10_init 91 = .ok (.aload_n 0, 1) := by decide +kernel
theorem dX10_init_92 : decode cX10_init 92 = .ok (.sipush 1080, 3) := by decide +kernel
theorem dX10_init_95 : decode cX10_init 95 = .ok (.newarray .int, 2) := by decide +kernel
theorem dX10_init_97 : decode cX10_init 97 = .ok (.putfield 43, 3) := by decide +kernel
theorem dX10_init_100 : decode cX10_init 100 = .ok (.aload_n 0, 1) := by decide +kernel
theorem dX10_init_101 : decode cX10_init 101 = .ok (.sipush 900, 3) := by decide +kernel
theorem dX10_init_104 : decode cX10_init 104 = .ok (.newarray .int, 2) := by decide +kernel
theorem dX10_init_106 : decode cX10_init 106 = .ok (.putfield 46, 3) := by decide +kernel
theorem dX10_init_109 : decode cX10_init 109 = .ok (.aload_n 0, 1) := by decide +kernel
theorem dX10_init_110 : decode cX10_init 110 = .ok (.iconst (-1), 1) := by decide +kernel
theorem dX10_init_111 : decode cX10_init 111 = .ok (.putfield 49, 3) := by decide +kernel
theorem dX10_init_114 : decode cX10_init 114 = .ok (.aload_n 0, 1) := by decide +kernel
theorem dX10_init_115 : decode cX10_init 115 = .ok (.iconst (-1), 1) := by decide +kernel
theorem dX10_init_116 : decode cX10_init 116 = .ok (.putfield 53, 3) := by decide +kernel
theorem dX10_init_119 : decode cX10_init 119 = .ok (.aload_n 0, 1) := by decide +kernel
theorem dX10_init_120 : decode cX10_init 120 = .ok (.iconst (-1), 1) := by decide +kernel
theorem dX10_init_121 : decode cX10_init 121 = .ok (.putfield 56, 3) := by decide +kernel
theorem dX10_init_124 : decode cX10_init 124 = .ok (.aload_n 0, 1) := by decide +kernel
theorem dX10_init_125 : decode cX10_init 125 = .ok (.bipush 14, 2) := by decide +kernel
theorem dX10_init_127 : decode cX10_init 127 = .ok (.newarray .int, 2) := by decide +kernel
theorem dX10_init_129 : decode cX10_init 129 = .ok (.putfield 59, 3) := by decide +kernel
theorem dX10_init_132 : decode cX10_init 132 = .ok (.aload_n 0, 1) := by decide +kernel
theorem dX10_init_133 : decode cX10_init 133 = .ok (.bipush 12, 2) := by decide +kernel
theorem dX10_init_135 : decode cX10_init 135 = .ok (.newarray .int, 2) := by decide +kernel
theorem dX10_init_137 : decode cX10_init 137 = .ok (.putfield 62, 3) := by decide +kernel
theorem dX10_init_140 : decode cX10_init 140 = .ok (.aload_n 0, 1) := by decide +kernel
theorem dX10_init_141 : decode cX10_init 141 = .ok (.iconst 4, 1) := by decide +kernel
theorem dX10_init_142 : decode cX10_init 142 = .ok (.newarray .int, 2) := by decide +kernel
theorem dX10_init_144 : decode cX10_init 144 = .ok (.putfield 65, 3) := by decide +kernel
theorem dX10_init_147 : decode cX10_init 147 = .ok (.aload_n 0, 1) := by decide +kernel
theorem dX10_init_148 : decode cX10_init 148 = .ok (.iconst 4, 1) := by decide +kernel
theorem dX10_init_149 : decode cX10_init 149 = .ok (.newarray .int, 2) := by decide +kernel
theorem dX10_init_151 : decode cX10_init 151 = .ok (.putfield 68, 3) := by decide +kernel
theorem dX10_init_154 : decode cX10_init 154 = .ok (.aload_n 0, 1) := by decide +kernel
theorem dX10_init_155 : decode cX10_init 155 = .ok (.iconst 4, 1) := by decide +kernel
theorem dX10_init_156 : decode cX10_init 156 = .ok (.newarray .int, 2) := by decide +kernel
theorem dX10_init_158 : decode cX10_init 158 = .ok (.putfield 71, 3) := by decide +kernel
theorem dX10_init_161 : decode cX10_init 161 = .ok (.aload_n 0, 1) := by decide +kernel
theorem dX10_init_162 : decode cX10_init 162 = .ok (.bipush 24, 2) := by decide +kernel
theorem dX10_init_164 : decode cX10_init 164 = .ok (.newarray .int, 2) := by decide +kernel
theorem dX10_init_166 : decode cX10_init 166 = .ok (.putfield 74, 3) := by decide +kernel
theorem dX10_init_169 : decode cX10_init 169 = .ok (.aload_n 0, 1) := by decide +kernel
theorem dX10_init_170 : decode cX10_init 170 = .ok (.bipush 24, 2) := by decide +kernel
theorem dX10_init_172 : decode cX10_init 172 = .ok (.newarray .int, 2) := by decide +kernel
theorem dX10_init_174 : decode cX10_init 174 = .ok (.putfield 77, 3) := by decide +kernel
theorem dX10_init_177 : decode cX10_init 177 = .ok (.aload_n 0, 1) := by decide +kernel
theorem dX10_init_178 : decode cX10_init 178 = .ok (.bipush 24, 2) := by decide +kernel
theorem dX10_init_180 : decode cX10_init 180 = .ok (.newarray .int, 2) := by decide +kernel
theorem dX10_init_182 : decode cX10_init 182 = .ok (.putfield 80, 3) := by decide +kernel
theorem dX10_init_185 : decode cX10_init 185 = .ok (.aload_n 0, 1) := by decide +kernel
theorem dX10_init_186 : decode cX10_init 186 = .ok (.bipush 15, 2) := by decide +kernel
theorem dX10_init_188 : decode cX10_init 188 = .ok (.newarray .int, 2) := by decide +kernel
theorem dX10_init_190 : decode cX10_init 190 = .ok (.putfield 83, 3) := by decide +kernel
theorem dX10_init_193 : decode cX10_init 193 = .ok (.aload_n 0, 1) := by decide +kernel
theorem dX10_init_194 : decode cX10_init 194 = .ok (.sipush 336, 3) := by decide +kernel
theorem dX10_init_197 : decode cX10_init 197 = .ok (.newarray .int, 2) := by decide +kernel
theorem dX10_init_199 : decode cX10_init 199 = .ok (.putfield 86, 3) := by decide +kernel
theorem dX10_init_202 : decode cX10_init 202 = .ok (.aload_n 0, 1) := by decide +kernel
theorem dX10_init_203 : decode cX10_init 203 = .ok (.bipush 64, 2) := by decide +kernel
theorem dX10_init_205 : decode cX10_init 205 = .ok (.newarray .int, 2) := by decide +kernel
theorem dX10_init_207 : decode cX10_init 207 = .ok (.putfield 89, 3) := by decide +kernel
theorem dX10_init_210 : decode cX10_init 210 = .ok (.aload_n 0, 1) := by decide +kernel
theorem dX10_init_211 : decode cX10_init 211 = .ok (.bipush 12, 2) := by decide +kernel
theorem dX10_init_213 : decode cX10_init 213 = .ok (.newarray .int, 2) := by decide +kernel
theorem dX10_init_215 : decode cX10_init 215 = .ok (.putfield 92, 3) := by decide +kernel
theorem dX10_init_218 : decode cX10_init 218 = .ok (.aload_n 0, 1) := by decide +kernel
theorem dX10_init_219 : decode cX10_init 219 = .ok (.bipush 12, 2) := by decide +kernel
theorem dX10_init_221 : decode cX10_init 221 = .ok (.newarray .int, 2) := by decide +kernel
theorem dX10_init_223 : decode cX10_init 223 = .ok (.putfield 95, 3) := by decide +kernel
theorem dX10_init_226 : decode cX10_init 226 = .ok (.aload_n 0, 1) := by decide +kernel
theorem dX10_init_227 : decode cX10_init 227 = .ok (.sipush 169, 3) := by decide +kernel
theorem dX10_init_230 : decode cX10_init 230 = .ok (.newarray .int, 2) := by decide +kernel
theorem dX10_init_232 : decode cX10_init 232 = .ok (.putfield 98, 3) := by decide +kernel
theorem dX10_init_235 : decode cX10_init 235 = .ok (.aload_n 0, 1) := by decide +kernel
theorem dX10_init_236 : decode cX10_init 236 = .ok (.iconst 4, 1) := by decide +kernel
theorem dX10_init_237 : decode cX10_init 237 = .ok (.newarray .int, 2) := by decide +kernel
theorem dX10_init_239 : decode cX10_init 239 = .ok (.putfield 101, 3) := by decide +kernel
theorem dX10_init_242 : decode cX10_init 242 = .ok (.aload_n 0, 1) := by decide +kernel
theorem dX10_init_243 : decode cX10_init 243 = .ok (.sipush 4800, 3) := by decide +kernel
theorem dX10_init_246 : decode cX10_init 246 = .ok (.newarray .int, 2) := by decide +kernel
theorem dX10_init_248 : decode cX10_init 248 = .ok (.putfield 104, 3) := by decide +kernel
theorem dX10_init_251 : decode cX10_init 251 = .ok (.aload_n 0, 1) := by decide +kernel
theorem dX10_init_252 : decode cX10_init 252 = .ok (.invokevirtual 107, 3) := by decide +kernel
theorem dX10_init_255 : decode cX10_init 255 = .ok (.return_, 1) := by decide +kernel
