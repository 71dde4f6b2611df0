section
-- 13.dec.lean.txt
-- decode rows of mod
theorem dX10_laysTable_0 : decode cX10_laysTable 0 = .ok (.iconst 0, 1) := by decide +kernel
theorem dX10_laysTable_1 : decode cX10_laysTable 1 = .ok (.istore_n 1, 1) := by decide +kernel
theorem dX10_laysTable_2 : decode cX10_laysTable 2 = .ok (.iload_n 1, 1) := by decide +kernel
theorem dX10_laysTable_3 : decode cX10_laysTable 3 = .ok (.iconst 5, 1) := by decide +kernel
theorem dX10_laysTable_4 : decode cX10_laysTable 4 = .ok (.if_icmp .ge 153, 3) := by decide +kernel
theorem dX10_laysTable_7 : decode cX10_laysTable 7 = .ok (.aload_n 0, 1) := by decide +kernel
theorem dX10_laysTable_8 : decode cX10_laysTable 8 = .ok (.getfield 28, 3) := by decide +kernel
theorem dX10_laysTable_11 : decode cX10_laysTable 11 = .ok (.iload_n 1, 1) := by decide +kernel
theorem dX10_laysTable_12 : decode cX10_laysTable 12 = .ok (.iload_n 1, 1) := by decide +kernel
theorem dX10_laysTable_13 : decode cX10_laysTable 13 = .ok (.ifCond .ne 7, 3) := by decide +kernel
theorem dX10_laysTable_16 : decode cX10_laysTable 16 = .ok (.iconst 3, 1) := by decide +kernel
theorem dX10_laysTable_17 : decode cX10_laysTable 17 = .ok (.goto 33, 3) := by decide +kernel
theorem dX10_laysTable_50 : decode cX10_laysTable 50 = .ok (.iastore, 1) := by decide +kernel
theorem dX10_laysTable_51 : decode cX10_laysTable 51 = .ok (.aload_n 0, 1) := by decide +kernel
theorem dX10_laysTable_52 : decode cX10_laysTable 52 = .ok (.getfield 28, 3) := by decide +kernel
theorem dX10_laysTable_55 : decode cX10_laysTable 55 = .ok (.iconst 5, 1) := by decide +kernel
theorem dX10_laysTable_56 : decode cX10_laysTable 56 = .ok (.iload_n 1, 1) := by decide +kernel
theorem dX10_laysTable_57 : decode cX10_laysTable 57 = .ok (.iadd, 1) := by decide +kernel
theorem dX10_laysTable_58 : decode cX10_laysTable 58 = .ok (.iload_n 1, 1) := by decide +kernel
theorem dX10_laysTable_59 : decode cX10_laysTable 59 = .ok (.ifCond .ne 7, 3) := by decide +kernel
theorem dX10_laysTable_62 : decode cX10_laysTable 62 = .ok (.iconst 5, 1) := by decide +kernel
theorem dX10_laysTable_63 : decode cX10_laysTable 63 = .ok (.goto 32, 3) := by decide +kernel
theorem dX10_laysTable_95 : decode cX10_laysTable 95 = .ok (.iastore, 1) := by decide +kernel
theorem dX10_laysTable_96 : decode cX10_laysTable 96 = .ok (.aload_n 0, 1) := by decide +kernel
theorem dX10_laysTable_97 : decode cX10_laysTable 97 = .ok (.getfield 28, 3) := by decide +kernel
theorem dX10_laysTable_100 : decode cX10_laysTable 100 = .ok (.bipush 10, 2) := by decide +kernel
theorem dX10_laysTable_102 : decode cX10_laysTable 102 = .ok (.iload_n 1, 1) := by decide +kernel
theorem dX10_laysTable_103 : decode cX10_laysTable 103 = .ok (.iadd, 1) := by decide +kernel
theorem dX10_laysTable_104 : decode cX10_laysTable 104 = .ok (.iload_n 1, 1) := by decide +kernel
theorem dX10_laysTable_105 : decode cX10_laysTable 105 = .ok (.ifCond .ne 9, 3) := by decide +kernel
theorem dX10_laysTable_108 : decode cX10_laysTable 108 = .ok (.sipush 1000, 3) := by decide +kernel
theorem dX10_laysTable_111 : decode cX10_laysTable 111 = .ok (.goto 39, 3) := by decide +kernel
theorem dX10_laysTable_150 : decode cX10_laysTable 150 = .ok (.iastore, 1) := by decide +kernel
theorem dX10_laysTable_151 : decode cX10_laysTable 151 = .ok (.iinc 1 1, 3) := by decide +kernel
theorem dX10_laysTable_154 : decode cX10_laysTable 154 = .ok (.goto (-152), 3) := by decide +kernel
theorem dX10_laysTable_20 : decode cX10_laysTable 20 = .ok (.iload_n 1, 1) := by decide +kernel
theorem dX10_laysTable_21 : decode cX10_laysTable 21 = .ok (.iconst 1, 1) := by decide +kernel
theorem dX10_laysTable_22 : decode cX10_laysTable 22 = .ok (.if_icmp .ne 8, 3) := by decide +kernel
theorem dX10_laysTable_25 : decode cX10_laysTable 25 = .ok (.bipush 12, 2) := by decide +kernel
theorem dX10_laysTable_27 : decode cX10_laysTable 27 = .ok (.goto 23, 3) := by decide +kernel
theorem dX10_laysTable_66 : decode cX10_laysTable 66 = .ok (.iload_n 1, 1) := by decide +kernel
theorem dX10_laysTable_67 : decode cX10_laysTable 67 = .ok (.iconst 1, 1) := by decide +kernel
theorem dX10_laysTable_68 : decode cX10_laysTable 68 = .ok (.if_icmp .ne 8, 3) := by decide +kernel
theorem dX10_laysTable_71 : decode cX10_laysTable 71 = .ok (.bipush 8, 2) := by decide +kernel
theorem dX10_laysTable_73 : decode cX10_laysTable 73 = .ok (.goto 22, 3) := by decide +kernel
theorem dX10_laysTable_114 : decode cX10_laysTable 114 = .ok (.iload_n 1, 1) := by decide +kernel
theorem dX10_laysTable_115 : decode cX10_laysTable 115 = .ok (.iconst 1, 1) := by decide +kernel
theorem dX10_laysTable_116 : decode cX10_laysTable 116 = .ok (.if_icmp .ne 9, 3) := by decide +kernel
theorem dX10_laysTable_119 : decode cX10_laysTable 119 = .ok (.sipush 4000, 3) := by decide +kernel
theorem dX10_laysTable_122 : decode cX10_laysTable 122 = .ok (.goto 28, 3) := by decide +kernel
theorem dX10_laysTable_30 : decode cX10_laysTable 30 = .ok (.iload_n 1, 1) := by decide +kernel
theorem dX10_laysTable_31 : decode cX10_laysTable 31 = .ok (.iconst 2, 1) := by decide +kernel
theorem dX10_laysTable_32 : decode cX10_laysTable 32 = .ok (.if_icmp .ne 7, 3) := by decide +kernel
theorem dX10_laysTable_35 : decode cX10_laysTable 35 = .ok (.iconst 4, 1) := by decide +kernel
theorem dX10_laysTable_36 : decode cX10_laysTable 36 = .ok (.goto 14, 3) := by decide +kernel
theorem dX10_laysTable_76 : decode cX10_laysTable 76 = .ok (.iload_n 1, 1) := by decide +kernel
theorem dX10_laysTable_77 : decode cX10_laysTable 77 = .ok (.iconst 2, 1) := by decide +kernel
theorem dX10_laysTable_78 : decode cX10_laysTable 78 = .ok (.if_icmp .ne 7, 3) := by decide +kernel
theorem dX10_laysTable_81 : decode cX10_laysTable 81 = .ok (.iconst 3, 1) := by decide +kernel
theorem dX10_laysTable_82 : decode cX10_laysTable 82 = .ok (.goto 13, 3) := by decide +kernel
theorem dX10_laysTable_125 : decode cX10_laysTable 125 = .ok (.iload_n 1, 1) := by decide +kernel
theorem dX10_laysTable_126 : decode cX10_laysTable 126 = .ok (.iconst 2, 1) := by decide +kernel
theorem dX10_laysTable_127 : decode cX10_laysTable 127 = .ok (.if_icmp .ne 9, 3) := by decide +kernel
theorem dX10_laysTable_130 : decode cX10_laysTable 130 = .ok (.sipush 6000, 3) := by decide +kernel
theorem dX10_laysTable_133 : decode cX10_laysTable 133 = .ok (.goto 17, 3) := by decide +kernel
theorem dX10_laysTable_39 : decode cX10_laysTable 39 = .ok (.iload_n 1, 1) := by decide +kernel
theorem dX10_laysTable_40 : decode cX10_laysTable 40 = .ok (.iconst 3, 1) := by decide +kernel
theorem dX10_laysTable_41 : decode cX10_laysTable 41 = .ok (.if_icmp .ne 8, 3) := by decide +kernel
theorem dX10_laysTable_44 : decode cX10_laysTable 44 = .ok (.bipush 40, 2) := by decide +kernel
theorem dX10_laysTable_46 : decode cX10_laysTable 46 = .ok (.goto 4, 3) := by decide +kernel
theorem dX10_laysTable_85 : decode cX10_laysTable 85 = .ok (.iload_n 1, 1) := by decide +kernel
theorem dX10_laysTable_86 : decode cX10_laysTable 86 = .ok (.iconst 3, 1) := by decide +kernel
theorem dX10_laysTable_87 : decode cX10_laysTable 87 = .ok (.if_icmp .ne 7, 3) := by decide +kernel
theorem dX10_laysTable_90 : decode cX10_laysTable 90 = .ok (.iconst 2, 1) := by decide +kernel
theorem dX10_laysTable_91 : decode cX10_laysTable 91 = .ok (.goto 4, 3) := by decide +kernel
theorem dX10_laysTable_136 : decode cX10_laysTable 136 = .ok (.iload_n 1, 1) := by decide +kernel
theorem dX10_laysTable_137 : decode cX10_laysTable 137 = .ok (.iconst 3, 1) := by decide +kernel
theorem dX10_laysTable_138 : decode cX10_laysTable 138 = .ok (.if_icmp .ne 9, 3) := by decide +kernel
theorem dX10_laysTable_141 : decode cX10_laysTable 141 = .ok (.sipush 9000, 3) := by decide +kernel
theorem dX10_laysTable_144 : decode cX10_laysTable 144 = .ok (.goto 6, 3) := by decide +kernel
theorem dX10_laysTable_49 : decode cX10_laysTable 49 = .ok (.iconst 1, 1) := by decide +kernel
theorem dX10_laysTable_94 : decode cX10_laysTable 94 = .ok (.iconst 1, 1) := by decide +kernel
theorem dX10_laysTable_147 : decode cX10_laysTable 147 = .ok (.sipush 8000, 3) := by decide +kernel
theorem dX10_laysTable_157 : decode cX10_laysTable 157 = .ok (.return_, 1) := by decide +kernel
theorem dX10_init_0 : decode cX10_init 0 = .ok (.aload_n 0, 1) := by decide +kernel
theorem dX10_init_1 : decode cX10_init 1 = .ok (.invokespecial 3, 3) := by decide +kernel
theorem dX10_init_4 : decode cX10_init 4 = .ok (.aload_n 0, 1) := by decide +kernel
theorem dX10_init_5 : decode cX10_init 5 = .ok (.sipush 29200, 3) := by decide +kernel
theorem dX10_init_8 : decode cX10_init 8 = .ok (.newarray .int, 2) := by decide +kernel
theorem dX10_init_10 : decode cX10_init 10 = .ok (.putfield 9, 3) := by decide +kernel
theorem dX10_init_13 : decode cX10_init 13 = .ok (.aload_n 0, 1) := by decide +kernel
theorem dX10_init_14 : decode cX10_init 14 = .ok (.iconst 4, 1) := by decide +kernel
theorem dX10_init_15 : decode cX10_init 15 = .ok (.newarray .int, 2) := by decide +kernel
theorem dX10_init_17 : decode cX10_init 17 = .ok (.putfield 13, 3) := by decide +kernel
theorem dX10_init_20 : decode cX10_init 20 = .ok (.aload_n 0, 1) := by decide +kernel
theorem dX10_init_21 : decode cX10_init 21 = .ok (.iconst 4, 1) := by decide +kernel
theorem dX10_init_22 : decode cX10_init 22 = .ok (.newarray .int, 2) := by decide +kernel
theorem dX10_init_24 : decode cX10_init 24 = .ok (.putfield 16, 3) := by decide +kernel
theorem dX10_init_27 : decode cX10_init 27 = .ok (.aload_n 0, 1) := by decide +kernel
theorem dX10_init_28 : decode cX10_init 28 = .ok (.bipush 24, 2) := by decide +kernel
theorem dX10_init_30 : decode cX10_init 30 = .ok (.newarray .int, 2) := by decide +kernel
theorem dX10_init_32 : decode cX10_init 32 = .ok (.putfield 19, 3) := by decide +kernel
theorem dX10_init_35 : decode cX10_init 35 = .ok (.aload_n 0, 1) := by decide +kernel
theorem dX10_init_36 : decode cX10_init 36 = .ok (.bipush 24, 2) := by decide +kernel
theorem dX10_init_38 : decode cX10_init 38 = .ok (.newarray .int, 2) := by decide +kernel
theorem dX10_init_40 : decode cX10_init 40 = .ok (.putfield 22, 3) := by decide +kernel
theorem dX10_init_43 : decode cX10_init 43 = .ok (.aload_n 0, 1) := by decide +kernel
theorem dX10_init_44 : decode cX10_init 44 = .ok (.bipush 24, 2) := by decide +kernel
theorem dX10_init_46 : decode cX10_init 46 = .ok (.newarray .int, 2) := by decide +kernel
theorem dX10_init_48 : decode cX10_init 48 = .ok (.putfield 25, 3) := by decide +kernel
theorem dX10_init_51 : decode cX10_init 51 = .ok (.aload_n 0, 1) := by decide +kernel
theorem dX10_init_52 : decode cX10_init 52 = .ok (.bipush 15, 2) := by decide +kernel
theorem dX10_init_54 : decode cX10_init 54 = .ok (.newarray .int, 2) := by decide +kernel
theorem dX10_init_56 : decode cX10_init 56 = .ok (.putfield 28, 3) := by decide +kernel
theorem dX10_init_59 : decode cX10_init 59 = .ok (.aload_n 0, 1) := by decide +kernel
theorem dX10_init_60 : decode cX10_init 60 = .ok (.bipush 16, 2) := by decide +kernel
theorem dX10_init_62 : decode cX10_init 62 = .ok (.newarray .int, 2) := by decide +kernel
theorem dX10_init_64 : decode cX10_init 64 = .ok (.putfield 31, 3) := by decide +kernel
theorem dX10_init_67 : decode cX10_init 67 = .ok (.aload_n 0, 1) := by decide +kernel
theorem dX10_init_68 : decode cX10_init 68 = .ok (.bipush 16, 2) := by decide +kernel
theorem dX10_init_70 : decode cX10_init 70 = .ok (.newarray .int, 2) := by decide +kernel
theorem dX10_init_72 : decode cX10_init 72 = .ok (.putfield 34, 3) := by decide +kernel
theorem dX10_init_75 : decode cX10_init 75 = .ok (.aload_n 0, 1) := by decide +kernel
theorem dX10_init_76 : decode cX10_init 76 = .ok (.bipush 16, 2) := by decide +kernel
theorem dX10_init_78 : decode cX10_init 78 = .ok (.newarray .int, 2) := by decide +kernel
theorem dX10_init_80 : decode cX10_init 80 = .ok (.putfield 37, 3) := by decide +kernel
theorem dX10_init_83 : decode cX10_init 83 = .ok (.aload_n 0, 1) := by decide +kernel
theorem dX10_init_84 : decode cX10_init 84 = .ok (.bipush 6, 2) := by decide +kernel
theorem dX10_init_86 : decode cX10_init 86 = .ok (.newarray .int, 2) := by decide +kernel
theorem dX10_init_88 : decode cX10_init 88 = .ok (.putfield 40, 3) := by decide +kernel
theorem dX10_init_91 : decode cX10_init 91 = .ok (.aload_n 0, 1) := by decide +kernel
theorem dX10_init_92 : decode cX10_init 92 = .ok (.sipush 1080, 3) := by decide +kernel
theorem dX10_init_95 : decode cX10_init 95 = .ok (.newarray .int, 2) := by decide +kernel
theorem dX10_init_97 : decode cX10_init 97 = .ok (.putfield 43, 3) := by decide +kernel
theorem dX10_init_100 : decode cX10_init 100 = .ok (.aload_n 0, 1) := by decide +kernel
theorem dX10_init_101 : decode cX10_init 101 = .ok (.sipush 900, 3) := by decide +kernel
theorem dX10_init_104 : decode cX10_init 104 = .ok (.newarray .int, 2) := by decide +kernel
theorem dX10_init_106 : decode cX10_init 106 = .ok (.putfield 46, 3) := by decide +kernel
theorem dX10_init_109 : decode cX10_init 109 = .ok (.aload_n 0, 1) := by decide +kernel
theorem dX10_init_110 : decode cX10_init 110 = .ok (.iconst (-1), 1) := by decide +kernel
theorem dX10_init_111 : decode cX10_init 111 = .ok (.putfield 49, 3) := by decide +kernel
theorem dX10_init_114 : decode cX10_init 114 = .ok (.aload_n 0, 1) := by decide +kernel
theorem dX10_init_115 : decode cX10_init 115 = .ok (.iconst (-1), 1) := by decide +kernel
theorem dX10_init_116 : decode cX10_init 116 = .ok (.putfield 53, 3) := by decide +kernel
theorem dX10_init_119 : decode cX10_init 119 = .ok (.aload_n 0, 1) := by decide +kernel
theorem dX10_init_120 : decode cX10_init 120 = .ok (.iconst (-1), 1) := by decide +kernel
theorem dX10_init_121 : decode cX10_init 121 = .ok (.putfield 56, 3) := by decide +kernel
theorem dX10_init_124 : decode cX10_init 124 = .ok (.aload_n 0, 1) := by decide +kernel
theorem dX10_init_125 : decode cX10_init 125 = .ok (.bipush 14, 2) := by decide +kernel
theorem dX10_init_127 : decode cX10_init 127 = .ok (.newarray .int, 2) := by decide +kernel
theorem dX10_init_129 : decode cX10_init 129 = .ok (.putfield 59, 3) := by decide +kernel
theorem dX10_init_132 : decode cX10_init 132 = .ok (.aload_n 0, 1) := by decide +kernel
theorem dX10_init_133 : decode cX10_init 133 = .ok (.bipush 12, 2) := by decide +kernel
theorem dX10_init_135 : decode cX10_init 135 = .ok (.newarray .int, 2) := by decide +kernel
theorem dX10_init_137 : decode cX10_init 137 = .ok (.putfield 62, 3) := by decide +kernel
theorem dX10_init_140 : decode cX10_init 140 = .ok (.aload_n 0, 1) := by decide +kernel
theorem dX10_init_141 : decode cX10_init 141 = .ok (.iconst 4, 1) := by decide +kernel
theorem dX10_init_142 : decode cX10_init 142 = .ok (.newarray .int, 2) := by decide +kernel
theorem dX10_init_144 : decode cX10_init 144 = .ok (.putfield 65, 3) := by decide +kernel
theorem dX10_init_147 : decode cX10_init 147 = .ok (.aload_n 0, 1) := by decide +kernel
theorem dX10_init_148 : decode cX10_init 148 = .ok (.iconst 4, 1) := by decide +kernel
theorem dX10_init_149 : decode cX10_init 149 = .ok (.newarray .int, 2) := by decide +kernel
theorem dX10_init_151 : decode cX10_init 151 = .ok (.putfield 68, 3) := by decide +kernel
theorem dX10_init_154 : decode cX10_init 154 = .ok (.aload_n 0, 1) := by decide +kernel
theorem dX10_init_155 : decode cX10_init 155 = .ok (.iconst 4, 1) := by decide +kernel
theorem dX10_init_156 : decode cX10_init 156 = .ok (.newarray .int, 2) := by decide +kernel
theorem dX10_init_158 : decode cX10_init 158 = .ok (.putfield 71, 3) := by decide +kernel
theorem dX10_init_161 : decode cX10_init 161 = .ok (.aload_n 0, 1) := by decide +kernel
theorem dX10_init_162 : decode cX10_init 162 = .ok (.bipush 24, 2) := by decide +kernel
theorem dX10_init_164 : decode cX10_init 164 = .ok (.newarray .int, 2) := by decide +kernel
theorem dX10_init_166 : decode cX10_init 166 = .ok (.putfield 74, 3) := by decide +kernel
theorem dX10_init_169 : decode cX10_init 169 = .ok (.aload_n 0, 1) := by decide +kernel
theorem dX10_init_170 : decode cX10_init 170 = .ok (.bipush 24, 2) := by decide +kernel
theorem dX10_init_172 : decode cX10_init 172 = .ok (.newarray .int, 2) := by decide +kernel
theorem dX10_init_174 : decode cX10_init 174 = .ok (.putfield 77, 3) := by decide +kernel
theorem dX10_init_177 : decode cX10_init 177 = .ok (.aload_n 0, 1) := by decide +kernel
theorem dX10_init_178 : decode cX10_init 178 = .ok (.bipush 24, 2) := by decide +kernel
theorem dX10_init_180 : decode cX10_init 180 = .ok (.newarray .int, 2) := by decide +kernel
theorem dX10_init_182 : decode cX10_init 182 = .ok (.putfield 80, 3) := by decide +kernel
theorem dX10_init_185 : decode cX10_init 185 = .ok (.aload_n 0, 1) := by decide +kernel
theorem dX10_init_186 : decode cX10_init 186 = .ok (.bipush 15, 2) := by decide +kernel
theorem dX10_init_188 : decode cX10_init 188 = .ok (.newarray .int, 2) := by decide +kernel
theorem dX10_init_190 : decode cX10_init 190 = .ok (.putfield 83, 3) := by decide +kernel
theorem dX10_init_193 : decode cX10_init 193 = .ok (.aload_n 0, 1) := by decide +kernel
theorem dX10_init_194 : decode cX10_init 194 = .ok (.sipush 336, 3) := by decide +kernel
theorem dX10_init_197 : decode cX10_init 197 = .ok (.newarray .int, 2) := by decide +kernel
theorem dX10_init_199 : decode cX10_init 199 = .ok (.putfield 86, 3) := by decide +kernel
theorem dX10_init_202 : decode cX10_init 202 = .ok (.aload_n 0, 1) := by decide +kernel
theorem dX10_init_203 : decode cX10_init 203 = .ok (.bipush 64, 2) := by decide +kernel
theorem dX10_init_205 : decode cX10_init 205 = .ok (.newarray .int, 2) := by decide +kernel
theorem dX10_init_207 : decode cX10_init 207 = .ok (.putfield 89, 3) := by decide +kernel
theorem dX10_init_210 : decode cX10_init 210 = .ok (.aload_n 0, 1) := by decide +kernel
theorem dX10_init_211 : decode cX10_init 211 = .ok (.bipush 12, 2) := by decide +kernel
theorem dX10_init_213 : decode cX10_init 213 = .ok (.newarray .int, 2) := by decide +kernel
theorem dX10_init_215 : decode cX10_init 215 = .ok (.putfield 92, 3) := by decide +kernel
theorem dX10_init_218 : decode cX10_init 218 = .ok (.aload_n 0, 1) := by decide +kernel
theorem dX10_init_219 : decode cX10_init 219 = .ok (.bipush 12, 2) := by decide +kernel
theorem dX10_init_221 : decode cX10_init 221 = .ok (.newarray .int, 2) := by decide +kernel
theorem dX10_init_223 : decode cX10_init 223 = .ok (.putfield 95, 3) := by decide +kernel
theorem dX10_init_226 : decode cX10_init 226 = .ok (.aload_n 0, 1) := by decide +kernel
theorem dX10_init_227 : decode cX10_init 227 = .ok (.sipush 169, 3) := by decide +kernel
theorem dX10_init_230 : decode cX10_init 230 = .ok (.newarray .int, 2) := by decide +kernel
theorem dX10_init_232 : decode cX10_init 232 = .ok (.putfield 98, 3) := by decide +kernel
theorem dX10_init_235 : decode cX10_init 235 = .ok (.aload_n 0, 1) := by decide +kernel
theorem dX10_init_236 : decode cX10_init 236 = .ok (.iconst 4, 1) := by decide +kernel
theorem dX10_init_237 : decode cX10_init 237 = .ok (.newarray .int, 2) := by decide +kernel
theorem dX10_init_239 : decode cX10_init 239 = .ok (.putfield 101, 3) := by decide +kernel
theorem dX10_init_242 : decode cX10_init 242 = .ok (.aload_n 0, 1) := by decide +kernel
theorem dX10_init_243 : decode cX10_init 243 = .ok (.sipush 4800, 3) := by decide +kernel
theorem dX10_init_246 : decode cX10_init 246 = .ok (.newarray .int, 2) := by decide +kernel
theorem dX10_init_248 : decode cX10_init 248 = .ok (.putfield 104, 3) := by decide +kernel
theorem dX10_init_251 : decode cX10_init 251 = .ok (.aload_n 0, 1) := by decide +kernel
theorem dX10_init_252 : decode cX10_init 252 = .ok (.invokevirtual 107, 3) := by decide +kernel
theorem dX10_init_255 : decode cX10_init 255 = .ok (.return_, 1) := by decide +kernel
end
section
-- 14.mod.lean.txt
abbrev mF (ad : Nat → Nat) (i : Nat) (F : Nat → Int) : List Value := [.ref (ad (i + 1)), .ref (ad (i + 2)), .ref (ad (i + 3)), .ref (ad (i + 4)), .ref (ad (i + 5)), .ref (ad (i + 6)), .ref (ad (i + 7)), .ref (ad (i + 8)), .ref (ad (i + 9)), .ref (ad (i + 10)), .ref (ad (i + 11)), .ref (ad (i + 12)), .int (zI (F 12)), .int (zI (F 13)), .int (zI (F 14)), .int (zI (F 15)), .int (zI (F 16)), .int (zI (F 17)), .int (zI (F 18)), .int (zI (F 19)), .int (zI (F 20)), .int (zI (F 21)), .ref (ad (i + 13)), .int (zI (F 23)), .int (zI (F 24)), .int (zI (F 25)), .int (zI (F 26)), .int (zI (F 27)), .int (zI (F 28)), .int (zI (F 29)), .ref (ad (i + 14)), .ref (ad (i + 15)), .int (zI (F 32)), .int (zI (F 33)), .int (zI (F 34)), .int (zI (F 35)), .int (zI (F 36)), .int (zI (F 37)), .int (zI (F 38)), .ref (ad (i + 16)), .ref (ad (i + 17)), .ref (ad (i + 18)), .ref (ad (i + 19)), .ref (ad (i + 20)), .ref (ad (i + 21)), .ref (ad (i + 22)), .ref (ad (i + 23)), .int (zI (F 47)), .int (zI (F 48)), .int (zI (F 49)), .ref (ad (i + 24)), .int (zI (F 51)), .ref (ad (i + 25)), .ref (ad (i + 26)), .ref (ad (i + 27)), .int (zI (F 55)), .int (zI (F 56)), .ref (ad (i + 28)), .ref (ad (i + 29)), .int (zI (F 59))]
abbrev mC (ad : Nat → Nat) (i : Nat) (F : Nat → Int) : va_E := oC 12 (mF ad i F)
def mLen (k : Nat) : Nat := [0, 29200, 4, 4, 24, 24, 24, 15, 16, 16, 16, 6, 1080, 900, 14, 12, 4, 4, 4, 24, 24, 24, 15, 336, 64, 12, 12, 169, 4, 4800].getD k 0
def isMod (cs : Nat → ClassId) (ad : Nat → Nat) (g : Nat → va_E) (i : Nat) (F : Nat → Int) (B : Nat → Nat → Int) : Prop := g i = mC ad i F ∧ ∀ k, 1 ≤ k → k ≤ 29 → g (i + k) = iA cs (mLen k) (B k)
theorem isMod.mv {cs : Nat → ClassId} {ad ad' : Nat → Nat} {g g' : Nat → va_E} {i : Nat} {F : Nat → Int} {B : Nat → Nat → Int} (hA : ∀ j, i ≤ j → j < i + 30 → ad' j = ad j) (hG : ∀ j, i ≤ j → j < i + 30 → g' j = g j) (h : isMod cs ad g i F B) : isMod cs ad' g' i F B := by
  obtain ⟨h1, h2⟩ := h
  refine ⟨?_, fun k a b => by rw [hG _ (by omega) (by omega)]; exact h2 k a b⟩
  rw [hG _ (by omega) (by omega), h1]
  show oC 12 (mF ad i F) = oC 12 (mF ad' i F)
  have e : ∀ k, 1 ≤ k → k ≤ 29 → ad (i + k) = ad' (i + k) := fun k a b => (hA _ (by omega) (by omega)).symm
  simp only [mF, e 1 (by decide) (by decide), e 2 (by decide) (by decide), e 3 (by decide) (by decide), e 4 (by decide) (by decide), e 5 (by decide) (by decide), e 6 (by decide) (by decide), e 7 (by decide) (by decide), e 8 (by decide) (by decide), e 9 (by decide) (by decide), e 10 (by decide) (by decide), e 11 (by decide) (by decide), e 12 (by decide) (by decide), e 13 (by decide) (by decide), e 14 (by decide) (by decide), e 15 (by decide) (by decide), e 16 (by decide) (by decide), e 17 (by decide) (by decide), e 18 (by decide) (by decide), e 19 (by decide) (by decide), e 20 (by decide) (by decide), e 21 (by decide) (by decide), e 22 (by decide) (by decide), e 23 (by decide) (by decide), e 24 (by decide) (by decide), e 25 (by decide) (by decide), e 26 (by decide) (by decide), e 27 (by decide) (by decide), e 28 (by decide) (by decide), e 29 (by decide) (by decide)]
set_option maxRecDepth 100000 in
set_option maxHeartbeats 4000000 in
theorem c_X10_laysTable (l : Launch) (D : va_G) (A : Nat → Prop) (cs : Nat → ClassId) (tt : Nat) (N : Nat) (ad : Nat → Nat) (g : Nat → va_E) (i : Nat) (F r : Nat → Int) (hi : i + 7 < N) (hg : g i = mC ad i F) (ht : g (i + 7) = iA cs 15 r) : zM l yX10_laysTable cX10_laysTable 2 none ({ frames := 1, cells := 0, slots := 0, locals := 60 } : Room) D A cs tt N ad g [.ref (ad i)] (rV0 N ad fun g' => (∀ j, j ≠ i + 7 → g' j = g j) ∧ ∃ r' : Nat → Int, g' (i + 7) = iA cs 15 r' ∧ ∀ k, k < 15 → r' k = tabZ k) := by
  have hai : zAt ad i (ad i) := rfl
  have hat : zAt ad (i + 7) (ad (i + 7)) := rfl
  refine z_of (by decide) (Nat.le_of_ble_eq_true rfl) ?_
  intro p e s m below meth c C hr hlk hnm
  refine z_lv (lv' := [(0, .ref (ad i))]) [0] rfl ?_
  refine z_iconst (z := 0) C dX10_laysTable_0 rfl ?_
  refine z_istore_n (lv' := [(1, .int (zI (0))), (0, .ref (ad i))]) C dX10_laysTable_1 rfl (by decide) rfl ?_
  refine z_iload_n C 0 dX10_laysTable_2 rfl ?_
  refine z_iconst (z := 5) C dX10_laysTable_3 rfl ?_
  refine z_icmp_ge (tgt := 157) C dX10_laysTable_4 (by decide) (by omega) (by omega) (fun h => absurd h (by omega)) (fun _ => ?_)
  refine z_aload_n C 1 dX10_laysTable_7 rfl ?_
  refine z_get (v := .ref (ad (i + 7))) C (by omega) hai hg rfl inA_X10 6 (by decide) q_1465 rfl rfl dX10_laysTable_8 ?_
  refine z_iload_n C 0 dX10_laysTable_11 rfl ?_
  refine z_iload_n C 0 dX10_laysTable_12 rfl ?_
  refine z_if_ne (tgt := 20) C dX10_laysTable_13 (by decide) (by omega) (fun h => absurd h (by omega)) (fun _ => ?_)
  refine z_iconst (z := 3) C dX10_laysTable_16 rfl ?_
  refine z_goto (tgt := 50) C dX10_laysTable_17 (by decide) ?_
  refine z_iast C (by omega) hat ht (0) (by omega) (by omega) (by decide) dX10_laysTable_50 (fun g1 eg2 => ?_)
  have hg3 := up_s eg2
  refine z_aload_n C 1 dX10_laysTable_51 rfl ?_
  have hg4 := up_n eg2 hg (ne_o (i := i) (c := 0) (d := 7) rfl)
  refine z_get (v := .ref (ad (i + 7))) C (by omega) hai hg4 rfl inA_X10 6 (by decide) q_1465 rfl rfl dX10_laysTable_52 ?_
  refine z_iconst (z := 5) C dX10_laysTable_55 rfl ?_
  refine z_iload_n C 0 dX10_laysTable_56 rfl ?_
  refine z_iadd C dX10_laysTable_57 ?_
  refine z_iload_n C 0 dX10_laysTable_58 rfl ?_
  refine z_if_ne (tgt := 66) C dX10_laysTable_59 (by decide) (by omega) (fun h => absurd h (by omega)) (fun _ => ?_)
  refine z_iconst (z := 5) C dX10_laysTable_62 rfl ?_
  refine z_goto (tgt := 95) C dX10_laysTable_63 (by decide) ?_
  refine z_iast C (by omega) hat hg3 (5) (by omega) (by omega) (by decide) dX10_laysTable_95 (fun g5 eg6 => ?_)
  have hg7 := up_s eg6
  refine z_aload_n C 1 dX10_laysTable_96 rfl ?_
  have hg8 := up_n eg6 hg4 (ne_o (i := i) (c := 0) (d := 7) rfl)
  refine z_get (v := .ref (ad (i + 7))) C (by omega) hai hg8 rfl inA_X10 6 (by decide) q_1465 rfl rfl dX10_laysTable_97 ?_
  refine z_bipush (z := 10) C dX10_laysTable_100 (by decide) ?_
  refine z_iload_n C 0 dX10_laysTable_102 rfl ?_
  refine z_iadd C dX10_laysTable_103 ?_
  refine z_iload_n C 0 dX10_laysTable_104 rfl ?_
  refine z_if_ne (tgt := 114) C dX10_laysTable_105 (by decide) (by omega) (fun h => absurd h (by omega)) (fun _ => ?_)
  refine z_sipush (z := 1000) C dX10_laysTable_108 (by decide) ?_
  refine z_goto (tgt := 150) C dX10_laysTable_111 (by decide) ?_
  refine z_iast C (by omega) hat hg7 (10) (by omega) (by omega) (by decide) dX10_laysTable_150 (fun g9 eg10 => ?_)
  have hg11 := up_s eg10
  refine z_iinc (z := 1) (lv' := [(1, .int (zI (1))), (0, .ref (ad i))]) (j := 0) C dX10_laysTable_151 rfl (congrArg zI (by omega)) (by decide) rfl ?_
  refine z_goto (tgt := 2) C dX10_laysTable_154 (by decide) ?_
  refine z_iload_n C 0 dX10_laysTable_2 rfl ?_
  refine z_iconst (z := 5) C dX10_laysTable_3 rfl ?_
  refine z_icmp_ge (tgt := 157) C dX10_laysTable_4 (by decide) (by omega) (by omega) (fun h => absurd h (by omega)) (fun _ => ?_)
  refine z_aload_n C 1 dX10_laysTable_7 rfl ?_
  have hg12 := up_n eg10 hg8 (ne_o (i := i) (c := 0) (d := 7) rfl)
  refine z_get (v := .ref (ad (i + 7))) C (by omega) hai hg12 rfl inA_X10 6 (by decide) q_1465 rfl rfl dX10_laysTable_8 ?_
  refine z_iload_n C 0 dX10_laysTable_11 rfl ?_
  refine z_iload_n C 0 dX10_laysTable_12 rfl ?_
  refine z_if_ne (tgt := 20) C dX10_laysTable_13 (by decide) (by omega) (fun _ => ?_) (fun h => absurd h (by omega))
  refine z_iload_n C 0 dX10_laysTable_20 rfl ?_
  refine z_iconst (z := 1) C dX10_laysTable_21 rfl ?_
  refine z_icmp_ne (tgt := 30) C dX10_laysTable_22 (by decide) (by omega) (by omega) (fun h => absurd h (by omega)) (fun _ => ?_)
  refine z_bipush (z := 12) C dX10_laysTable_25 (by decide) ?_
  refine z_goto (tgt := 50) C dX10_laysTable_27 (by decide) ?_
  refine z_iast C (by omega) hat hg11 (1) (by omega) (by omega) (by decide) dX10_laysTable_50 (fun g13 eg14 => ?_)
  have hg15 := up_s eg14
  refine z_aload_n C 1 dX10_laysTable_51 rfl ?_
  have hg16 := up_n eg14 hg12 (ne_o (i := i) (c := 0) (d := 7) rfl)
  refine z_get (v := .ref (ad (i + 7))) C (by omega) hai hg16 rfl inA_X10 6 (by decide) q_1465 rfl rfl dX10_laysTable_52 ?_
  refine z_iconst (z := 5) C dX10_laysTable_55 rfl ?_
  refine z_iload_n C 0 dX10_laysTable_56 rfl ?_
  refine z_iadd C dX10_laysTable_57 ?_
  refine z_iload_n C 0 dX10_laysTable_58 rfl ?_
  refine z_if_ne (tgt := 66) C dX10_laysTable_59 (by decide) (by omega) (fun _ => ?_) (fun h => absurd h (by omega))
  refine z_iload_n C 0 dX10_laysTable_66 rfl ?_
  refine z_iconst (z := 1) C dX10_laysTable_67 rfl ?_
  refine z_icmp_ne (tgt := 76) C dX10_laysTable_68 (by decide) (by omega) (by omega) (fun h => absurd h (by omega)) (fun _ => ?_)
  refine z_bipush (z := 8) C dX10_laysTable_71 (by decide) ?_
  refine z_goto (tgt := 95) C dX10_laysTable_73 (by decide) ?_
  refine z_iast C (by omega) hat hg15 (6) (by omega) (by omega) (by decide) dX10_laysTable_95 (fun g17 eg18 => ?_)
  have hg19 := up_s eg18
  refine z_aload_n C 1 dX10_laysTable_96 rfl ?_
  have hg20 := up_n eg18 hg16 (ne_o (i := i) (c := 0) (d := 7) rfl)
  refine z_get (v := .ref (ad (i + 7))) C (by omega) hai hg20 rfl inA_X10 6 (by decide) q_1465 rfl rfl dX10_laysTable_97 ?_
  refine z_bipush (z := 10) C dX10_laysTable_100 (by decide) ?_
  refine z_iload_n C 0 dX10_laysTable_102 rfl ?_
  refine z_iadd C dX10_laysTable_103 ?_
  refine z_iload_n C 0 dX10_laysTable_104 rfl ?_
  refine z_if_ne (tgt := 114) C dX10_laysTable_105 (by decide) (by omega) (fun _ => ?_) (fun h => absurd h (by omega))
  refine z_iload_n C 0 dX10_laysTable_114 rfl ?_
  refine z_iconst (z := 1) C dX10_laysTable_115 rfl ?_
  refine z_icmp_ne (tgt := 125) C dX10_laysTable_116 (by decide) (by omega) (by omega) (fun h => absurd h (by omega)) (fun _ => ?_)
  refine z_sipush (z := 4000) C dX10_laysTable_119 (by decide) ?_
  refine z_goto (tgt := 150) C dX10_laysTable_122 (by decide) ?_
  refine z_iast C (by omega) hat hg19 (11) (by omega) (by omega) (by decide) dX10_laysTable_150 (fun g21 eg22 => ?_)
  have hg23 := up_s eg22
  refine z_iinc (z := 2) (lv' := [(1, .int (zI (2))), (0, .ref (ad i))]) (j := 0) C dX10_laysTable_151 rfl (congrArg zI (by omega)) (by decide) rfl ?_
  refine z_goto (tgt := 2) C dX10_laysTable_154 (by decide) ?_
  refine z_iload_n C 0 dX10_laysTable_2 rfl ?_
  refine z_iconst (z := 5) C dX10_laysTable_3 rfl ?_
  refine z_icmp_ge (tgt := 157) C dX10_laysTable_4 (by decide) (by omega) (by omega) (fun h => absurd h (by omega)) (fun _ => ?_)
  refine z_aload_n C 1 dX10_laysTable_7 rfl ?_
  have hg24 := up_n eg22 hg20 (ne_o (i := i) (c := 0) (d := 7) rfl)
  refine z_get (v := .ref (ad (i + 7))) C (by omega) hai hg24 rfl inA_X10 6 (by decide) q_1465 rfl rfl dX10_laysTable_8 ?_
  refine z_iload_n C 0 dX10_laysTable_11 rfl ?_
  refine z_iload_n C 0 dX10_laysTable_12 rfl ?_
  refine z_if_ne (tgt := 20) C dX10_laysTable_13 (by decide) (by omega) (fun _ => ?_) (fun h => absurd h (by omega))
  refine z_iload_n C 0 dX10_laysTable_20 rfl ?_
  refine z_iconst (z := 1) C dX10_laysTable_21 rfl ?_
  refine z_icmp_ne (tgt := 30) C dX10_laysTable_22 (by decide) (by omega) (by omega) (fun _ => ?_) (fun h => absurd h (by omega))
  refine z_iload_n C 0 dX10_laysTable_30 rfl ?_
  refine z_iconst (z := 2) C dX10_laysTable_31 rfl ?_
  refine z_icmp_ne (tgt := 39) C dX10_laysTable_32 (by decide) (by omega) (by omega) (fun h => absurd h (by omega)) (fun _ => ?_)
  refine z_iconst (z := 4) C dX10_laysTable_35 rfl ?_
  refine z_goto (tgt := 50) C dX10_laysTable_36 (by decide) ?_
  refine z_iast C (by omega) hat hg23 (2) (by omega) (by omega) (by decide) dX10_laysTable_50 (fun g25 eg26 => ?_)
  have hg27 := up_s eg26
  refine z_aload_n C 1 dX10_laysTable_51 rfl ?_
  have hg28 := up_n eg26 hg24 (ne_o (i := i) (c := 0) (d := 7) rfl)
  refine z_get (v := .ref (ad (i + 7))) C (by omega) hai hg28 rfl inA_X10 6 (by decide) q_1465 rfl rfl dX10_laysTable_52 ?_
  refine z_iconst (z := 5) C dX10_laysTable_55 rfl ?_
  refine z_iload_n C 0 dX10_laysTable_56 rfl ?_
  refine z_iadd C dX10_laysTable_57 ?_
  refine z_iload_n C 0 dX10_laysTable_58 rfl ?_
  refine z_if_ne (tgt := 66) C dX10_laysTable_59 (by decide) (by omega) (fun _ => ?_) (fun h => absurd h (by omega))
  refine z_iload_n C 0 dX10_laysTable_66 rfl ?_
  refine z_iconst (z := 1) C dX10_laysTable_67 rfl ?_
  refine z_icmp_ne (tgt := 76) C dX10_laysTable_68 (by decide) (by omega) (by omega) (fun _ => ?_) (fun h => absurd h (by omega))
  refine z_iload_n C 0 dX10_laysTable_76 rfl ?_
  refine z_iconst (z := 2) C dX10_laysTable_77 rfl ?_
  refine z_icmp_ne (tgt := 85) C dX10_laysTable_78 (by decide) (by omega) (by omega) (fun h => absurd h (by omega)) (fun _ => ?_)
  refine z_iconst (z := 3) C dX10_laysTable_81 rfl ?_
  refine z_goto (tgt := 95) C dX10_laysTable_82 (by decide) ?_
  refine z_iast C (by omega) hat hg27 (7) (by omega) (by omega) (by decide) dX10_laysTable_95 (fun g29 eg30 => ?_)
  have hg31 := up_s eg30
  refine z_aload_n C 1 dX10_laysTable_96 rfl ?_
  have hg32 := up_n eg30 hg28 (ne_o (i := i) (c := 0) (d := 7) rfl)
  refine z_get (v := .ref (ad (i + 7))) C (by omega) hai hg32 rfl inA_X10 6 (by decide) q_1465 rfl rfl dX10_laysTable_97 ?_
  refine z_bipush (z := 10) C dX10_laysTable_100 (by decide) ?_
  refine z_iload_n C 0 dX10_laysTable_102 rfl ?_
  refine z_iadd C dX10_laysTable_103 ?_
  refine z_iload_n C 0 dX10_laysTable_104 rfl ?_
  refine z_if_ne (tgt := 114) C dX10_laysTable_105 (by decide) (by omega) (fun _ => ?_) (fun h => absurd h (by omega))
  refine z_iload_n C 0 dX10_laysTable_114 rfl ?_
  refine z_iconst (z := 1) C dX10_laysTable_115 rfl ?_
  refine z_icmp_ne (tgt := 125) C dX10_laysTable_116 (by decide) (by omega) (by omega) (fun _ => ?_) (fun h => absurd h (by omega))
  refine z_iload_n C 0 dX10_laysTable_125 rfl ?_
  refine z_iconst (z := 2) C dX10_laysTable_126 rfl ?_
  refine z_icmp_ne (tgt := 136) C dX10_laysTable_127 (by decide) (by omega) (by omega) (fun h => absurd h (by omega)) (fun _ => ?_)
  refine z_sipush (z := 6000) C dX10_laysTable_130 (by decide) ?_
  refine z_goto (tgt := 150) C dX10_laysTable_133 (by decide) ?_
  refine z_iast C (by omega) hat hg31 (12) (by omega) (by omega) (by decide) dX10_laysTable_150 (fun g33 eg34 => ?_)
  have hg35 := up_s eg34
  refine z_iinc (z := 3) (lv' := [(1, .int (zI (3))), (0, .ref (ad i))]) (j := 0) C dX10_laysTable_151 rfl (congrArg zI (by omega)) (by decide) rfl ?_
  refine z_goto (tgt := 2) C dX10_laysTable_154 (by decide) ?_
  refine z_iload_n C 0 dX10_laysTable_2 rfl ?_
  refine z_iconst (z := 5) C dX10_laysTable_3 rfl ?_
  refine z_icmp_ge (tgt := 157) C dX10_laysTable_4 (by decide) (by omega) (by omega) (fun h => absurd h (by omega)) (fun _ => ?_)
  refine z_aload_n C 1 dX10_laysTable_7 rfl ?_
  have hg36 := up_n eg34 hg32 (ne_o (i := i) (c := 0) (d := 7) rfl)
  refine z_get (v := .ref (ad (i + 7))) C (by omega) hai hg36 rfl inA_X10 6 (by decide) q_1465 rfl rfl dX10_laysTable_8 ?_
  refine z_iload_n C 0 dX10_laysTable_11 rfl ?_
  refine z_iload_n C 0 dX10_laysTable_12 rfl ?_
  refine z_if_ne (tgt := 20) C dX10_laysTable_13 (by decide) (by omega) (fun _ => ?_) (fun h => absurd h (by omega))
  refine z_iload_n C 0 dX10_laysTable_20 rfl ?_
  refine z_iconst (z := 1) C dX10_laysTable_21 rfl ?_
  refine z_icmp_ne (tgt := 30) C dX10_laysTable_22 (by decide) (by omega) (by omega) (fun _ => ?_) (fun h => absurd h (by omega))
  refine z_iload_n C 0 dX10_laysTable_30 rfl ?_
  refine z_iconst (z := 2) C dX10_laysTable_31 rfl ?_
  refine z_icmp_ne (tgt := 39) C dX10_laysTable_32 (by decide) (by omega) (by omega) (fun _ => ?_) (fun h => absurd h (by omega))
  refine z_iload_n C 0 dX10_laysTable_39 rfl ?_
  refine z_iconst (z := 3) C dX10_laysTable_40 rfl ?_
  refine z_icmp_ne (tgt := 49) C dX10_laysTable_41 (by decide) (by omega) (by omega) (fun h => absurd h (by omega)) (fun _ => ?_)
  refine z_bipush (z := 40) C dX10_laysTable_44 (by decide) ?_
  refine z_goto (tgt := 50) C dX10_laysTable_46 (by decide) ?_
  refine z_iast C (by omega) hat hg35 (3) (by omega) (by omega) (by decide) dX10_laysTable_50 (fun g37 eg38 => ?_)
  have hg39 := up_s eg38
  refine z_aload_n C 1 dX10_laysTable_51 rfl ?_
  have hg40 := up_n eg38 hg36 (ne_o (i := i) (c := 0) (d := 7) rfl)
  refine z_get (v := .ref (ad (i + 7))) C (by omega) hai hg40 rfl inA_X10 6 (by decide) q_1465 rfl rfl dX10_laysTable_52 ?_
  refine z_iconst (z := 5) C dX10_laysTable_55 rfl ?_
  refine z_iload_n C 0 dX10_laysTable_56 rfl ?_
  refine z_iadd C dX10_laysTable_57 ?_
  refine z_iload_n C 0 dX10_laysTable_58 rfl ?_
  refine z_if_ne (tgt := 66) C dX10_laysTable_59 (by decide) (by omega) (fun _ => ?_) (fun h => absurd h (by omega))
  refine z_iload_n C 0 dX10_laysTable_66 rfl ?_
  refine z_iconst (z := 1) C dX10_laysTable_67 rfl ?_
  refine z_icmp_ne (tgt := 76) C dX10_laysTable_68 (by decide) (by omega) (by omega) (fun _ => ?_) (fun h => absurd h (by omega))
  refine z_iload_n C 0 dX10_laysTable_76 rfl ?_
  refine z_iconst (z := 2) C dX10_laysTable_77 rfl ?_
  refine z_icmp_ne (tgt := 85) C dX10_laysTable_78 (by decide) (by omega) (by omega) (fun _ => ?_) (fun h => absurd h (by omega))
  refine z_iload_n C 0 dX10_laysTable_85 rfl ?_
  refine z_iconst (z := 3) C dX10_laysTable_86 rfl ?_
  refine z_icmp_ne (tgt := 94) C dX10_laysTable_87 (by decide) (by omega) (by omega) (fun h => absurd h (by omega)) (fun _ => ?_)
  refine z_iconst (z := 2) C dX10_laysTable_90 rfl ?_
  refine z_goto (tgt := 95) C dX10_laysTable_91 (by decide) ?_
  refine z_iast C (by omega) hat hg39 (8) (by omega) (by omega) (by decide) dX10_laysTable_95 (fun g41 eg42 => ?_)
  have hg43 := up_s eg42
  refine z_aload_n C 1 dX10_laysTable_96 rfl ?_
  have hg44 := up_n eg42 hg40 (ne_o (i := i) (c := 0) (d := 7) rfl)
  refine z_get (v := .ref (ad (i + 7))) C (by omega) hai hg44 rfl inA_X10 6 (by decide) q_1465 rfl rfl dX10_laysTable_97 ?_
  refine z_bipush (z := 10) C dX10_laysTable_100 (by decide) ?_
  refine z_iload_n C 0 dX10_laysTable_102 rfl ?_
  refine z_iadd C dX10_laysTable_103 ?_
  refine z_iload_n C 0 dX10_laysTable_104 rfl ?_
  refine z_if_ne (tgt := 114) C dX10_laysTable_105 (by decide) (by omega) (fun _ => ?_) (fun h => absurd h (by omega))
  refine z_iload_n C 0 dX10_laysTable_114 rfl ?_
  refine z_iconst (z := 1) C dX10_laysTable_115 rfl ?_
  refine z_icmp_ne (tgt := 125) C dX10_laysTable_116 (by decide) (by omega) (by omega) (fun _ => ?_) (fun h => absurd h (by omega))
  refine z_iload_n C 0 dX10_laysTable_125 rfl ?_
  refine z_iconst (z := 2) C dX10_laysTable_126 rfl ?_
  refine z_icmp_ne (tgt := 136) C dX10_laysTable_127 (by decide) (by omega) (by omega) (fun _ => ?_) (fun h => absurd h (by omega))
  refine z_iload_n C 0 dX10_laysTable_136 rfl ?_
  refine z_iconst (z := 3) C dX10_laysTable_137 rfl ?_
  refine z_icmp_ne (tgt := 147) C dX10_laysTable_138 (by decide) (by omega) (by omega) (fun h => absurd h (by omega)) (fun _ => ?_)
  refine z_sipush (z := 9000) C dX10_laysTable_141 (by decide) ?_
  refine z_goto (tgt := 150) C dX10_laysTable_144 (by decide) ?_
  refine z_iast C (by omega) hat hg43 (13) (by omega) (by omega) (by decide) dX10_laysTable_150 (fun g45 eg46 => ?_)
  have hg47 := up_s eg46
  refine z_iinc (z := 4) (lv' := [(1, .int (zI (4))), (0, .ref (ad i))]) (j := 0) C dX10_laysTable_151 rfl (congrArg zI (by omega)) (by decide) rfl ?_
  refine z_goto (tgt := 2) C dX10_laysTable_154 (by decide) ?_
  refine z_iload_n C 0 dX10_laysTable_2 rfl ?_
  refine z_iconst (z := 5) C dX10_laysTable_3 rfl ?_
  refine z_icmp_ge (tgt := 157) C dX10_laysTable_4 (by decide) (by omega) (by omega) (fun h => absurd h (by omega)) (fun _ => ?_)
  refine z_aload_n C 1 dX10_laysTable_7 rfl ?_
  have hg48 := up_n eg46 hg44 (ne_o (i := i) (c := 0) (d := 7) rfl)
  refine z_get (v := .ref (ad (i + 7))) C (by omega) hai hg48 rfl inA_X10 6 (by decide) q_1465 rfl rfl dX10_laysTable_8 ?_
  refine z_iload_n C 0 dX10_laysTable_11 rfl ?_
  refine z_iload_n C 0 dX10_laysTable_12 rfl ?_
  refine z_if_ne (tgt := 20) C dX10_laysTable_13 (by decide) (by omega) (fun _ => ?_) (fun h => absurd h (by omega))
  refine z_iload_n C 0 dX10_laysTable_20 rfl ?_
  refine z_iconst (z := 1) C dX10_laysTable_21 rfl ?_
  refine z_icmp_ne (tgt := 30) C dX10_laysTable_22 (by decide) (by omega) (by omega) (fun _ => ?_) (fun h => absurd h (by omega))
  refine z_iload_n C 0 dX10_laysTable_30 rfl ?_
  refine z_iconst (z := 2) C dX10_laysTable_31 rfl ?_
  refine z_icmp_ne (tgt := 39) C dX10_laysTable_32 (by decide) (by omega) (by omega) (fun _ => ?_) (fun h => absurd h (by omega))
  refine z_iload_n C 0 dX10_laysTable_39 rfl ?_
  refine z_iconst (z := 3) C dX10_laysTable_40 rfl ?_
  refine z_icmp_ne (tgt := 49) C dX10_laysTable_41 (by decide) (by omega) (by omega) (fun _ => ?_) (fun h => absurd h (by omega))
  refine z_iconst (z := 1) C dX10_laysTable_49 rfl ?_
  refine z_iast C (by omega) hat hg47 (4) (by omega) (by omega) (by decide) dX10_laysTable_50 (fun g49 eg50 => ?_)
  have hg51 := up_s eg50
  refine z_aload_n C 1 dX10_laysTable_51 rfl ?_
  have hg52 := up_n eg50 hg48 (ne_o (i := i) (c := 0) (d := 7) rfl)
  refine z_get (v := .ref (ad (i + 7))) C (by omega) hai hg52 rfl inA_X10 6 (by decide) q_1465 rfl rfl dX10_laysTable_52 ?_
  refine z_iconst (z := 5) C dX10_laysTable_55 rfl ?_
  refine z_iload_n C 0 dX10_laysTable_56 rfl ?_
  refine z_iadd C dX10_laysTable_57 ?_
  refine z_iload_n C 0 dX10_laysTable_58 rfl ?_
  refine z_if_ne (tgt := 66) C dX10_laysTable_59 (by decide) (by omega) (fun _ => ?_) (fun h => absurd h (by omega))
  refine z_iload_n C 0 dX10_laysTable_66 rfl ?_
  refine z_iconst (z := 1) C dX10_laysTable_67 rfl ?_
  refine z_icmp_ne (tgt := 76) C dX10_laysTable_68 (by decide) (by omega) (by omega) (fun _ => ?_) (fun h => absurd h (by omega))
  refine z_iload_n C 0 dX10_laysTable_76 rfl ?_
  refine z_iconst (z := 2) C dX10_laysTable_77 rfl ?_
  refine z_icmp_ne (tgt := 85) C dX10_laysTable_78 (by decide) (by omega) (by omega) (fun _ => ?_) (fun h => absurd h (by omega))
  refine z_iload_n C 0 dX10_laysTable_85 rfl ?_
  refine z_iconst (z := 3) C dX10_laysTable_86 rfl ?_
  refine z_icmp_ne (tgt := 94) C dX10_laysTable_87 (by decide) (by omega) (by omega) (fun _ => ?_) (fun h => absurd h (by omega))
  refine z_iconst (z := 1) C dX10_laysTable_94 rfl ?_
  refine z_iast C (by omega) hat hg51 (9) (by omega) (by omega) (by decide) dX10_laysTable_95 (fun g53 eg54 => ?_)
  have hg55 := up_s eg54
  refine z_aload_n C 1 dX10_laysTable_96 rfl ?_
  have hg56 := up_n eg54 hg52 (ne_o (i := i) (c := 0) (d := 7) rfl)
  refine z_get (v := .ref (ad (i + 7))) C (by omega) hai hg56 rfl inA_X10 6 (by decide) q_1465 rfl rfl dX10_laysTable_97 ?_
  refine z_bipush (z := 10) C dX10_laysTable_100 (by decide) ?_
  refine z_iload_n C 0 dX10_laysTable_102 rfl ?_
  refine z_iadd C dX10_laysTable_103 ?_
  refine z_iload_n C 0 dX10_laysTable_104 rfl ?_
  refine z_if_ne (tgt := 114) C dX10_laysTable_105 (by decide) (by omega) (fun _ => ?_) (fun h => absurd h (by omega))
  refine z_iload_n C 0 dX10_laysTable_114 rfl ?_
  refine z_iconst (z := 1) C dX10_laysTable_115 rfl ?_
  refine z_icmp_ne (tgt := 125) C dX10_laysTable_116 (by decide) (by omega) (by omega) (fun _ => ?_) (fun h => absurd h (by omega))
  refine z_iload_n C 0 dX10_laysTable_125 rfl ?_
  refine z_iconst (z := 2) C dX10_laysTable_126 rfl ?_
  refine z_icmp_ne (tgt := 136) C dX10_laysTable_127 (by decide) (by omega) (by omega) (fun _ => ?_) (fun h => absurd h (by omega))
  refine z_iload_n C 0 dX10_laysTable_136 rfl ?_
  refine z_iconst (z := 3) C dX10_laysTable_137 rfl ?_
  refine z_icmp_ne (tgt := 147) C dX10_laysTable_138 (by decide) (by omega) (by omega) (fun _ => ?_) (fun h => absurd h (by omega))
  refine z_sipush (z := 8000) C dX10_laysTable_147 (by decide) ?_
  refine z_iast C (by omega) hat hg55 (14) (by omega) (by omega) (by decide) dX10_laysTable_150 (fun g57 eg58 => ?_)
  have hg59 := up_s eg58
  refine z_iinc (z := 5) (lv' := [(1, .int (zI (5))), (0, .ref (ad i))]) (j := 0) C dX10_laysTable_151 rfl (congrArg zI (by omega)) (by decide) rfl ?_
  refine z_goto (tgt := 2) C dX10_laysTable_154 (by decide) ?_
  refine z_iload_n C 0 dX10_laysTable_2 rfl ?_
  refine z_iconst (z := 5) C dX10_laysTable_3 rfl ?_
  refine z_icmp_ge (tgt := 157) C dX10_laysTable_4 (by decide) (by omega) (by omega) (fun _ => ?_) (fun h => absurd h (by omega))
  have hk15 : ∀ k, k < 15 → (uZ (uZ (uZ (uZ (uZ (uZ (uZ (uZ (uZ (uZ (uZ (uZ (uZ (uZ (uZ (r) (0) (3)) (5) (5)) (10) (1000)) (1) (12)) (6) (8)) (11) (4000)) (2) (4)) (7) (3)) (12) (6000)) (3) (40)) (8) (2)) (13) (9000)) (4) (1)) (9) (1)) (14) (8000)) k = tabZ k := by
    intro k hk
    rcases (show k = 0 ∨ k = 1 ∨ k = 2 ∨ k = 3 ∨ k = 4 ∨ k = 5 ∨ k = 6 ∨ k = 7 ∨ k = 8 ∨ k = 9 ∨ k = 10 ∨ k = 11 ∨ k = 12 ∨ k = 13 ∨ k = 14 by omega) with rfl | rfl | rfl | rfl | rfl | rfl | rfl | rfl | rfl | rfl | rfl | rfl | rfl | rfl | rfl <;> rfl
  exact z_vret C hr hlk dX10_laysTable_157 (by decide) (by decide) (⟨rfl, rfl, rfl, fun j h1 => by rw [eg58, va_up_ne _ _ (by omega)]; rw [eg54, va_up_ne _ _ (by omega)]; rw [eg50, va_up_ne _ _ (by omega)]; rw [eg46, va_up_ne _ _ (by omega)]; rw [eg42, va_up_ne _ _ (by omega)]; rw [eg38, va_up_ne _ _ (by omega)]; rw [eg34, va_up_ne _ _ (by omega)]; rw [eg30, va_up_ne _ _ (by omega)]; rw [eg26, va_up_ne _ _ (by omega)]; rw [eg22, va_up_ne _ _ (by omega)]; rw [eg18, va_up_ne _ _ (by omega)]; rw [eg14, va_up_ne _ _ (by omega)]; rw [eg10, va_up_ne _ _ (by omega)]; rw [eg6, va_up_ne _ _ (by omega)]; rw [eg2, va_up_ne _ _ (by omega)], _, hg59, hk15⟩)

set_option maxRecDepth 100000 in
set_option maxHeartbeats 4000000 in
theorem c_X10_init (l : Launch) (D : va_G) (A : Nat → Prop) (cs : Nat → ClassId) (tt : Nat) (ad : Nat → Nat) (g : Nat → va_E) (i a : Nat) (ha : ad i = a) (hg : g i = oC 12 [.null, .null, .null, .null, .null, .null, .null, .null, .null, .null, .null, .null, .int (zI (0)), .int (zI (0)), .int (zI (0)), .int (zI (0)), .int (zI (0)), .int (zI (0)), .int (zI (0)), .int (zI (0)), .int (zI (0)), .int (zI (0)), .null, .int (zI (0)), .int (zI (0)), .int (zI (0)), .int (zI (0)), .int (zI (0)), .int (zI (0)), .int (zI (0)), .null, .null, .int (zI (0)), .int (zI (0)), .int (zI (0)), .int (zI (0)), .int (zI (0)), .int (zI (0)), .int (zI (0)), .null, .null, .null, .null, .null, .null, .null, .null, .int (zI (0)), .int (zI (0)), .int (zI (0)), .null, .int (zI (0)), .null, .null, .null, .int (zI (0)), .int (zI (0)), .null, .null, .int (zI (0))]) : zM l yX10_init cX10_init 1 none ({ frames := 2, cells := 29, slots := 36851, locals := 120 } : Room) D A cs tt (i + 1) ad g [.ref a] (rV fun N' ad' g' => N' = i + 30 ∧ (∀ j, j < i + 1 → ad' j = ad j) ∧ (∀ j, j < i + 1 → j ≠ i → g' j = g j) ∧ ∃ B : Nat → Nat → Int, isMod cs ad' g' i (fun k => if k = 24 ∨ k = 26 ∨ k = 27 then -1 else 0) B ∧ (∀ k, k < 15 → B 7 k = tabZ k) ∧ ∀ k, k ≠ 7 → ∀ j, B k j = 0) := by
  refine z_of (by decide) (Nat.le_of_ble_eq_true rfl) ?_
  intro p e s m below meth c C hr hlk hnm
  refine z_lv (lv' := [(0, .ref a)]) [0] rfl ?_
  refine z_aload_n C 0 dX10_init_0 rfl ?_
  refine z_objInit C q_1454 q_35 q_36 dX10_init_1 (Nat.le_of_ble_eq_true rfl) (Nat.le_of_ble_eq_true rfl) ?_
  refine z_aload_n C 0 dX10_init_4 rfl ?_
  refine z_sipush (z := 29200) C dX10_init_5 (by decide) ?_
  refine z_newI C 29200 rfl q_134 (by decide) (by decide) (by decide) dX10_init_8 (fun q1 ad2 g3 ea4 eg5 => ?_)
  have ha6 : zAt ad2 (i + 1) q1 := up_s ea4
  have hg7 := up_s eg5
  have ha8 : zAt ad2 (i) (a) := up_n ea4 ha (ne_o (i := i) (c := 0) (d := 1) rfl)
  have hg9 := up_n eg5 hg (ne_o (i := i) (c := 0) (d := 1) rfl)
  refine z_putF (fs' := [.ref q1, .null, .null, .null, .null, .null, .null, .null, .null, .null, .null, .null, .int (zI (0)), .int (zI (0)), .int (zI (0)), .int (zI (0)), .int (zI (0)), .int (zI (0)), .int (zI (0)), .int (zI (0)), .int (zI (0)), .int (zI (0)), .null, .int (zI (0)), .int (zI (0)), .int (zI (0)), .int (zI (0)), .int (zI (0)), .int (zI (0)), .int (zI (0)), .null, .null, .int (zI (0)), .int (zI (0)), .int (zI (0)), .int (zI (0)), .int (zI (0)), .int (zI (0)), .int (zI (0)), .null, .null, .null, .null, .null, .null, .null, .null, .int (zI (0)), .int (zI (0)), .int (zI (0)), .null, .int (zI (0)), .null, .null, .null, .int (zI (0)), .int (zI (0)), .null, .null, .int (zI (0))]) C (lt_o (i := i) (c := 0) (d := 2) rfl) ha8 hg9 tyX10 tyX10_ok nmX10 rfl inA_X10 0 (by decide) q_1459 rfl rfl hnm rfl rfl rfl (Nat.le_of_ble_eq_true rfl) rfl dX10_init_10 (fun g10 eg11 => ?_)
  have hg12 := up_s eg11
  refine z_aload_n C 0 dX10_init_13 rfl ?_
  refine z_iconst (z := 4) C dX10_init_14 rfl ?_
  refine z_newI C 4 rfl q_134 (by decide) (by decide) (by decide) dX10_init_15 (fun q13 ad14 g15 ea16 eg17 => ?_)
  have ha18 : zAt ad14 (i + 1 + 1) q13 := up_s ea16
  have hg19 := up_s eg17
  have ha20 : zAt ad14 (i) (a) := up_n ea16 ha8 (ne_o (i := i) (c := 0) (d := 2) rfl)
  have hg21 := up_n eg17 hg12 (ne_o (i := i) (c := 0) (d := 2) rfl)
  refine z_putF (fs' := [.ref q1, .ref q13, .null, .null, .null, .null, .null, .null, .null, .null, .null, .null, .int (zI (0)), .int (zI (0)), .int (zI (0)), .int (zI (0)), .int (zI (0)), .int (zI (0)), .int (zI (0)), .int (zI (0)), .int (zI (0)), .int (zI (0)), .null, .int (zI (0)), .int (zI (0)), .int (zI (0)), .int (zI (0)), .int (zI (0)), .int (zI (0)), .int (zI (0)), .null, .null, .int (zI (0)), .int (zI (0)), .int (zI (0)), .int (zI (0)), .int (zI (0)), .int (zI (0)), .int (zI (0)), .null, .null, .null, .null, .null, .null, .null, .null, .int (zI (0)), .int (zI (0)), .int (zI (0)), .null, .int (zI (0)), .null, .null, .null, .int (zI (0)), .int (zI (0)), .null, .null, .int (zI (0))]) C (lt_o (i := i) (c := 0) (d := 3) rfl) ha20 hg21 tyX10 tyX10_ok nmX10 rfl inA_X10 1 (by decide) q_1460 rfl rfl hnm rfl rfl rfl (Nat.le_of_ble_eq_true rfl) rfl dX10_init_17 (fun g22 eg23 => ?_)
  have hg24 := up_s eg23
  refine z_aload_n C 0 dX10_init_20 rfl ?_
  refine z_iconst (z := 4) C dX10_init_21 rfl ?_
  refine z_newI C 4 rfl q_134 (by decide) (by decide) (by decide) dX10_init_22 (fun q25 ad26 g27 ea28 eg29 => ?_)
  have ha30 : zAt ad26 (i + 1 + 1 + 1) q25 := up_s ea28
  have hg31 := up_s eg29
  have ha32 : zAt ad26 (i) (a) := up_n ea28 ha20 (ne_o (i := i) (c := 0) (d := 3) rfl)
  have hg33 := up_n eg29 hg24 (ne_o (i := i) (c := 0) (d := 3) rfl)
  refine z_putF (fs' := [.ref q1, .ref q13, .ref q25, .null, .null, .null, .null, .null, .null, .null, .null, .null, .int (zI (0)), .int (zI (0)), .int (zI (0)), .int (zI (0)), .int (zI (0)), .int (zI (0)), .int (zI (0)), .int (zI (0)), .int (zI (0)), .int (zI (0)), .null, .int (zI (0)), .int (zI (0)), .int (zI (0)), .int (zI (0)), .int (zI (0)), .int (zI (0)), .int (zI (0)), .null, .null, .int (zI (0)), .int (zI (0)), .int (zI (0)), .int (zI (0)), .int (zI (0)), .int (zI (0)), .int (zI (0)), .null, .null, .null, .null, .null, .null, .null, .null, .int (zI (0)), .int (zI (0)), .int (zI (0)), .null, .int (zI (0)), .null, .null, .null, .int (zI (0)), .int (zI (0)), .null, .null, .int (zI (0))]) C (lt_o (i := i) (c := 0) (d := 4) rfl) ha32 hg33 tyX10 tyX10_ok nmX10 rfl inA_X10 2 (by decide) q_1461 rfl rfl hnm rfl rfl rfl (Nat.le_of_ble_eq_true rfl) rfl dX10_init_24 (fun g34 eg35 => ?_)
  have hg36 := up_s eg35
  refine z_aload_n C 0 dX10_init_27 rfl ?_
  refine z_bipush (z := 24) C dX10_init_28 (by decide) ?_
  refine z_newI C 24 rfl q_134 (by decide) (by decide) (by decide) dX10_init_30 (fun q37 ad38 g39 ea40 eg41 => ?_)
  have ha42 : zAt ad38 (i + 1 + 1 + 1 + 1) q37 := up_s ea40
  have hg43 := up_s eg41
  have ha44 : zAt ad38 (i) (a) := up_n ea40 ha32 (ne_o (i := i) (c := 0) (d := 4) rfl)
  have hg45 := up_n eg41 hg36 (ne_o (i := i) (c := 0) (d := 4) rfl)
  refine z_putF (fs' := [.ref q1, .ref q13, .ref q25, .ref q37, .null, .null, .null, .null, .null, .null, .null, .null, .int (zI (0)), .int (zI (0)), .int (zI (0)), .int (zI (0)), .int (zI (0)), .int (zI (0)), .int (zI (0)), .int (zI (0)), .int (zI (0)), .int (zI (0)), .null, .int (zI (0)), .int (zI (0)), .int (zI (0)), .int (zI (0)), .int (zI (0)), .int (zI (0)), .int (zI (0)), .null, .null, .int (zI (0)), .int (zI (0)), .int (zI (0)), .int (zI (0)), .int (zI (0)), .int (zI (0)), .int (zI (0)), .null, .null, .null, .null, .null, .null, .null, .null, .int (zI (0)), .int (zI (0)), .int (zI (0)), .null, .int (zI (0)), .null, .null, .null, .int (zI (0)), .int (zI (0)), .null, .null, .int (zI (0))]) C (lt_o (i := i) (c := 0) (d := 5) rfl) ha44 hg45 tyX10 tyX10_ok nmX10 rfl inA_X10 3 (by decide) q_1462 rfl rfl hnm rfl rfl rfl (Nat.le_of_ble_eq_true rfl) rfl dX10_init_32 (fun g46 eg47 => ?_)
  have hg48 := up_s eg47
  refine z_aload_n C 0 dX10_init_35 rfl ?_
  refine z_bipush (z := 24) C dX10_init_36 (by decide) ?_
  refine z_newI C 24 rfl q_134 (by decide) (by decide) (by decide) dX10_init_38 (fun q49 ad50 g51 ea52 eg53 => ?_)
  have ha54 : zAt ad50 (i + 1 + 1 + 1 + 1 + 1) q49 := up_s ea52
  have hg55 := up_s eg53
  have ha56 : zAt ad50 (i) (a) := up_n ea52 ha44 (ne_o (i := i) (c := 0) (d := 5) rfl)
  have hg57 := up_n eg53 hg48 (ne_o (i := i) (c := 0) (d := 5) rfl)
  refine z_putF (fs' := [.ref q1, .ref q13, .ref q25, .ref q37, .ref q49, .null, .null, .null, .null, .null, .null, .null, .int (zI (0)), .int (zI (0)), .int (zI (0)), .int (zI (0)), .int (zI (0)), .int (zI (0)), .int (zI (0)), .int (zI (0)), .int (zI (0)), .int (zI (0)), .null, .int (zI (0)), .int (zI (0)), .int (zI (0)), .int (zI (0)), .int (zI (0)), .int (zI (0)), .int (zI (0)), .null, .null, .int (zI (0)), .int (zI (0)), .int (zI (0)), .int (zI (0)), .int (zI (0)), .int (zI (0)), .int (zI (0)), .null, .null, .null, .null, .null, .null, .null, .null, .int (zI (0)), .int (zI (0)), .int (zI (0)), .null, .int (zI (0)), .null, .null, .null, .int (zI (0)), .int (zI (0)), .null, .null, .int (zI (0))]) C (lt_o (i := i) (c := 0) (d := 6) rfl) ha56 hg57 tyX10 tyX10_ok nmX10 rfl inA_X10 4 (by decide) q_1463 rfl rfl hnm rfl rfl rfl (Nat.le_of_ble_eq_true rfl) rfl dX10_init_40 (fun g58 eg59 => ?_)
  have hg60 := up_s eg59
  refine z_aload_n C 0 dX10_init_43 rfl ?_
  refine z_bipush (z := 24) C dX10_init_44 (by decide) ?_
  refine z_newI C 24 rfl q_134 (by decide) (by decide) (by decide) dX10_init_46 (fun q61 ad62 g63 ea64 eg65 => ?_)
  have ha66 : zAt ad62 (i + 1 + 1 + 1 + 1 + 1 + 1) q61 := up_s ea64
  have hg67 := up_s eg65
  have ha68 : zAt ad62 (i) (a) := up_n ea64 ha56 (ne_o (i := i) (c := 0) (d := 6) rfl)
  have hg69 := up_n eg65 hg60 (ne_o (i := i) (c := 0) (d := 6) rfl)
  refine z_putF (fs' := [.ref q1, .ref q13, .ref q25, .ref q37, .ref q49, .ref q61, .null, .null, .null, .null, .null, .null, .int (zI (0)), .int (zI (0)), .int (zI (0)), .int (zI (0)), .int (zI (0)), .int (zI (0)), .int (zI (0)), .int (zI (0)), .int (zI (0)), .int (zI (0)), .null, .int (zI (0)), .int (zI (0)), .int (zI (0)), .int (zI (0)), .int (zI (0)), .int (zI (0)), .int (zI (0)), .null, .null, .int (zI (0)), .int (zI (0)), .int (zI (0)), .int (zI (0)), .int (zI (0)), .int (zI (0)), .int (zI (0)), .null, .null, .null, .null, .null, .null, .null, .null, .int (zI (0)), .int (zI (0)), .int (zI (0)), .null, .int (zI (0)), .null, .null, .null, .int (zI (0)), .int (zI (0)), .null, .null, .int (zI (0))]) C (lt_o (i := i) (c := 0) (d := 7) rfl) ha68 hg69 tyX10 tyX10_ok nmX10 rfl inA_X10 5 (by decide) q_1464 rfl rfl hnm rfl rfl rfl (Nat.le_of_ble_eq_true rfl) rfl dX10_init_48 (fun g70 eg71 => ?_)
  have hg72 := up_s eg71
  refine z_aload_n C 0 dX10_init_51 rfl ?_
  refine z_bipush (z := 15) C dX10_init_52 (by decide) ?_
  refine z_newI C 15 rfl q_134 (by decide) (by decide) (by decide) dX10_init_54 (fun q73 ad74 g75 ea76 eg77 => ?_)
  have ha78 : zAt ad74 (i + 1 + 1 + 1 + 1 + 1 + 1 + 1) q73 := up_s ea76
  have hg79 := up_s eg77
  have ha80 : zAt ad74 (i) (a) := up_n ea76 ha68 (ne_o (i := i) (c := 0) (d := 7) rfl)
  have hg81 := up_n eg77 hg72 (ne_o (i := i) (c := 0) (d := 7) rfl)
  refine z_putF (fs' := [.ref q1, .ref q13, .ref q25, .ref q37, .ref q49, .ref q61, .ref q73, .null, .null, .null, .null, .null, .int (zI (0)), .int (zI (0)), .int (zI (0)), .int (zI (0)), .int (zI (0)), .int (zI (0)), .int (zI (0)), .int (zI (0)), .int (zI (0)), .int (zI (0)), .null, .int (zI (0)), .int (zI (0)), .int (zI (0)), .int (zI (0)), .int (zI (0)), .int (zI (0)), .int (zI (0)), .null, .null, .int (zI (0)), .int (zI (0)), .int (zI (0)), .int (zI (0)), .int (zI (0)), .int (zI (0)), .int (zI (0)), .null, .null, .null, .null, .null, .null, .null, .null, .int (zI (0)), .int (zI (0)), .int (zI (0)), .null, .int (zI (0)), .null, .null, .null, .int (zI (0)), .int (zI (0)), .null, .null, .int (zI (0))]) C (lt_o (i := i) (c := 0) (d := 8) rfl) ha80 hg81 tyX10 tyX10_ok nmX10 rfl inA_X10 6 (by decide) q_1465 rfl rfl hnm rfl rfl rfl (Nat.le_of_ble_eq_true rfl) rfl dX10_init_56 (fun g82 eg83 => ?_)
  have hg84 := up_s eg83
  refine z_aload_n C 0 dX10_init_59 rfl ?_
  refine z_bipush (z := 16) C dX10_init_60 (by decide) ?_
  refine z_newI C 16 rfl q_134 (by decide) (by decide) (by decide) dX10_init_62 (fun q85 ad86 g87 ea88 eg89 => ?_)
  have ha90 : zAt ad86 (i + 1 + 1 + 1 + 1 + 1 + 1 + 1 + 1) q85 := up_s ea88
  have hg91 := up_s eg89
  have ha92 : zAt ad86 (i) (a) := up_n ea88 ha80 (ne_o (i := i) (c := 0) (d := 8) rfl)
  have hg93 := up_n eg89 hg84 (ne_o (i := i) (c := 0) (d := 8) rfl)
  refine z_putF (fs' := [.ref q1, .ref q13, .ref q25, .ref q37, .ref q49, .ref q61, .ref q73, .ref q85, .null, .null, .null, .null, .int (zI (0)), .int (zI (0)), .int (zI (0)), .int (zI (0)), .int (zI (0)), .int (zI (0)), .int (zI (0)), .int (zI (0)), .int (zI (0)), .int (zI (0)), .null, .int (zI (0)), .int (zI (0)), .int (zI (0)), .int (zI (0)), .int (zI (0)), .int (zI (0)), .int (zI (0)), .null, .null, .int (zI (0)), .int (zI (0)), .int (zI (0)), .int (zI (0)), .int (zI (0)), .int (zI (0)), .int (zI (0)), .null, .null, .null, .null, .null, .null, .null, .null, .int (zI (0)), .int (zI (0)), .int (zI (0)), .null, .int (zI (0)), .null, .null, .null, .int (zI (0)), .int (zI (0)), .null, .null, .int (zI (0))]) C (lt_o (i := i) (c := 0) (d := 9) rfl) ha92 hg93 tyX10 tyX10_ok nmX10 rfl inA_X10 7 (by decide) q_1466 rfl rfl hnm rfl rfl rfl (Nat.le_of_ble_eq_true rfl) rfl dX10_init_64 (fun g94 eg95 => ?_)
  have hg96 := up_s eg95
  refine z_aload_n C 0 dX10_init_67 rfl ?_
  refine z_bipush (z := 16) C dX10_init_68 (by decide) ?_
  refine z_newI C 16 rfl q_134 (by decide) (by decide) (by decide) dX10_init_70 (fun q97 ad98 g99 ea100 eg101 => ?_)
  have ha102 : zAt ad98 (i + 1 + 1 + 1 + 1 + 1 + 1 + 1 + 1 + 1) q97 := up_s ea100
  have hg103 := up_s eg101
  have ha104 : zAt ad98 (i) (a) := up_n ea100 ha92 (ne_o (i := i) (c := 0) (d := 9) rfl)
  have hg105 := up_n eg101 hg96 (ne_o (i := i) (c := 0) (d := 9) rfl)
  refine z_putF (fs' := [.ref q1, .ref q13, .ref q25, .ref q37, .ref q49, .ref q61, .ref q73, .ref q85, .ref q97, .null, .null, .null, .int (zI (0)), .int (zI (0)), .int (zI (0)), .int (zI (0)), .int (zI (0)), .int (zI (0)), .int (zI (0)), .int (zI (0)), .int (zI (0)), .int (zI (0)), .null, .int (zI (0)), .int (zI (0)), .int (zI (0)), .int (zI (0)), .int (zI (0)), .int (zI (0)), .int (zI (0)), .null, .null, .int (zI (0)), .int (zI (0)), .int (zI (0)), .int (zI (0)), .int (zI (0)), .int (zI (0)), .int (zI (0)), .null, .null, .null, .null, .null, .null, .null, .null, .int (zI (0)), .int (zI (0)), .int (zI (0)), .null, .int (zI (0)), .null, .null, .null, .int (zI (0)), .int (zI (0)), .null, .null, .int (zI (0))]) C (lt_o (i := i) (c := 0) (d := 10) rfl) ha104 hg105 tyX10 tyX10_ok nmX10 rfl inA_X10 8 (by decide) q_1467 rfl rfl hnm rfl rfl rfl (Nat.le_of_ble_eq_true rfl) rfl dX10_init_72 (fun g106 eg107 => ?_)
  have hg108 := up_s eg107
  refine z_aload_n C 0 dX10_init_75 rfl ?_
  refine z_bipush (z := 16) C dX10_init_76 (by decide) ?_
  refine z_newI C 16 rfl q_134 (by decide) (by decide) (by decide) dX10_init_78 (fun q109 ad110 g111 ea112 eg113 => ?_)
  have ha114 : zAt ad110 (i + 1 + 1 + 1 + 1 + 1 + 1 + 1 + 1 + 1 + 1) q109 := up_s ea112
  have hg115 := up_s eg113
  have ha116 : zAt ad110 (i) (a) := up_n ea112 ha104 (ne_o (i := i) (c := 0) (d := 10) rfl)
  have hg117 := up_n eg113 hg108 (ne_o (i := i) (c := 0) (d := 10) rfl)
  refine z_putF (fs' := [.ref q1, .ref q13, .ref q25, .ref q37, .ref q49, .ref q61, .ref q73, .ref q85, .ref q97, .ref q109, .null, .null, .int (zI (0)), .int (zI (0)), .int (zI (0)), .int (zI (0)), .int (zI (0)), .int (zI (0)), .int (zI (0)), .int (zI (0)), .int (zI (0)), .int (zI (0)), .null, .int (zI (0)), .int (zI (0)), .int (zI (0)), .int (zI (0)), .int (zI (0)), .int (zI (0)), .int (zI (0)), .null, .null, .int (zI (0)), .int (zI (0)), .int (zI (0)), .int (zI (0)), .int (zI (0)), .int (zI (0)), .int (zI (0)), .null, .null, .null, .null, .null, .null, .null, .null, .int (zI (0)), .int (zI (0)), .int (zI (0)), .null, .int (zI (0)), .null, .null, .null, .int (zI (0)), .int (zI (0)), .null, .null, .int (zI (0))]) C (lt_o (i := i) (c := 0) (d := 11) rfl) ha116 hg117 tyX10 tyX10_ok nmX10 rfl inA_X10 9 (by decide) q_1468 rfl rfl hnm rfl rfl rfl (Nat.le_of_ble_eq_true rfl) rfl dX10_init_80 (fun g118 eg119 => ?_)
  have hg120 := up_s eg119
  refine z_aload_n C 0 dX10_init_83 rfl ?_
  refine z_bipush (z := 6) C dX10_init_84 (by decide) ?_
  refine z_newI C 6 rfl q_134 (by decide) (by decide) (by decide) dX10_init_86 (fun q121 ad122 g123 ea124 eg125 => ?_)
  have ha126 : zAt ad122 (i + 1 + 1 + 1 + 1 + 1 + 1 + 1 + 1 + 1 + 1 + 1) q121 := up_s ea124
  have hg127 := up_s eg125
  have ha128 : zAt ad122 (i) (a) := up_n ea124 ha116 (ne_o (i := i) (c := 0) (d := 11) rfl)
  have hg129 := up_n eg125 hg120 (ne_o (i := i) (c := 0) (d := 11) rfl)
  refine z_putF (fs' := [.ref q1, .ref q13, .ref q25, .ref q37, .ref q49, .ref q61, .ref q73, .ref q85, .ref q97, .ref q109, .ref q121, .null, .int (zI (0)), .int (zI (0)), .int (zI (0)), .int (zI (0)), .int (zI (0)), .int (zI (0)), .int (zI (0)), .int (zI (0)), .int (zI (0)), .int (zI (0)), .null, .int (zI (0)), .int (zI (0)), .int (zI (0)), .int (zI (0)), .int (zI (0)), .int (zI (0)), .int (zI (0)), .null, .null, .int (zI (0)), .int (zI (0)), .int (zI (0)), .int (zI (0)), .int (zI (0)), .int (zI (0)), .int (zI (0)), .null, .null, .null, .null, .null, .null, .null, .null, .int (zI (0)), .int (zI (0)), .int (zI (0)), .null, .int (zI (0)), .null, .null, .null, .int (zI (0)), .int (zI (0)), .null, .null, .int (zI (0))]) C (lt_o (i := i) (c := 0) (d := 12) rfl) ha128 hg129 tyX10 tyX10_ok nmX10 rfl inA_X10 10 (by decide) q_1469 rfl rfl hnm rfl rfl rfl (Nat.le_of_ble_eq_true rfl) rfl dX10_init_88 (fun g130 eg131 => ?_)
  have hg132 := up_s eg131
  refine z_aload_n C 0 dX10_init_91 rfl ?_
  refine z_sipush (z := 1080) C dX10_init_92 (by decide) ?_
  refine z_newI C 1080 rfl q_134 (by decide) (by decide) (by decide) dX10_init_95 (fun q133 ad134 g135 ea136 eg137 => ?_)
  have ha138 : zAt ad134 (i + 1 + 1 + 1 + 1 + 1 + 1 + 1 + 1 + 1 + 1 + 1 + 1) q133 := up_s ea136
  have hg139 := up_s eg137
  have ha140 : zAt ad134 (i) (a) := up_n ea136 ha128 (ne_o (i := i) (c := 0) (d := 12) rfl)
  have hg141 := up_n eg137 hg132 (ne_o (i := i) (c := 0) (d := 12) rfl)
  refine z_putF (fs' := [.ref q1, .ref q13, .ref q25, .ref q37, .ref q49, .ref q61, .ref q73, .ref q85, .ref q97, .ref q109, .ref q121, .ref q133, .int (zI (0)), .int (zI (0)), .int (zI (0)), .int (zI (0)), .int (zI (0)), .int (zI (0)), .int (zI (0)), .int (zI (0)), .int (zI (0)), .int (zI (0)), .null, .int (zI (0)), .int (zI (0)), .int (zI (0)), .int (zI (0)), .int (zI (0)), .int (zI (0)), .int (zI (0)), .null, .null, .int (zI (0)), .int (zI (0)), .int (zI (0)), .int (zI (0)), .int (zI (0)), .int (zI (0)), .int (zI (0)), .null, .null, .null, .null, .null, .null, .null, .null, .int (zI (0)), .int (zI (0)), .int (zI (0)), .null, .int (zI (0)), .null, .null, .null, .int (zI (0)), .int (zI (0)), .null, .null, .int (zI (0))]) C (lt_o (i := i) (c := 0) (d := 13) rfl) ha140 hg141 tyX10 tyX10_ok nmX10 rfl inA_X10 11 (by decide) q_1470 rfl rfl hnm rfl rfl rfl (Nat.le_of_ble_eq_true rfl) rfl dX10_init_97 (fun g142 eg143 => ?_)
  have hg144 := up_s eg143
  refine z_aload_n C 0 dX10_init_100 rfl ?_
  refine z_sipush (z := 900) C dX10_init_101 (by decide) ?_
  refine z_newI C 900 rfl q_134 (by decide) (by decide) (by decide) dX10_init_104 (fun q145 ad146 g147 ea148 eg149 => ?_)
  have ha150 : zAt ad146 (i + 1 + 1 + 1 + 1 + 1 + 1 + 1 + 1 + 1 + 1 + 1 + 1 + 1) q145 := up_s ea148
  have hg151 := up_s eg149
  have ha152 : zAt ad146 (i) (a) := up_n ea148 ha140 (ne_o (i := i) (c := 0) (d := 13) rfl)
  have hg153 := up_n eg149 hg144 (ne_o (i := i) (c := 0) (d := 13) rfl)
  refine z_putF (fs' := [.ref q1, .ref q13, .ref q25, .ref q37, .ref q49, .ref q61, .ref q73, .ref q85, .ref q97, .ref q109, .ref q121, .ref q133, .int (zI (0)), .int (zI (0)), .int (zI (0)), .int (zI (0)), .int (zI (0)), .int (zI (0)), .int (zI (0)), .int (zI (0)), .int (zI (0)), .int (zI (0)), .ref q145, .int (zI (0)), .int (zI (0)), .int (zI (0)), .int (zI (0)), .int (zI (0)), .int (zI (0)), .int (zI (0)), .null, .null, .int (zI (0)), .int (zI (0)), .int (zI (0)), .int (zI (0)), .int (zI (0)), .int (zI (0)), .int (zI (0)), .null, .null, .null, .null, .null, .null, .null, .null, .int (zI (0)), .int (zI (0)), .int (zI (0)), .null, .int (zI (0)), .null, .null, .null, .int (zI (0)), .int (zI (0)), .null, .null, .int (zI (0))]) C (lt_o (i := i) (c := 0) (d := 14) rfl) ha152 hg153 tyX10 tyX10_ok nmX10 rfl inA_X10 22 (by decide) q_1481 rfl rfl hnm rfl rfl rfl (Nat.le_of_ble_eq_true rfl) rfl dX10_init_106 (fun g154 eg155 => ?_)
  have hg156 := up_s eg155
  refine z_aload_n C 0 dX10_init_109 rfl ?_
  refine z_iconst (z := -1) C dX10_init_110 rfl ?_
  refine z_put (fs' := [.ref q1, .ref q13, .ref q25, .ref q37, .ref q49, .ref q61, .ref q73, .ref q85, .ref q97, .ref q109, .ref q121, .ref q133, .int (zI (0)), .int (zI (0)), .int (zI (0)), .int (zI (0)), .int (zI (0)), .int (zI (0)), .int (zI (0)), .int (zI (0)), .int (zI (0)), .int (zI (0)), .ref q145, .int (zI (0)), .int (zI (-1)), .int (zI (0)), .int (zI (0)), .int (zI (0)), .int (zI (0)), .int (zI (0)), .null, .null, .int (zI (0)), .int (zI (0)), .int (zI (0)), .int (zI (0)), .int (zI (0)), .int (zI (0)), .int (zI (0)), .null, .null, .null, .null, .null, .null, .null, .null, .int (zI (0)), .int (zI (0)), .int (zI (0)), .null, .int (zI (0)), .null, .null, .null, .int (zI (0)), .int (zI (0)), .null, .null, .int (zI (0))]) C (lt_o (i := i) (c := 0) (d := 14) rfl) ha152 hg156 tyX10 tyX10_ok nmX10 rfl inA_X10 24 (by decide) q_1483 rfl rfl rfl rfl (Nat.le_of_ble_eq_true rfl) rfl dX10_init_111 (fun g157 eg158 => ?_)
  have hg159 := up_s eg158
  refine z_aload_n C 0 dX10_init_114 rfl ?_
  refine z_iconst (z := -1) C dX10_init_115 rfl ?_
  refine z_put (fs' := [.ref q1, .ref q13, .ref q25, .ref q37, .ref q49, .ref q61, .ref q73, .ref q85, .ref q97, .ref q109, .ref q121, .ref q133, .int (zI (0)), .int (zI (0)), .int (zI (0)), .int (zI (0)), .int (zI (0)), .int (zI (0)), .int (zI (0)), .int (zI (0)), .int (zI (0)), .int (zI (0)), .ref q145, .int (zI (0)), .int (zI (-1)), .int (zI (0)), .int (zI (-1)), .int (zI (0)), .int (zI (0)), .int (zI (0)), .null, .null, .int (zI (0)), .int (zI (0)), .int (zI (0)), .int (zI (0)), .int (zI (0)), .int (zI (0)), .int (zI (0)), .null, .null, .null, .null, .null, .null, .null, .null, .int (zI (0)), .int (zI (0)), .int (zI (0)), .null, .int (zI (0)), .null, .null, .null, .int (zI (0)), .int (zI (0)), .null, .null, .int (zI (0))]) C (lt_o (i := i) (c := 0) (d := 14) rfl) ha152 hg159 tyX10 tyX10_ok nmX10 rfl inA_X10 26 (by decide) q_1485 rfl rfl rfl rfl (Nat.le_of_ble_eq_true rfl) rfl dX10_init_116 (fun g160 eg161 => ?_)
  have hg162 := up_s eg161
  refine z_aload_n C 0 dX10_init_119 rfl ?_
  refine z_iconst (z := -1) C dX10_init_120 rfl ?_
  refine z_put (fs' := [.ref q1, .ref q13, .ref q25, .ref q37, .ref q49, .ref q61, .ref q73, .ref q85, .ref q97, .ref q109, .ref q121, .ref q133, .int (zI (0)), .int (zI (0)), .int (zI (0)), .int (zI (0)), .int (zI (0)), .int (zI (0)), .int (zI (0)), .int (zI (0)), .int (zI (0)), .int (zI (0)), .ref q145, .int (zI (0)), .int (zI (-1)), .int (zI (0)), .int (zI (-1)), .int (zI (-1)), .int (zI (0)), .int (zI (0)), .null, .null, .int (zI (0)), .int (zI (0)), .int (zI (0)), .int (zI (0)), .int (zI (0)), .int (zI (0)), .int (zI (0)), .null, .null, .null, .null, .null, .null, .null, .null, .int (zI (0)), .int (zI (0)), .int (zI (0)), .null, .int (zI (0)), .null, .null, .null, .int (zI (0)), .int (zI (0)), .null, .null, .int (zI (0))]) C (lt_o (i := i) (c := 0) (d := 14) rfl) ha152 hg162 tyX10 tyX10_ok nmX10 rfl inA_X10 27 (by decide) q_1486 rfl rfl rfl rfl (Nat.le_of_ble_eq_true rfl) rfl dX10_init_121 (fun g163 eg164 => ?_)
  have hg165 := up_s eg164
  refine z_aload_n C 0 dX10_init_124 rfl ?_
  refine z_bipush (z := 14) C dX10_init_125 (by decide) ?_
  refine z_newI C 14 rfl q_134 (by decide) (by decide) (by decide) dX10_init_127 (fun q166 ad167 g168 ea169 eg170 => ?_)
  have ha171 : zAt ad167 (i + 1 + 1 + 1 + 1 + 1 + 1 + 1 + 1 + 1 + 1 + 1 + 1 + 1 + 1) q166 := up_s ea169
  have hg172 := up_s eg170
  have ha173 : zAt ad167 (i) (a) := up_n ea169 ha152 (ne_o (i := i) (c := 0) (d := 14) rfl)
  have hg174 := up_n eg170 hg165 (ne_o (i := i) (c := 0) (d := 14) rfl)
  refine z_putF (fs' := [.ref q1, .ref q13, .ref q25, .ref q37, .ref q49, .ref q61, .ref q73, .ref q85, .ref q97, .ref q109, .ref q121, .ref q133, .int (zI (0)), .int (zI (0)), .int (zI (0)), .int (zI (0)), .int (zI (0)), .int (zI (0)), .int (zI (0)), .int (zI (0)), .int (zI (0)), .int (zI (0)), .ref q145, .int (zI (0)), .int (zI (-1)), .int (zI (0)), .int (zI (-1)), .int (zI (-1)), .int (zI (0)), .int (zI (0)), .ref q166, .null, .int (zI (0)), .int (zI (0)), .int (zI (0)), .int (zI (0)), .int (zI (0)), .int (zI (0)), .int (zI (0)), .null, .null, .null, .null, .null, .null, .null, .null, .int (zI (0)), .int (zI (0)), .int (zI (0)), .null, .int (zI (0)), .null, .null, .null, .int (zI (0)), .int (zI (0)), .null, .null, .int (zI (0))]) C (lt_o (i := i) (c := 0) (d := 15) rfl) ha173 hg174 tyX10 tyX10_ok nmX10 rfl inA_X10 30 (by decide) q_1489 rfl rfl hnm rfl rfl rfl (Nat.le_of_ble_eq_true rfl) rfl dX10_init_129 (fun g175 eg176 => ?_)
  have hg177 := up_s eg176
  refine z_aload_n C 0 dX10_init_132 rfl ?_
  refine z_bipush (z := 12) C dX10_init_133 (by decide) ?_
  refine z_newI C 12 rfl q_134 (by decide) (by decide) (by decide) dX10_init_135 (fun q178 ad179 g180 ea181 eg182 => ?_)
  have ha183 : zAt ad179 (i + 1 + 1 + 1 + 1 + 1 + 1 + 1 + 1 + 1 + 1 + 1 + 1 + 1 + 1 + 1) q178 := up_s ea181
  have hg184 := up_s eg182
  have ha185 : zAt ad179 (i) (a) := up_n ea181 ha173 (ne_o (i := i) (c := 0) (d := 15) rfl)
  have hg186 := up_n eg182 hg177 (ne_o (i := i) (c := 0) (d := 15) rfl)
  refine z_putF (fs' := [.ref q1, .ref q13, .ref q25, .ref q37, .ref q49, .ref q61, .ref q73, .ref q85, .ref q97, .ref q109, .ref q121, .ref q133, .int (zI (0)), .int (zI (0)), .int (zI (0)), .int (zI (0)), .int (zI (0)), .int (zI (0)), .int (zI (0)), .int (zI (0)), .int (zI (0)), .int (zI (0)), .ref q145, .int (zI (0)), .int (zI (-1)), .int (zI (0)), .int (zI (-1)), .int (zI (-1)), .int (zI (0)), .int (zI (0)), .ref q166, .ref q178, .int (zI (0)), .int (zI (0)), .int (zI (0)), .int (zI (0)), .int (zI (0)), .int (zI (0)), .int (zI (0)), .null, .null, .null, .null, .null, .null, .null, .null, .int (zI (0)), .int (zI (0)), .int (zI (0)), .null, .int (zI (0)), .null, .null, .null, .int (zI (0)), .int (zI (0)), .null, .null, .int (zI (0))]) C (lt_o (i := i) (c := 0) (d := 16) rfl) ha185 hg186 tyX10 tyX10_ok nmX10 rfl inA_X10 31 (by decide) q_1490 rfl rfl hnm rfl rfl rfl (Nat.le_of_ble_eq_true rfl) rfl dX10_init_137 (fun g187 eg188 => ?_)
  have hg189 := up_s eg188
  refine z_aload_n C 0 dX10_init_140 rfl ?_
  refine z_iconst (z := 4) C dX10_init_141 rfl ?_
  refine z_newI C 4 rfl q_134 (by decide) (by decide) (by decide) dX10_init_142 (fun q190 ad191 g192 ea193 eg194 => ?_)
  have ha195 : zAt ad191 (i + 1 + 1 + 1 + 1 + 1 + 1 + 1 + 1 + 1 + 1 + 1 + 1 + 1 + 1 + 1 + 1) q190 := up_s ea193
  have hg196 := up_s eg194
  have ha197 : zAt ad191 (i) (a) := up_n ea193 ha185 (ne_o (i := i) (c := 0) (d := 16) rfl)
  have hg198 := up_n eg194 hg189 (ne_o (i := i) (c := 0) (d := 16) rfl)
  refine z_putF (fs' := [.ref q1, .ref q13, .ref q25, .ref q37, .ref q49, .ref q61, .ref q73, .ref q85, .ref q97, .ref q109, .ref q121, .ref q133, .int (zI (0)), .int (zI (0)), .int (zI (0)), .int (zI (0)), .int (zI (0)), .int (zI (0)), .int (zI (0)), .int (zI (0)), .int (zI (0)), .int (zI (0)), .ref q145, .int (zI (0)), .int (zI (-1)), .int (zI (0)), .int (zI (-1)), .int (zI (-1)), .int (zI (0)), .int (zI (0)), .ref q166, .ref q178, .int (zI (0)), .int (zI (0)), .int (zI (0)), .int (zI (0)), .int (zI (0)), .int (zI (0)), .int (zI (0)), .ref q190, .null, .null, .null, .null, .null, .null, .null, .int (zI (0)), .int (zI (0)), .int (zI (0)), .null, .int (zI (0)), .null, .null, .null, .int (zI (0)), .int (zI (0)), .null, .null, .int (zI (0))]) C (lt_o (i := i) (c := 0) (d := 17) rfl) ha197 hg198 tyX10 tyX10_ok nmX10 rfl inA_X10 39 (by decide) q_1498 rfl rfl hnm rfl rfl rfl (Nat.le_of_ble_eq_true rfl) rfl dX10_init_144 (fun g199 eg200 => ?_)
  have hg201 := up_s eg200
  refine z_aload_n C 0 dX10_init_147 rfl ?_
  refine z_iconst (z := 4) C dX10_init_148 rfl ?_
  refine z_newI C 4 rfl q_134 (by decide) (by decide) (by decide) dX10_init_149 (fun q202 ad203 g204 ea205 eg206 => ?_)
  have ha207 : zAt ad203 (i + 1 + 1 + 1 + 1 + 1 + 1 + 1 + 1 + 1 + 1 + 1 + 1 + 1 + 1 + 1 + 1 + 1) q202 := up_s ea205
  have hg208 := up_s eg206
  have ha209 : zAt ad203 (i) (a) := up_n ea205 ha197 (ne_o (i := i) (c := 0) (d := 17) rfl)
  have hg210 := up_n eg206 hg201 (ne_o (i := i) (c := 0) (d := 17) rfl)
  refine z_putF (fs' := [.ref q1, .ref q13, .ref q25, .ref q37, .ref q49, .ref q61, .ref q73, .ref q85, .ref q97, .ref q109, .ref q121, .ref q133, .int (zI (0)), .int (zI (0)), .int (zI (0)), .int (zI (0)), .int (zI (0)), .int (zI (0)), .int (zI (0)), .int (zI (0)), .int (zI (0)), .int (zI (0)), .ref q145, .int (zI (0)), .int (zI (-1)), .int (zI (0)), .int (zI (-1)), .int (zI (-1)), .int (zI (0)), .int (zI (0)), .ref q166, .ref q178, .int (zI (0)), .int (zI (0)), .int (zI (0)), .int (zI (0)), .int (zI (0)), .int (zI (0)), .int (zI (0)), .ref q190, .ref q202, .null, .null, .null, .null, .null, .null, .int (zI (0)), .int (zI (0)), .int (zI (0)), .null, .int (zI (0)), .null, .null, .null, .int (zI (0)), .int (zI (0)), .null, .null, .int (zI (0))]) C (lt_o (i := i) (c := 0) (d := 18) rfl) ha209 hg210 tyX10 tyX10_ok nmX10 rfl inA_X10 40 (by decide) q_1499 rfl rfl hnm rfl rfl rfl (Nat.le_of_ble_eq_true rfl) rfl dX10_init_151 (fun g211 eg212 => ?_)
  have hg213 := up_s eg212
  refine z_aload_n C 0 dX10_init_154 rfl ?_
  refine z_iconst (z := 4) C dX10_init_155 rfl ?_
  refine z_newI C 4 rfl q_134 (by decide) (by decide) (by decide) dX10_init_156 (fun q214 ad215 g216 ea217 eg218 => ?_)
  have ha219 : zAt ad215 (i + 1 + 1 + 1 + 1 + 1 + 1 + 1 + 1 + 1 + 1 + 1 + 1 + 1 + 1 + 1 + 1 + 1 + 1) q214 := up_s ea217
  have hg220 := up_s eg218
  have ha221 : zAt ad215 (i) (a) := up_n ea217 ha209 (ne_o (i := i) (c := 0) (d := 18) rfl)
  have hg222 := up_n eg218 hg213 (ne_o (i := i) (c := 0) (d := 18) rfl)
  refine z_putF (fs' := [.ref q1, .ref q13, .ref q25, .ref q37, .ref q49, .ref q61, .ref q73, .ref q85, .ref q97, .ref q109, .ref q121, .ref q133, .int (zI (0)), .int (zI (0)), .int (zI (0)), .int (zI (0)), .int (zI (0)), .int (zI (0)), .int (zI (0)), .int (zI (0)), .int (zI (0)), .int (zI (0)), .ref q145, .int (zI (0)), .int (zI (-1)), .int (zI (0)), .int (zI (-1)), .int (zI (-1)), .int (zI (0)), .int (zI (0)), .ref q166, .ref q178, .int (zI (0)), .int (zI (0)), .int (zI (0)), .int (zI (0)), .int (zI (0)), .int (zI (0)), .int (zI (0)), .ref q190, .ref q202, .ref q214, .null, .null, .null, .null, .null, .int (zI (0)), .int (zI (0)), .int (zI (0)), .null, .int (zI (0)), .null, .null, .null, .int (zI (0)), .int (zI (0)), .null, .null, .int (zI (0))]) C (lt_o (i := i) (c := 0) (d := 19) rfl) ha221 hg222 tyX10 tyX10_ok nmX10 rfl inA_X10 41 (by decide) q_1500 rfl rfl hnm rfl rfl rfl (Nat.le_of_ble_eq_true rfl) rfl dX10_init_158 (fun g223 eg224 => ?_)
  have hg225 := up_s eg224
  refine z_aload_n C 0 dX10_init_161 rfl ?_
  refine z_bipush (z := 24) C dX10_init_162 (by decide) ?_
  refine z_newI C 24 rfl q_134 (by decide) (by decide) (by decide) dX10_init_164 (fun q226 ad227 g228 ea229 eg230 => ?_)
  have ha231 : zAt ad227 (i + 1 + 1 + 1 + 1 + 1 + 1 + 1 + 1 + 1 + 1 + 1 + 1 + 1 + 1 + 1 + 1 + 1 + 1 + 1) q226 := up_s ea229
  have hg232 := up_s eg230
  have ha233 : zAt ad227 (i) (a) := up_n ea229 ha221 (ne_o (i := i) (c := 0) (d := 19) rfl)
  have hg234 := up_n eg230 hg225 (ne_o (i := i) (c := 0) (d := 19) rfl)
  refine z_putF (fs' := [.ref q1, .ref q13, .ref q25, .ref q37, .ref q49, .ref q61, .ref q73, .ref q85, .ref q97, .ref q109, .ref q121, .ref q133, .int (zI (0)), .int (zI (0)), .int (zI (0)), .int (zI (0)), .int (zI (0)), .int (zI (0)), .int (zI (0)), .int (zI (0)), .int (zI (0)), .int (zI (0)), .ref q145, .int (zI (0)), .int (zI (-1)), .int (zI (0)), .int (zI (-1)), .int (zI (-1)), .int (zI (0)), .int (zI (0)), .ref q166, .ref q178, .int (zI (0)), .int (zI (0)), .int (zI (0)), .int (zI (0)), .int (zI (0)), .int (zI (0)), .int (zI (0)), .ref q190, .ref q202, .ref q214, .ref q226, .null, .null, .null, .null, .int (zI (0)), .int (zI (0)), .int (zI (0)), .null, .int (zI (0)), .null, .null, .null, .int (zI (0)), .int (zI (0)), .null, .null, .int (zI (0))]) C (lt_o (i := i) (c := 0) (d := 20) rfl) ha233 hg234 tyX10 tyX10_ok nmX10 rfl inA_X10 42 (by decide) q_1501 rfl rfl hnm rfl rfl rfl (Nat.le_of_ble_eq_true rfl) rfl dX10_init_166 (fun g235 eg236 => ?_)
  have hg237 := up_s eg236
  refine z_aload_n C 0 dX10_init_169 rfl ?_
  refine z_bipush (z := 24) C dX10_init_170 (by decide) ?_
  refine z_newI C 24 rfl q_134 (by decide) (by decide) (by decide) dX10_init_172 (fun q238 ad239 g240 ea241 eg242 => ?_)
  have ha243 : zAt ad239 (i + 1 + 1 + 1 + 1 + 1 + 1 + 1 + 1 + 1 + 1 + 1 + 1 + 1 + 1 + 1 + 1 + 1 + 1 + 1 + 1) q238 := up_s ea241
  have hg244 := up_s eg242
  have ha245 : zAt ad239 (i) (a) := up_n ea241 ha233 (ne_o (i := i) (c := 0) (d := 20) rfl)
  have hg246 := up_n eg242 hg237 (ne_o (i := i) (c := 0) (d := 20) rfl)
  refine z_putF (fs' := [.ref q1, .ref q13, .ref q25, .ref q37, .ref q49, .ref q61, .ref q73, .ref q85, .ref q97, .ref q109, .ref q121, .ref q133, .int (zI (0)), .int (zI (0)), .int (zI (0)), .int (zI (0)), .int (zI (0)), .int (zI (0)), .int (zI (0)), .int (zI (0)), .int (zI (0)), .int (zI (0)), .ref q145, .int (zI (0)), .int (zI (-1)), .int (zI (0)), .int (zI (-1)), .int (zI (-1)), .int (zI (0)), .int (zI (0)), .ref q166, .ref q178, .int (zI (0)), .int (zI (0)), .int (zI (0)), .int (zI (0)), .int (zI (0)), .int (zI (0)), .int (zI (0)), .ref q190, .ref q202, .ref q214, .ref q226, .ref q238, .null, .null, .null, .int (zI (0)), .int (zI (0)), .int (zI (0)), .null, .int (zI (0)), .null, .null, .null, .int (zI (0)), .int (zI (0)), .null, .null, .int (zI (0))]) C (lt_o (i := i) (c := 0) (d := 21) rfl) ha245 hg246 tyX10 tyX10_ok nmX10 rfl inA_X10 43 (by decide) q_1502 rfl rfl hnm rfl rfl rfl (Nat.le_of_ble_eq_true rfl) rfl dX10_init_174 (fun g247 eg248 => ?_)
  have hg249 := up_s eg248
  refine z_aload_n C 0 dX10_init_177 rfl ?_
  refine z_bipush (z := 24) C dX10_init_178 (by decide) ?_
  refine z_newI C 24 rfl q_134 (by decide) (by decide) (by decide) dX10_init_180 (fun q250 ad251 g252 ea253 eg254 => ?_)
  have ha255 : zAt ad251 (i + 1 + 1 + 1 + 1 + 1 + 1 + 1 + 1 + 1 + 1 + 1 + 1 + 1 + 1 + 1 + 1 + 1 + 1 + 1 + 1 + 1) q250 := up_s ea253
  have hg256 := up_s eg254
  have ha257 : zAt ad251 (i) (a) := up_n ea253 ha245 (ne_o (i := i) (c := 0) (d := 21) rfl)
  have hg258 := up_n eg254 hg249 (ne_o (i := i) (c := 0) (d := 21) rfl)
  refine z_putF (fs' := [.ref q1, .ref q13, .ref q25, .ref q37, .ref q49, .ref q61, .ref q73, .ref q85, .ref q97, .ref q109, .ref q121, .ref q133, .int (zI (0)), .int (zI (0)), .int (zI (0)), .int (zI (0)), .int (zI (0)), .int (zI (0)), .int (zI (0)), .int (zI (0)), .int (zI (0)), .int (zI (0)), .ref q145, .int (zI (0)), .int (zI (-1)), .int (zI (0)), .int (zI (-1)), .int (zI (-1)), .int (zI (0)), .int (zI (0)), .ref q166, .ref q178, .int (zI (0)), .int (zI (0)), .int (zI (0)), .int (zI (0)), .int (zI (0)), .int (zI (0)), .int (zI (0)), .ref q190, .ref q202, .ref q214, .ref q226, .ref q238, .ref q250, .null, .null, .int (zI (0)), .int (zI (0)), .int (zI (0)), .null, .int (zI (0)), .null, .null, .null, .int (zI (0)), .int (zI (0)), .null, .null, .int (zI (0))]) C (lt_o (i := i) (c := 0) (d := 22) rfl) ha257 hg258 tyX10 tyX10_ok nmX10 rfl inA_X10 44 (by decide) q_1503 rfl rfl hnm rfl rfl rfl (Nat.le_of_ble_eq_true rfl) rfl dX10_init_182 (fun g259 eg260 => ?_)
  have hg261 := up_s eg260
  refine z_aload_n C 0 dX10_init_185 rfl ?_
  refine z_bipush (z := 15) C dX10_init_186 (by decide) ?_
  refine z_newI C 15 rfl q_134 (by decide) (by decide) (by decide) dX10_init_188 (fun q262 ad263 g264 ea265 eg266 => ?_)
  have ha267 : zAt ad263 (i + 1 + 1 + 1 + 1 + 1 + 1 + 1 + 1 + 1 + 1 + 1 + 1 + 1 + 1 + 1 + 1 + 1 + 1 + 1 + 1 + 1 + 1) q262 := up_s ea265
  have hg268 := up_s eg266
  have ha269 : zAt ad263 (i) (a) := up_n ea265 ha257 (ne_o (i := i) (c := 0) (d := 22) rfl)
  have hg270 := up_n eg266 hg261 (ne_o (i := i) (c := 0) (d := 22) rfl)
  refine z_putF (fs' := [.ref q1, .ref q13, .ref q25, .ref q37, .ref q49, .ref q61, .ref q73, .ref q85, .ref q97, .ref q109, .ref q121, .ref q133, .int (zI (0)), .int (zI (0)), .int (zI (0)), .int (zI (0)), .int (zI (0)), .int (zI (0)), .int (zI (0)), .int (zI (0)), .int (zI (0)), .int (zI (0)), .ref q145, .int (zI (0)), .int (zI (-1)), .int (zI (0)), .int (zI (-1)), .int (zI (-1)), .int (zI (0)), .int (zI (0)), .ref q166, .ref q178, .int (zI (0)), .int (zI (0)), .int (zI (0)), .int (zI (0)), .int (zI (0)), .int (zI (0)), .int (zI (0)), .ref q190, .ref q202, .ref q214, .ref q226, .ref q238, .ref q250, .ref q262, .null, .int (zI (0)), .int (zI (0)), .int (zI (0)), .null, .int (zI (0)), .null, .null, .null, .int (zI (0)), .int (zI (0)), .null, .null, .int (zI (0))]) C (lt_o (i := i) (c := 0) (d := 23) rfl) ha269 hg270 tyX10 tyX10_ok nmX10 rfl inA_X10 45 (by decide) q_1504 rfl rfl hnm rfl rfl rfl (Nat.le_of_ble_eq_true rfl) rfl dX10_init_190 (fun g271 eg272 => ?_)
  have hg273 := up_s eg272
  refine z_aload_n C 0 dX10_init_193 rfl ?_
  refine z_sipush (z := 336) C dX10_init_194 (by decide) ?_
  refine z_newI C 336 rfl q_134 (by decide) (by decide) (by decide) dX10_init_197 (fun q274 ad275 g276 ea277 eg278 => ?_)
  have ha279 : zAt ad275 (i + 1 + 1 + 1 + 1 + 1 + 1 + 1 + 1 + 1 + 1 + 1 + 1 + 1 + 1 + 1 + 1 + 1 + 1 + 1 + 1 + 1 + 1 + 1) q274 := up_s ea277
  have hg280 := up_s eg278
  have ha281 : zAt ad275 (i) (a) := up_n ea277 ha269 (ne_o (i := i) (c := 0) (d := 23) rfl)
  have hg282 := up_n eg278 hg273 (ne_o (i := i) (c := 0) (d := 23) rfl)
  refine z_putF (fs' := [.ref q1, .ref q13, .ref q25, .ref q37, .ref q49, .ref q61, .ref q73, .ref q85, .ref q97, .ref q109, .ref q121, .ref q133, .int (zI (0)), .int (zI (0)), .int (zI (0)), .int (zI (0)), .int (zI (0)), .int (zI (0)), .int (zI (0)), .int (zI (0)), .int (zI (0)), .int (zI (0)), .ref q145, .int (zI (0)), .int (zI (-1)), .int (zI (0)), .int (zI (-1)), .int (zI (-1)), .int (zI (0)), .int (zI (0)), .ref q166, .ref q178, .int (zI (0)), .int (zI (0)), .int (zI (0)), .int (zI (0)), .int (zI (0)), .int (zI (0)), .int (zI (0)), .ref q190, .ref q202, .ref q214, .ref q226, .ref q238, .ref q250, .ref q262, .ref q274, .int (zI (0)), .int (zI (0)), .int (zI (0)), .null, .int (zI (0)), .null, .null, .null, .int (zI (0)), .int (zI (0)), .null, .null, .int (zI (0))]) C (lt_o (i := i) (c := 0) (d := 24) rfl) ha281 hg282 tyX10 tyX10_ok nmX10 rfl inA_X10 46 (by decide) q_1505 rfl rfl hnm rfl rfl rfl (Nat.le_of_ble_eq_true rfl) rfl dX10_init_199 (fun g283 eg284 => ?_)
  have hg285 := up_s eg284
  refine z_aload_n C 0 dX10_init_202 rfl ?_
  refine z_bipush (z := 64) C dX10_init_203 (by decide) ?_
  refine z_newI C 64 rfl q_134 (by decide) (by decide) (by decide) dX10_init_205 (fun q286 ad287 g288 ea289 eg290 => ?_)
  have ha291 : zAt ad287 (i + 1 + 1 + 1 + 1 + 1 + 1 + 1 + 1 + 1 + 1 + 1 + 1 + 1 + 1 + 1 + 1 + 1 + 1 + 1 + 1 + 1 + 1 + 1 + 1) q286 := up_s ea289
  have hg292 := up_s eg290
  have ha293 : zAt ad287 (i) (a) := up_n ea289 ha281 (ne_o (i := i) (c := 0) (d := 24) rfl)
  have hg294 := up_n eg290 hg285 (ne_o (i := i) (c := 0) (d := 24) rfl)
  refine z_putF (fs' := [.ref q1, .ref q13, .ref q25, .ref q37, .ref q49, .ref q61, .ref q73, .ref q85, .ref q97, .ref q109, .ref q121, .ref q133, .int (zI (0)), .int (zI (0)), .int (zI (0)), .int (zI (0)), .int (zI (0)), .int (zI (0)), .int (zI (0)), .int (zI (0)), .int (zI (0)), .int (zI (0)), .ref q145, .int (zI (0)), .int (zI (-1)), .int (zI (0)), .int (zI (-1)), .int (zI (-1)), .int (zI (0)), .int (zI (0)), .ref q166, .ref q178, .int (zI (0)), .int (zI (0)), .int (zI (0)), .int (zI (0)), .int (zI (0)), .int (zI (0)), .int (zI (0)), .ref q190, .ref q202, .ref q214, .ref q226, .ref q238, .ref q250, .ref q262, .ref q274, .int (zI (0)), .int (zI (0)), .int (zI (0)), .ref q286, .int (zI (0)), .null, .null, .null, .int (zI (0)), .int (zI (0)), .null, .null, .int (zI (0))]) C (lt_o (i := i) (c := 0) (d := 25) rfl) ha293 hg294 tyX10 tyX10_ok nmX10 rfl inA_X10 50 (by decide) q_1509 rfl rfl hnm rfl rfl rfl (Nat.le_of_ble_eq_true rfl) rfl dX10_init_207 (fun g295 eg296 => ?_)
  have hg297 := up_s eg296
  refine z_aload_n C 0 dX10_init_210 rfl ?_
  refine z_bipush (z := 12) C dX10_init_211 (by decide) ?_
  refine z_newI C 12 rfl q_134 (by decide) (by decide) (by decide) dX10_init_213 (fun q298 ad299 g300 ea301 eg302 => ?_)
  have ha303 : zAt ad299 (i + 1 + 1 + 1 + 1 + 1 + 1 + 1 + 1 + 1 + 1 + 1 + 1 + 1 + 1 + 1 + 1 + 1 + 1 + 1 + 1 + 1 + 1 + 1 + 1 + 1) q298 := up_s ea301
  have hg304 := up_s eg302
  have ha305 : zAt ad299 (i) (a) := up_n ea301 ha293 (ne_o (i := i) (c := 0) (d := 25) rfl)
  have hg306 := up_n eg302 hg297 (ne_o (i := i) (c := 0) (d := 25) rfl)
  refine z_putF (fs' := [.ref q1, .ref q13, .ref q25, .ref q37, .ref q49, .ref q61, .ref q73, .ref q85, .ref q97, .ref q109, .ref q121, .ref q133, .int (zI (0)), .int (zI (0)), .int (zI (0)), .int (zI (0)), .int (zI (0)), .int (zI (0)), .int (zI (0)), .int (zI (0)), .int (zI (0)), .int (zI (0)), .ref q145, .int (zI (0)), .int (zI (-1)), .int (zI (0)), .int (zI (-1)), .int (zI (-1)), .int (zI (0)), .int (zI (0)), .ref q166, .ref q178, .int (zI (0)), .int (zI (0)), .int (zI (0)), .int (zI (0)), .int (zI (0)), .int (zI (0)), .int (zI (0)), .ref q190, .ref q202, .ref q214, .ref q226, .ref q238, .ref q250, .ref q262, .ref q274, .int (zI (0)), .int (zI (0)), .int (zI (0)), .ref q286, .int (zI (0)), .ref q298, .null, .null, .int (zI (0)), .int (zI (0)), .null, .null, .int (zI (0))]) C (lt_o (i := i) (c := 0) (d := 26) rfl) ha305 hg306 tyX10 tyX10_ok nmX10 rfl inA_X10 52 (by decide) q_1511 rfl rfl hnm rfl rfl rfl (Nat.le_of_ble_eq_true rfl) rfl dX10_init_215 (fun g307 eg308 => ?_)
  have hg309 := up_s eg308
  refine z_aload_n C 0 dX10_init_218 rfl ?_
  refine z_bipush (z := 12) C dX10_init_219 (by decide) ?_
  refine z_newI C 12 rfl q_134 (by decide) (by decide) (by decide) dX10_init_221 (fun q310 ad311 g312 ea313 eg314 => ?_)
  have ha315 : zAt ad311 (i + 1 + 1 + 1 + 1 + 1 + 1 + 1 + 1 + 1 + 1 + 1 + 1 + 1 + 1 + 1 + 1 + 1 + 1 + 1 + 1 + 1 + 1 + 1 + 1 + 1 + 1) q310 := up_s ea313
  have hg316 := up_s eg314
  have ha317 : zAt ad311 (i) (a) := up_n ea313 ha305 (ne_o (i := i) (c := 0) (d := 26) rfl)
  have hg318 := up_n eg314 hg309 (ne_o (i := i) (c := 0) (d := 26) rfl)
  refine z_putF (fs' := [.ref q1, .ref q13, .ref q25, .ref q37, .ref q49, .ref q61, .ref q73, .ref q85, .ref q97, .ref q109, .ref q121, .ref q133, .int (zI (0)), .int (zI (0)), .int (zI (0)), .int (zI (0)), .int (zI (0)), .int (zI (0)), .int (zI (0)), .int (zI (0)), .int (zI (0)), .int (zI (0)), .ref q145, .int (zI (0)), .int (zI (-1)), .int (zI (0)), .int (zI (-1)), .int (zI (-1)), .int (zI (0)), .int (zI (0)), .ref q166, .ref q178, .int (zI (0)), .int (zI (0)), .int (zI (0)), .int (zI (0)), .int (zI (0)), .int (zI (0)), .int (zI (0)), .ref q190, .ref q202, .ref q214, .ref q226, .ref q238, .ref q250, .ref q262, .ref q274, .int (zI (0)), .int (zI (0)), .int (zI (0)), .ref q286, .int (zI (0)), .ref q298, .ref q310, .null, .int (zI (0)), .int (zI (0)), .null, .null, .int (zI (0))]) C (lt_o (i := i) (c := 0) (d := 27) rfl) ha317 hg318 tyX10 tyX10_ok nmX10 rfl inA_X10 53 (by decide) q_1512 rfl rfl hnm rfl rfl rfl (Nat.le_of_ble_eq_true rfl) rfl dX10_init_223 (fun g319 eg320 => ?_)
  have hg321 := up_s eg320
  refine z_aload_n C 0 dX10_init_226 rfl ?_
  refine z_sipush (z := 169) C dX10_init_227 (by decide) ?_
  refine z_newI C 169 rfl q_134 (by decide) (by decide) (by decide) dX10_init_230 (fun q322 ad323 g324 ea325 eg326 => ?_)
  have ha327 : zAt ad323 (i + 1 + 1 + 1 + 1 + 1 + 1 + 1 + 1 + 1 + 1 + 1 + 1 + 1 + 1 + 1 + 1 + 1 + 1 + 1 + 1 + 1 + 1 + 1 + 1 + 1 + 1 + 1) q322 := up_s ea325
  have hg328 := up_s eg326
  have ha329 : zAt ad323 (i) (a) := up_n ea325 ha317 (ne_o (i := i) (c := 0) (d := 27) rfl)
  have hg330 := up_n eg326 hg321 (ne_o (i := i) (c := 0) (d := 27) rfl)
  refine z_putF (fs' := [.ref q1, .ref q13, .ref q25, .ref q37, .ref q49, .ref q61, .ref q73, .ref q85, .ref q97, .ref q109, .ref q121, .ref q133, .int (zI (0)), .int (zI (0)), .int (zI (0)), .int (zI (0)), .int (zI (0)), .int (zI (0)), .int (zI (0)), .int (zI (0)), .int (zI (0)), .int (zI (0)), .ref q145, .int (zI (0)), .int (zI (-1)), .int (zI (0)), .int (zI (-1)), .int (zI (-1)), .int (zI (0)), .int (zI (0)), .ref q166, .ref q178, .int (zI (0)), .int (zI (0)), .int (zI (0)), .int (zI (0)), .int (zI (0)), .int (zI (0)), .int (zI (0)), .ref q190, .ref q202, .ref q214, .ref q226, .ref q238, .ref q250, .ref q262, .ref q274, .int (zI (0)), .int (zI (0)), .int (zI (0)), .ref q286, .int (zI (0)), .ref q298, .ref q310, .ref q322, .int (zI (0)), .int (zI (0)), .null, .null, .int (zI (0))]) C (lt_o (i := i) (c := 0) (d := 28) rfl) ha329 hg330 tyX10 tyX10_ok nmX10 rfl inA_X10 54 (by decide) q_1513 rfl rfl hnm rfl rfl rfl (Nat.le_of_ble_eq_true rfl) rfl dX10_init_232 (fun g331 eg332 => ?_)
  have hg333 := up_s eg332
  refine z_aload_n C 0 dX10_init_235 rfl ?_
  refine z_iconst (z := 4) C dX10_init_236 rfl ?_
  refine z_newI C 4 rfl q_134 (by decide) (by decide) (by decide) dX10_init_237 (fun q334 ad335 g336 ea337 eg338 => ?_)
  have ha339 : zAt ad335 (i + 1 + 1 + 1 + 1 + 1 + 1 + 1 + 1 + 1 + 1 + 1 + 1 + 1 + 1 + 1 + 1 + 1 + 1 + 1 + 1 + 1 + 1 + 1 + 1 + 1 + 1 + 1 + 1) q334 := up_s ea337
  have hg340 := up_s eg338
  have ha341 : zAt ad335 (i) (a) := up_n ea337 ha329 (ne_o (i := i) (c := 0) (d := 28) rfl)
  have hg342 := up_n eg338 hg333 (ne_o (i := i) (c := 0) (d := 28) rfl)
  refine z_putF (fs' := [.ref q1, .ref q13, .ref q25, .ref q37, .ref q49, .ref q61, .ref q73, .ref q85, .ref q97, .ref q109, .ref q121, .ref q133, .int (zI (0)), .int (zI (0)), .int (zI (0)), .int (zI (0)), .int (zI (0)), .int (zI (0)), .int (zI (0)), .int (zI (0)), .int (zI (0)), .int (zI (0)), .ref q145, .int (zI (0)), .int (zI (-1)), .int (zI (0)), .int (zI (-1)), .int (zI (-1)), .int (zI (0)), .int (zI (0)), .ref q166, .ref q178, .int (zI (0)), .int (zI (0)), .int (zI (0)), .int (zI (0)), .int (zI (0)), .int (zI (0)), .int (zI (0)), .ref q190, .ref q202, .ref q214, .ref q226, .ref q238, .ref q250, .ref q262, .ref q274, .int (zI (0)), .int (zI (0)), .int (zI (0)), .ref q286, .int (zI (0)), .ref q298, .ref q310, .ref q322, .int (zI (0)), .int (zI (0)), .ref q334, .null, .int (zI (0))]) C (lt_o (i := i) (c := 0) (d := 29) rfl) ha341 hg342 tyX10 tyX10_ok nmX10 rfl inA_X10 57 (by decide) q_1516 rfl rfl hnm rfl rfl rfl (Nat.le_of_ble_eq_true rfl) rfl dX10_init_239 (fun g343 eg344 => ?_)
  have hg345 := up_s eg344
  refine z_aload_n C 0 dX10_init_242 rfl ?_
  refine z_sipush (z := 4800) C dX10_init_243 (by decide) ?_
  refine z_newI C 4800 rfl q_134 (by decide) (by decide) (by decide) dX10_init_246 (fun q346 ad347 g348 ea349 eg350 => ?_)
  have ha351 : zAt ad347 (i + 1 + 1 + 1 + 1 + 1 + 1 + 1 + 1 + 1 + 1 + 1 + 1 + 1 + 1 + 1 + 1 + 1 + 1 + 1 + 1 + 1 + 1 + 1 + 1 + 1 + 1 + 1 + 1 + 1) q346 := up_s ea349
  have hg352 := up_s eg350
  have ha353 : zAt ad347 (i) (a) := up_n ea349 ha341 (ne_o (i := i) (c := 0) (d := 29) rfl)
  have hg354 := up_n eg350 hg345 (ne_o (i := i) (c := 0) (d := 29) rfl)
  refine z_putF (fs' := [.ref q1, .ref q13, .ref q25, .ref q37, .ref q49, .ref q61, .ref q73, .ref q85, .ref q97, .ref q109, .ref q121, .ref q133, .int (zI (0)), .int (zI (0)), .int (zI (0)), .int (zI (0)), .int (zI (0)), .int (zI (0)), .int (zI (0)), .int (zI (0)), .int (zI (0)), .int (zI (0)), .ref q145, .int (zI (0)), .int (zI (-1)), .int (zI (0)), .int (zI (-1)), .int (zI (-1)), .int (zI (0)), .int (zI (0)), .ref q166, .ref q178, .int (zI (0)), .int (zI (0)), .int (zI (0)), .int (zI (0)), .int (zI (0)), .int (zI (0)), .int (zI (0)), .ref q190, .ref q202, .ref q214, .ref q226, .ref q238, .ref q250, .ref q262, .ref q274, .int (zI (0)), .int (zI (0)), .int (zI (0)), .ref q286, .int (zI (0)), .ref q298, .ref q310, .ref q322, .int (zI (0)), .int (zI (0)), .ref q334, .ref q346, .int (zI (0))]) C (lt_o (i := i) (c := 0) (d := 30) rfl) ha353 hg354 tyX10 tyX10_ok nmX10 rfl inA_X10 58 (by decide) q_1517 rfl rfl hnm rfl rfl rfl (Nat.le_of_ble_eq_true rfl) rfl dX10_init_248 (fun g355 eg356 => ?_)
  have hg357 := up_s eg356
  refine z_aload_n C 0 dX10_init_251 rfl ?_
  have ha358 : zAt ad14 (i + 1) (q1) := up_n ea16 ha6 (ne_o (i := i) (c := 1) (d := 2) rfl)
  have ha359 : zAt ad26 (i + 1) (q1) := up_n ea28 ha358 (ne_o (i := i) (c := 1) (d := 3) rfl)
  have ha360 : zAt ad38 (i + 1) (q1) := up_n ea40 ha359 (ne_o (i := i) (c := 1) (d := 4) rfl)
  have ha361 : zAt ad50 (i + 1) (q1) := up_n ea52 ha360 (ne_o (i := i) (c := 1) (d := 5) rfl)
  have ha362 : zAt ad62 (i + 1) (q1) := up_n ea64 ha361 (ne_o (i := i) (c := 1) (d := 6) rfl)
  have ha363 : zAt ad74 (i + 1) (q1) := up_n ea76 ha362 (ne_o (i := i) (c := 1) (d := 7) rfl)
  have ha364 : zAt ad86 (i + 1) (q1) := up_n ea88 ha363 (ne_o (i := i) (c := 1) (d := 8) rfl)
  have ha365 : zAt ad98 (i + 1) (q1) := up_n ea100 ha364 (ne_o (i := i) (c := 1) (d := 9) rfl)
  have ha366 : zAt ad110 (i + 1) (q1) := up_n ea112 ha365 (ne_o (i := i) (c := 1) (d := 10) rfl)
  have ha367 : zAt ad122 (i + 1) (q1) := up_n ea124 ha366 (ne_o (i := i) (c := 1) (d := 11) rfl)
  have ha368 : zAt ad134 (i + 1) (q1) := up_n ea136 ha367 (ne_o (i := i) (c := 1) (d := 12) rfl)
  have ha369 : zAt ad146 (i + 1) (q1) := up_n ea148 ha368 (ne_o (i := i) (c := 1) (d := 13) rfl)
  have ha370 : zAt ad167 (i + 1) (q1) := up_n ea169 ha369 (ne_o (i := i) (c := 1) (d := 14) rfl)
  have ha371 : zAt ad179 (i + 1) (q1) := up_n ea181 ha370 (ne_o (i := i) (c := 1) (d := 15) rfl)
  have ha372 : zAt ad191 (i + 1) (q1) := up_n ea193 ha371 (ne_o (i := i) (c := 1) (d := 16) rfl)
  have ha373 : zAt ad203 (i + 1) (q1) := up_n ea205 ha372 (ne_o (i := i) (c := 1) (d := 17) rfl)
  have ha374 : zAt ad215 (i + 1) (q1) := up_n ea217 ha373 (ne_o (i := i) (c := 1) (d := 18) rfl)
  have ha375 : zAt ad227 (i + 1) (q1) := up_n ea229 ha374 (ne_o (i := i) (c := 1) (d := 19) rfl)
  have ha376 : zAt ad239 (i + 1) (q1) := up_n ea241 ha375 (ne_o (i := i) (c := 1) (d := 20) rfl)
  have ha377 : zAt ad251 (i + 1) (q1) := up_n ea253 ha376 (ne_o (i := i) (c := 1) (d := 21) rfl)
  have ha378 : zAt ad263 (i + 1) (q1) := up_n ea265 ha377 (ne_o (i := i) (c := 1) (d := 22) rfl)
  have ha379 : zAt ad275 (i + 1) (q1) := up_n ea277 ha378 (ne_o (i := i) (c := 1) (d := 23) rfl)
  have ha380 : zAt ad287 (i + 1) (q1) := up_n ea289 ha379 (ne_o (i := i) (c := 1) (d := 24) rfl)
  have ha381 : zAt ad299 (i + 1) (q1) := up_n ea301 ha380 (ne_o (i := i) (c := 1) (d := 25) rfl)
  have ha382 : zAt ad311 (i + 1) (q1) := up_n ea313 ha381 (ne_o (i := i) (c := 1) (d := 26) rfl)
  have ha383 : zAt ad323 (i + 1) (q1) := up_n ea325 ha382 (ne_o (i := i) (c := 1) (d := 27) rfl)
  have ha384 : zAt ad335 (i + 1) (q1) := up_n ea337 ha383 (ne_o (i := i) (c := 1) (d := 28) rfl)
  have ha385 : zAt ad347 (i + 1) (q1) := up_n ea349 ha384 (ne_o (i := i) (c := 1) (d := 29) rfl)
  have ha386 : zAt ad26 (i + 1 + 1) (q13) := up_n ea28 ha18 (ne_o (i := i) (c := 2) (d := 3) rfl)
  have ha387 : zAt ad38 (i + 1 + 1) (q13) := up_n ea40 ha386 (ne_o (i := i) (c := 2) (d := 4) rfl)
  have ha388 : zAt ad50 (i + 1 + 1) (q13) := up_n ea52 ha387 (ne_o (i := i) (c := 2) (d := 5) rfl)
  have ha389 : zAt ad62 (i + 1 + 1) (q13) := up_n ea64 ha388 (ne_o (i := i) (c := 2) (d := 6) rfl)
  have ha390 : zAt ad74 (i + 1 + 1) (q13) := up_n ea76 ha389 (ne_o (i := i) (c := 2) (d := 7) rfl)
  have ha391 : zAt ad86 (i + 1 + 1) (q13) := up_n ea88 ha390 (ne_o (i := i) (c := 2) (d := 8) rfl)
  have ha392 : zAt ad98 (i + 1 + 1) (q13) := up_n ea100 ha391 (ne_o (i := i) (c := 2) (d := 9) rfl)
  have ha393 : zAt ad110 (i + 1 + 1) (q13) := up_n ea112 ha392 (ne_o (i := i) (c := 2) (d := 10) rfl)
  have ha394 : zAt ad122 (i + 1 + 1) (q13) := up_n ea124 ha393 (ne_o (i := i) (c := 2) (d := 11) rfl)
  have ha395 : zAt ad134 (i + 1 + 1) (q13) := up_n ea136 ha394 (ne_o (i := i) (c := 2) (d := 12) rfl)
  have ha396 : zAt ad146 (i + 1 + 1) (q13) := up_n ea148 ha395 (ne_o (i := i) (c := 2) (d := 13) rfl)
  have ha397 : zAt ad167 (i + 1 + 1) (q13) := up_n ea169 ha396 (ne_o (i := i) (c := 2) (d := 14) rfl)
  have ha398 : zAt ad179 (i + 1 + 1) (q13) := up_n ea181 ha397 (ne_o (i := i) (c := 2) (d := 15) rfl)
  have ha399 : zAt ad191 (i + 1 + 1) (q13) := up_n ea193 ha398 (ne_o (i := i) (c := 2) (d := 16) rfl)
  have ha400 : zAt ad203 (i + 1 + 1) (q13) := up_n ea205 ha399 (ne_o (i := i) (c := 2) (d := 17) rfl)
  have ha401 : zAt ad215 (i + 1 + 1) (q13) := up_n ea217 ha400 (ne_o (i := i) (c := 2) (d := 18) rfl)
  have ha402 : zAt ad227 (i + 1 + 1) (q13) := up_n ea229 ha401 (ne_o (i := i) (c := 2) (d := 19) rfl)
  have ha403 : zAt ad239 (i + 1 + 1) (q13) := up_n ea241 ha402 (ne_o (i := i) (c := 2) (d := 20) rfl)
  have ha404 : zAt ad251 (i + 1 + 1) (q13) := up_n ea253 ha403 (ne_o (i := i) (c := 2) (d := 21) rfl)
  have ha405 : zAt ad263 (i + 1 + 1) (q13) := up_n ea265 ha404 (ne_o (i := i) (c := 2) (d := 22) rfl)
  have ha406 : zAt ad275 (i + 1 + 1) (q13) := up_n ea277 ha405 (ne_o (i := i) (c := 2) (d := 23) rfl)
  have ha407 : zAt ad287 (i + 1 + 1) (q13) := up_n ea289 ha406 (ne_o (i := i) (c := 2) (d := 24) rfl)
  have ha408 : zAt ad299 (i + 1 + 1) (q13) := up_n ea301 ha407 (ne_o (i := i) (c := 2) (d := 25) rfl)
  have ha409 : zAt ad311 (i + 1 + 1) (q13) := up_n ea313 ha408 (ne_o (i := i) (c := 2) (d := 26) rfl)
  have ha410 : zAt ad323 (i + 1 + 1) (q13) := up_n ea325 ha409 (ne_o (i := i) (c := 2) (d := 27) rfl)
  have ha411 : zAt ad335 (i + 1 + 1) (q13) := up_n ea337 ha410 (ne_o (i := i) (c := 2) (d := 28) rfl)
  have ha412 : zAt ad347 (i + 1 + 1) (q13) := up_n ea349 ha411 (ne_o (i := i) (c := 2) (d := 29) rfl)
  have ha413 : zAt ad38 (i + 1 + 1 + 1) (q25) := up_n ea40 ha30 (ne_o (i := i) (c := 3) (d := 4) rfl)
  have ha414 : zAt ad50 (i + 1 + 1 + 1) (q25) := up_n ea52 ha413 (ne_o (i := i) (c := 3) (d := 5) rfl)
  have ha415 : zAt ad62 (i + 1 + 1 + 1) (q25) := up_n ea64 ha414 (ne_o (i := i) (c := 3) (d := 6) rfl)
  have ha416 : zAt ad74 (i + 1 + 1 + 1) (q25) := up_n ea76 ha415 (ne_o (i := i) (c := 3) (d := 7) rfl)
  have ha417 : zAt ad86 (i + 1 + 1 + 1) (q25) := up_n ea88 ha416 (ne_o (i := i) (c := 3) (d := 8) rfl)
  have ha418 : zAt ad98 (i + 1 + 1 + 1) (q25) := up_n ea100 ha417 (ne_o (i := i) (c := 3) (d := 9) rfl)
  have ha419 : zAt ad110 (i + 1 + 1 + 1) (q25) := up_n ea112 ha418 (ne_o (i := i) (c := 3) (d := 10) rfl)
  have ha420 : zAt ad122 (i + 1 + 1 + 1) (q25) := up_n ea124 ha419 (ne_o (i := i) (c := 3) (d := 11) rfl)
  have ha421 : zAt ad134 (i + 1 + 1 + 1) (q25) := up_n ea136 ha420 (ne_o (i := i) (c := 3) (d := 12) rfl)
  have ha422 : zAt ad146 (i + 1 + 1 + 1) (q25) := up_n ea148 ha421 (ne_o (i := i) (c := 3) (d := 13) rfl)
  have ha423 : zAt ad167 (i + 1 + 1 + 1) (q25) := up_n ea169 ha422 (ne_o (i := i) (c := 3) (d := 14) rfl)
  have ha424 : zAt ad179 (i + 1 + 1 + 1) (q25) := up_n ea181 ha423 (ne_o (i := i) (c := 3) (d := 15) rfl)
  have ha425 : zAt ad191 (i + 1 + 1 + 1) (q25) := up_n ea193 ha424 (ne_o (i := i) (c := 3) (d := 16) rfl)
  have ha426 : zAt ad203 (i + 1 + 1 + 1) (q25) := up_n ea205 ha425 (ne_o (i := i) (c := 3) (d := 17) rfl)
  have ha427 : zAt ad215 (i + 1 + 1 + 1) (q25) := up_n ea217 ha426 (ne_o (i := i) (c := 3) (d := 18) rfl)
  have ha428 : zAt ad227 (i + 1 + 1 + 1) (q25) := up_n ea229 ha427 (ne_o (i := i) (c := 3) (d := 19) rfl)
  have ha429 : zAt ad239 (i + 1 + 1 + 1) (q25) := up_n ea241 ha428 (ne_o (i := i) (c := 3) (d := 20) rfl)
  have ha430 : zAt ad251 (i + 1 + 1 + 1) (q25) := up_n ea253 ha429 (ne_o (i := i) (c := 3) (d := 21) rfl)
  have ha431 : zAt ad263 (i + 1 + 1 + 1) (q25) := up_n ea265 ha430 (ne_o (i := i) (c := 3) (d := 22) rfl)
  have ha432 : zAt ad275 (i + 1 + 1 + 1) (q25) := up_n ea277 ha431 (ne_o (i := i) (c := 3) (d := 23) rfl)
  have ha433 : zAt ad287 (i + 1 + 1 + 1) (q25) := up_n ea289 ha432 (ne_o (i := i) (c := 3) (d := 24) rfl)
  have ha434 : zAt ad299 (i + 1 + 1 + 1) (q25) := up_n ea301 ha433 (ne_o (i := i) (c := 3) (d := 25) rfl)
  have ha435 : zAt ad311 (i + 1 + 1 + 1) (q25) := up_n ea313 ha434 (ne_o (i := i) (c := 3) (d := 26) rfl)
  have ha436 : zAt ad323 (i + 1 + 1 + 1) (q25) := up_n ea325 ha435 (ne_o (i := i) (c := 3) (d := 27) rfl)
  have ha437 : zAt ad335 (i + 1 + 1 + 1) (q25) := up_n ea337 ha436 (ne_o (i := i) (c := 3) (d := 28) rfl)
  have ha438 : zAt ad347 (i + 1 + 1 + 1) (q25) := up_n ea349 ha437 (ne_o (i := i) (c := 3) (d := 29) rfl)
  have ha439 : zAt ad50 (i + 1 + 1 + 1 + 1) (q37) := up_n ea52 ha42 (ne_o (i := i) (c := 4) (d := 5) rfl)
  have ha440 : zAt ad62 (i + 1 + 1 + 1 + 1) (q37) := up_n ea64 ha439 (ne_o (i := i) (c := 4) (d := 6) rfl)
  have ha441 : zAt ad74 (i + 1 + 1 + 1 + 1) (q37) := up_n ea76 ha440 (ne_o (i := i) (c := 4) (d := 7) rfl)
  have ha442 : zAt ad86 (i + 1 + 1 + 1 + 1) (q37) := up_n ea88 ha441 (ne_o (i := i) (c := 4) (d := 8) rfl)
  have ha443 : zAt ad98 (i + 1 + 1 + 1 + 1) (q37) := up_n ea100 ha442 (ne_o (i := i) (c := 4) (d := 9) rfl)
  have ha444 : zAt ad110 (i + 1 + 1 + 1 + 1) (q37) := up_n ea112 ha443 (ne_o (i := i) (c := 4) (d := 10) rfl)
  have ha445 : zAt ad122 (i + 1 + 1 + 1 + 1) (q37) := up_n ea124 ha444 (ne_o (i := i) (c := 4) (d := 11) rfl)
  have ha446 : zAt ad134 (i + 1 + 1 + 1 + 1) (q37) := up_n ea136 ha445 (ne_o (i := i) (c := 4) (d := 12) rfl)
  have ha447 : zAt ad146 (i + 1 + 1 + 1 + 1) (q37) := up_n ea148 ha446 (ne_o (i := i) (c := 4) (d := 13) rfl)
  have ha448 : zAt ad167 (i + 1 + 1 + 1 + 1) (q37) := up_n ea169 ha447 (ne_o (i := i) (c := 4) (d := 14) rfl)
  have ha449 : zAt ad179 (i + 1 + 1 + 1 + 1) (q37) := up_n ea181 ha448 (ne_o (i := i) (c := 4) (d := 15) rfl)
  have ha450 : zAt ad191 (i + 1 + 1 + 1 + 1) (q37) := up_n ea193 ha449 (ne_o (i := i) (c := 4) (d := 16) rfl)
  have ha451 : zAt ad203 (i + 1 + 1 + 1 + 1) (q37) := up_n ea205 ha450 (ne_o (i := i) (c := 4) (d := 17) rfl)
  have ha452 : zAt ad215 (i + 1 + 1 + 1 + 1) (q37) := up_n ea217 ha451 (ne_o (i := i) (c := 4) (d := 18) rfl)
  have ha453 : zAt ad227 (i + 1 + 1 + 1 + 1) (q37) := up_n ea229 ha452 (ne_o (i := i) (c := 4) (d := 19) rfl)
  have ha454 : zAt ad239 (i + 1 + 1 + 1 + 1) (q37) := up_n ea241 ha453 (ne_o (i := i) (c := 4) (d := 20) rfl)
  have ha455 : zAt ad251 (i + 1 + 1 + 1 + 1) (q37) := up_n ea253 ha454 (ne_o (i := i) (c := 4) (d := 21) rfl)
  have ha456 : zAt ad263 (i + 1 + 1 + 1 + 1) (q37) := up_n ea265 ha455 (ne_o (i := i) (c := 4) (d := 22) rfl)
  have ha457 : zAt ad275 (i + 1 + 1 + 1 + 1) (q37) := up_n ea277 ha456 (ne_o (i := i) (c := 4) (d := 23) rfl)
  have ha458 : zAt ad287 (i + 1 + 1 + 1 + 1) (q37) := up_n ea289 ha457 (ne_o (i := i) (c := 4) (d := 24) rfl)
  have ha459 : zAt ad299 (i + 1 + 1 + 1 + 1) (q37) := up_n ea301 ha458 (ne_o (i := i) (c := 4) (d := 25) rfl)
  have ha460 : zAt ad311 (i + 1 + 1 + 1 + 1) (q37) := up_n ea313 ha459 (ne_o (i := i) (c := 4) (d := 26) rfl)
  have ha461 : zAt ad323 (i + 1 + 1 + 1 + 1) (q37) := up_n ea325 ha460 (ne_o (i := i) (c := 4) (d := 27) rfl)
  have ha462 : zAt ad335 (i + 1 + 1 + 1 + 1) (q37) := up_n ea337 ha461 (ne_o (i := i) (c := 4) (d := 28) rfl)
  have ha463 : zAt ad347 (i + 1 + 1 + 1 + 1) (q37) := up_n ea349 ha462 (ne_o (i := i) (c := 4) (d := 29) rfl)
  have ha464 : zAt ad62 (i + 1 + 1 + 1 + 1 + 1) (q49) := up_n ea64 ha54 (ne_o (i := i) (c := 5) (d := 6) rfl)
  have ha465 : zAt ad74 (i + 1 + 1 + 1 + 1 + 1) (q49) := up_n ea76 ha464 (ne_o (i := i) (c := 5) (d := 7) rfl)
  have ha466 : zAt ad86 (i + 1 + 1 + 1 + 1 + 1) (q49) := up_n ea88 ha465 (ne_o (i := i) (c := 5) (d := 8) rfl)
  have ha467 : zAt ad98 (i + 1 + 1 + 1 + 1 + 1) (q49) := up_n ea100 ha466 (ne_o (i := i) (c := 5) (d := 9) rfl)
  have ha468 : zAt ad110 (i + 1 + 1 + 1 + 1 + 1) (q49) := up_n ea112 ha467 (ne_o (i := i) (c := 5) (d := 10) rfl)
  have ha469 : zAt ad122 (i + 1 + 1 + 1 + 1 + 1) (q49) := up_n ea124 ha468 (ne_o (i := i) (c := 5) (d := 11) rfl)
  have ha470 : zAt ad134 (i + 1 + 1 + 1 + 1 + 1) (q49) := up_n ea136 ha469 (ne_o (i := i) (c := 5) (d := 12) rfl)
  have ha471 : zAt ad146 (i + 1 + 1 + 1 + 1 + 1) (q49) := up_n ea148 ha470 (ne_o (i := i) (c := 5) (d := 13) rfl)
  have ha472 : zAt ad167 (i + 1 + 1 + 1 + 1 + 1) (q49) := up_n ea169 ha471 (ne_o (i := i) (c := 5) (d := 14) rfl)
  have ha473 : zAt ad179 (i + 1 + 1 + 1 + 1 + 1) (q49) := up_n ea181 ha472 (ne_o (i := i) (c := 5) (d := 15) rfl)
  have ha474 : zAt ad191 (i + 1 + 1 + 1 + 1 + 1) (q49) := up_n ea193 ha473 (ne_o (i := i) (c := 5) (d := 16) rfl)
  have ha475 : zAt ad203 (i + 1 + 1 + 1 + 1 + 1) (q49) := up_n ea205 ha474 (ne_o (i := i) (c := 5) (d := 17) rfl)
  have ha476 : zAt ad215 (i + 1 + 1 + 1 + 1 + 1) (q49) := up_n ea217 ha475 (ne_o (i := i) (c := 5) (d := 18) rfl)
  have ha477 : zAt ad227 (i + 1 + 1 + 1 + 1 + 1) (q49) := up_n ea229 ha476 (ne_o (i := i) (c := 5) (d := 19) rfl)
  have ha478 : zAt ad239 (i + 1 + 1 + 1 + 1 + 1) (q49) := up_n ea241 ha477 (ne_o (i := i) (c := 5) (d := 20) rfl)
  have ha479 : zAt ad251 (i + 1 + 1 + 1 + 1 + 1) (q49) := up_n ea253 ha478 (ne_o (i := i) (c := 5) (d := 21) rfl)
  have ha480 : zAt ad263 (i + 1 + 1 + 1 + 1 + 1) (q49) := up_n ea265 ha479 (ne_o (i := i) (c := 5) (d := 22) rfl)
  have ha481 : zAt ad275 (i + 1 + 1 + 1 + 1 + 1) (q49) := up_n ea277 ha480 (ne_o (i := i) (c := 5) (d := 23) rfl)
  have ha482 : zAt ad287 (i + 1 + 1 + 1 + 1 + 1) (q49) := up_n ea289 ha481 (ne_o (i := i) (c := 5) (d := 24) rfl)
  have ha483 : zAt ad299 (i + 1 + 1 + 1 + 1 + 1) (q49) := up_n ea301 ha482 (ne_o (i := i) (c := 5) (d := 25) rfl)
  have ha484 : zAt ad311 (i + 1 + 1 + 1 + 1 + 1) (q49) := up_n ea313 ha483 (ne_o (i := i) (c := 5) (d := 26) rfl)
  have ha485 : zAt ad323 (i + 1 + 1 + 1 + 1 + 1) (q49) := up_n ea325 ha484 (ne_o (i := i) (c := 5) (d := 27) rfl)
  have ha486 : zAt ad335 (i + 1 + 1 + 1 + 1 + 1) (q49) := up_n ea337 ha485 (ne_o (i := i) (c := 5) (d := 28) rfl)
  have ha487 : zAt ad347 (i + 1 + 1 + 1 + 1 + 1) (q49) := up_n ea349 ha486 (ne_o (i := i) (c := 5) (d := 29) rfl)
  have ha488 : zAt ad74 (i + 1 + 1 + 1 + 1 + 1 + 1) (q61) := up_n ea76 ha66 (ne_o (i := i) (c := 6) (d := 7) rfl)
  have ha489 : zAt ad86 (i + 1 + 1 + 1 + 1 + 1 + 1) (q61) := up_n ea88 ha488 (ne_o (i := i) (c := 6) (d := 8) rfl)
  have ha490 : zAt ad98 (i + 1 + 1 + 1 + 1 + 1 + 1) (q61) := up_n ea100 ha489 (ne_o (i := i) (c := 6) (d := 9) rfl)
  have ha491 : zAt ad110 (i + 1 + 1 + 1 + 1 + 1 + 1) (q61) := up_n ea112 ha490 (ne_o (i := i) (c := 6) (d := 10) rfl)
  have ha492 : zAt ad122 (i + 1 + 1 + 1 + 1 + 1 + 1) (q61) := up_n ea124 ha491 (ne_o (i := i) (c := 6) (d := 11) rfl)
  have ha493 : zAt ad134 (i + 1 + 1 + 1 + 1 + 1 + 1) (q61) := up_n ea136 ha492 (ne_o (i := i) (c := 6) (d := 12) rfl)
  have ha494 : zAt ad146 (i + 1 + 1 + 1 + 1 + 1 + 1) (q61) := up_n ea148 ha493 (ne_o (i := i) (c := 6) (d := 13) rfl)
  have ha495 : zAt ad167 (i + 1 + 1 + 1 + 1 + 1 + 1) (q61) := up_n ea169 ha494 (ne_o (i := i) (c := 6) (d := 14) rfl)
  have ha496 : zAt ad179 (i + 1 + 1 + 1 + 1 + 1 + 1) (q61) := up_n ea181 ha495 (ne_o (i := i) (c := 6) (d := 15) rfl)
  have ha497 : zAt ad191 (i + 1 + 1 + 1 + 1 + 1 + 1) (q61) := up_n ea193 ha496 (ne_o (i := i) (c := 6) (d := 16) rfl)
  have ha498 : zAt ad203 (i + 1 + 1 + 1 + 1 + 1 + 1) (q61) := up_n ea205 ha497 (ne_o (i := i) (c := 6) (d := 17) rfl)
  have ha499 : zAt ad215 (i + 1 + 1 + 1 + 1 + 1 + 1) (q61) := up_n ea217 ha498 (ne_o (i := i) (c := 6) (d := 18) rfl)
  have ha500 : zAt ad227 (i + 1 + 1 + 1 + 1 + 1 + 1) (q61) := up_n ea229 ha499 (ne_o (i := i) (c := 6) (d := 19) rfl)
  have ha501 : zAt ad239 (i + 1 + 1 + 1 + 1 + 1 + 1) (q61) := up_n ea241 ha500 (ne_o (i := i) (c := 6) (d := 20) rfl)
  have ha502 : zAt ad251 (i + 1 + 1 + 1 + 1 + 1 + 1) (q61) := up_n ea253 ha501 (ne_o (i := i) (c := 6) (d := 21) rfl)
  have ha503 : zAt ad263 (i + 1 + 1 + 1 + 1 + 1 + 1) (q61) := up_n ea265 ha502 (ne_o (i := i) (c := 6) (d := 22) rfl)
  have ha504 : zAt ad275 (i + 1 + 1 + 1 + 1 + 1 + 1) (q61) := up_n ea277 ha503 (ne_o (i := i) (c := 6) (d := 23) rfl)
  have ha505 : zAt ad287 (i + 1 + 1 + 1 + 1 + 1 + 1) (q61) := up_n ea289 ha504 (ne_o (i := i) (c := 6) (d := 24) rfl)
  have ha506 : zAt ad299 (i + 1 + 1 + 1 + 1 + 1 + 1) (q61) := up_n ea301 ha505 (ne_o (i := i) (c := 6) (d := 25) rfl)
  have ha507 : zAt ad311 (i + 1 + 1 + 1 + 1 + 1 + 1) (q61) := up_n ea313 ha506 (ne_o (i := i) (c := 6) (d := 26) rfl)
  have ha508 : zAt ad323 (i + 1 + 1 + 1 + 1 + 1 + 1) (q61) := up_n ea325 ha507 (ne_o (i := i) (c := 6) (d := 27) rfl)
  have ha509 : zAt ad335 (i + 1 + 1 + 1 + 1 + 1 + 1) (q61) := up_n ea337 ha508 (ne_o (i := i) (c := 6) (d := 28) rfl)
  have ha510 : zAt ad347 (i + 1 + 1 + 1 + 1 + 1 + 1) (q61) := up_n ea349 ha509 (ne_o (i := i) (c := 6) (d := 29) rfl)
  have ha511 : zAt ad86 (i + 1 + 1 + 1 + 1 + 1 + 1 + 1) (q73) := up_n ea88 ha78 (ne_o (i := i) (c := 7) (d := 8) rfl)
  have ha512 : zAt ad98 (i + 1 + 1 + 1 + 1 + 1 + 1 + 1) (q73) := up_n ea100 ha511 (ne_o (i := i) (c := 7) (d := 9) rfl)
  have ha513 : zAt ad110 (i + 1 + 1 + 1 + 1 + 1 + 1 + 1) (q73) := up_n ea112 ha512 (ne_o (i := i) (c := 7) (d := 10) rfl)
  have ha514 : zAt ad122 (i + 1 + 1 + 1 + 1 + 1 + 1 + 1) (q73) := up_n ea124 ha513 (ne_o (i := i) (c := 7) (d := 11) rfl)
  have ha515 : zAt ad134 (i + 1 + 1 + 1 + 1 + 1 + 1 + 1) (q73) := up_n ea136 ha514 (ne_o (i := i) (c := 7) (d := 12) rfl)
  have ha516 : zAt ad146 (i + 1 + 1 + 1 + 1 + 1 + 1 + 1) (q73) := up_n ea148 ha515 (ne_o (i := i) (c := 7) (d := 13) rfl)
  have ha517 : zAt ad167 (i + 1 + 1 + 1 + 1 + 1 + 1 + 1) (q73) := up_n ea169 ha516 (ne_o (i := i) (c := 7) (d := 14) rfl)
  have ha518 : zAt ad179 (i + 1 + 1 + 1 + 1 + 1 + 1 + 1) (q73) := up_n ea181 ha517 (ne_o (i := i) (c := 7) (d := 15) rfl)
  have ha519 : zAt ad191 (i + 1 + 1 + 1 + 1 + 1 + 1 + 1) (q73) := up_n ea193 ha518 (ne_o (i := i) (c := 7) (d := 16) rfl)
  have ha520 : zAt ad203 (i + 1 + 1 + 1 + 1 + 1 + 1 + 1) (q73) := up_n ea205 ha519 (ne_o (i := i) (c := 7) (d := 17) rfl)
  have ha521 : zAt ad215 (i + 1 + 1 + 1 + 1 + 1 + 1 + 1) (q73) := up_n ea217 ha520 (ne_o (i := i) (c := 7) (d := 18) rfl)
  have ha522 : zAt ad227 (i + 1 + 1 + 1 + 1 + 1 + 1 + 1) (q73) := up_n ea229 ha521 (ne_o (i := i) (c := 7) (d := 19) rfl)
  have ha523 : zAt ad239 (i + 1 + 1 + 1 + 1 + 1 + 1 + 1) (q73) := up_n ea241 ha522 (ne_o (i := i) (c := 7) (d := 20) rfl)
  have ha524 : zAt ad251 (i + 1 + 1 + 1 + 1 + 1 + 1 + 1) (q73) := up_n ea253 ha523 (ne_o (i := i) (c := 7) (d := 21) rfl)
  have ha525 : zAt ad263 (i + 1 + 1 + 1 + 1 + 1 + 1 + 1) (q73) := up_n ea265 ha524 (ne_o (i := i) (c := 7) (d := 22) rfl)
  have ha526 : zAt ad275 (i + 1 + 1 + 1 + 1 + 1 + 1 + 1) (q73) := up_n ea277 ha525 (ne_o (i := i) (c := 7) (d := 23) rfl)
  have ha527 : zAt ad287 (i + 1 + 1 + 1 + 1 + 1 + 1 + 1) (q73) := up_n ea289 ha526 (ne_o (i := i) (c := 7) (d := 24) rfl)
  have ha528 : zAt ad299 (i + 1 + 1 + 1 + 1 + 1 + 1 + 1) (q73) := up_n ea301 ha527 (ne_o (i := i) (c := 7) (d := 25) rfl)
  have ha529 : zAt ad311 (i + 1 + 1 + 1 + 1 + 1 + 1 + 1) (q73) := up_n ea313 ha528 (ne_o (i := i) (c := 7) (d := 26) rfl)
  have ha530 : zAt ad323 (i + 1 + 1 + 1 + 1 + 1 + 1 + 1) (q73) := up_n ea325 ha529 (ne_o (i := i) (c := 7) (d := 27) rfl)
  have ha531 : zAt ad335 (i + 1 + 1 + 1 + 1 + 1 + 1 + 1) (q73) := up_n ea337 ha530 (ne_o (i := i) (c := 7) (d := 28) rfl)
  have ha532 : zAt ad347 (i + 1 + 1 + 1 + 1 + 1 + 1 + 1) (q73) := up_n ea349 ha531 (ne_o (i := i) (c := 7) (d := 29) rfl)
  have ha533 : zAt ad98 (i + 1 + 1 + 1 + 1 + 1 + 1 + 1 + 1) (q85) := up_n ea100 ha90 (ne_o (i := i) (c := 8) (d := 9) rfl)
  have ha534 : zAt ad110 (i + 1 + 1 + 1 + 1 + 1 + 1 + 1 + 1) (q85) := up_n ea112 ha533 (ne_o (i := i) (c := 8) (d := 10) rfl)
  have ha535 : zAt ad122 (i + 1 + 1 + 1 + 1 + 1 + 1 + 1 + 1) (q85) := up_n ea124 ha534 (ne_o (i := i) (c := 8) (d := 11) rfl)
  have ha536 : zAt ad134 (i + 1 + 1 + 1 + 1 + 1 + 1 + 1 + 1) (q85) := up_n ea136 ha535 (ne_o (i := i) (c := 8) (d := 12) rfl)
  have ha537 : zAt ad146 (i + 1 + 1 + 1 + 1 + 1 + 1 + 1 + 1) (q85) := up_n ea148 ha536 (ne_o (i := i) (c := 8) (d := 13) rfl)
  have ha538 : zAt ad167 (i + 1 + 1 + 1 + 1 + 1 + 1 + 1 + 1) (q85) := up_n ea169 ha537 (ne_o (i := i) (c := 8) (d := 14) rfl)
  have ha539 : zAt ad179 (i + 1 + 1 + 1 + 1 + 1 + 1 + 1 + 1) (q85) := up_n ea181 ha538 (ne_o (i := i) (c := 8) (d := 15) rfl)
  have ha540 : zAt ad191 (i + 1 + 1 + 1 + 1 + 1 + 1 + 1 + 1) (q85) := up_n ea193 ha539 (ne_o (i := i) (c := 8) (d := 16) rfl)
  have ha541 : zAt ad203 (i + 1 + 1 + 1 + 1 + 1 + 1 + 1 + 1) (q85) := up_n ea205 ha540 (ne_o (i := i) (c := 8) (d := 17) rfl)
  have ha542 : zAt ad215 (i + 1 + 1 + 1 + 1 + 1 + 1 + 1 + 1) (q85) := up_n ea217 ha541 (ne_o (i := i) (c := 8) (d := 18) rfl)
  have ha543 : zAt ad227 (i + 1 + 1 + 1 + 1 + 1 + 1 + 1 + 1) (q85) := up_n ea229 ha542 (ne_o (i := i) (c := 8) (d := 19) rfl)
  have ha544 : zAt ad239 (i + 1 + 1 + 1 + 1 + 1 + 1 + 1 + 1) (q85) := up_n ea241 ha543 (ne_o (i := i) (c := 8) (d := 20) rfl)
  have ha545 : zAt ad251 (i + 1 + 1 + 1 + 1 + 1 + 1 + 1 + 1) (q85) := up_n ea253 ha544 (ne_o (i := i) (c := 8) (d := 21) rfl)
  have ha546 : zAt ad263 (i + 1 + 1 + 1 + 1 + 1 + 1 + 1 + 1) (q85) := up_n ea265 ha545 (ne_o (i := i) (c := 8) (d := 22) rfl)
  have ha547 : zAt ad275 (i + 1 + 1 + 1 + 1 + 1 + 1 + 1 + 1) (q85) := up_n ea277 ha546 (ne_o (i := i) (c := 8) (d := 23) rfl)
  have ha548 : zAt ad287 (i + 1 + 1 + 1 + 1 + 1 + 1 + 1 + 1) (q85) := up_n ea289 ha547 (ne_o (i := i) (c := 8) (d := 24) rfl)
  have ha549 : zAt ad299 (i + 1 + 1 + 1 + 1 + 1 + 1 + 1 + 1) (q85) := up_n ea301 ha548 (ne_o (i := i) (c := 8) (d := 25) rfl)
  have ha550 : zAt ad311 (i + 1 + 1 + 1 + 1 + 1 + 1 + 1 + 1) (q85) := up_n ea313 ha549 (ne_o (i := i) (c := 8) (d := 26) rfl)
  have ha551 : zAt ad323 (i + 1 + 1 + 1 + 1 + 1 + 1 + 1 + 1) (q85) := up_n ea325 ha550 (ne_o (i := i) (c := 8) (d := 27) rfl)
  have ha552 : zAt ad335 (i + 1 + 1 + 1 + 1 + 1 + 1 + 1 + 1) (q85) := up_n ea337 ha551 (ne_o (i := i) (c := 8) (d := 28) rfl)
  have ha553 : zAt ad347 (i + 1 + 1 + 1 + 1 + 1 + 1 + 1 + 1) (q85) := up_n ea349 ha552 (ne_o (i := i) (c := 8) (d := 29) rfl)
  have ha554 : zAt ad110 (i + 1 + 1 + 1 + 1 + 1 + 1 + 1 + 1 + 1) (q97) := up_n ea112 ha102 (ne_o (i := i) (c := 9) (d := 10) rfl)
  have ha555 : zAt ad122 (i + 1 + 1 + 1 + 1 + 1 + 1 + 1 + 1 + 1) (q97) := up_n ea124 ha554 (ne_o (i := i) (c := 9) (d := 11) rfl)
  have ha556 : zAt ad134 (i + 1 + 1 + 1 + 1 + 1 + 1 + 1 + 1 + 1) (q97) := up_n ea136 ha555 (ne_o (i := i) (c := 9) (d := 12) rfl)
  have ha557 : zAt ad146 (i + 1 + 1 + 1 + 1 + 1 + 1 + 1 + 1 + 1) (q97) := up_n ea148 ha556 (ne_o (i := i) (c := 9) (d := 13) rfl)
  have ha558 : zAt ad167 (i + 1 + 1 + 1 + 1 + 1 + 1 + 1 + 1 + 1) (q97) := up_n ea169 ha557 (ne_o (i := i) (c := 9) (d := 14) rfl)
  have ha559 : zAt ad179 (i + 1 + 1 + 1 + 1 + 1 + 1 + 1 + 1 + 1) (q97) := up_n ea181 ha558 (ne_o (i := i) (c := 9) (d := 15) rfl)
  have ha560 : zAt ad191 (i + 1 + 1 + 1 + 1 + 1 + 1 + 1 + 1 + 1) (q97) := up_n ea193 ha559 (ne_o (i := i) (c := 9) (d := 16) rfl)
  have ha561 : zAt ad203 (i + 1 + 1 + 1 + 1 + 1 + 1 + 1 + 1 + 1) (q97) := up_n ea205 ha560 (ne_o (i := i) (c := 9) (d := 17) rfl)
  have ha562 : zAt ad215 (i + 1 + 1 + 1 + 1 + 1 + 1 + 1 + 1 + 1) (q97) := up_n ea217 ha561 (ne_o (i := i) (c := 9) (d := 18) rfl)
  have ha563 : zAt ad227 (i + 1 + 1 + 1 + 1 + 1 + 1 + 1 + 1 + 1) (q97) := up_n ea229 ha562 (ne_o (i := i) (c := 9) (d := 19) rfl)
  have ha564 : zAt ad239 (i + 1 + 1 + 1 + 1 + 1 + 1 + 1 + 1 + 1) (q97) := up_n ea241 ha563 (ne_o (i := i) (c := 9) (d := 20) rfl)
  have ha565 : zAt ad251 (i + 1 + 1 + 1 + 1 + 1 + 1 + 1 + 1 + 1) (q97) := up_n ea253 ha564 (ne_o (i := i) (c := 9) (d := 21) rfl)
  have ha566 : zAt ad263 (i + 1 + 1 + 1 + 1 + 1 + 1 + 1 + 1 + 1) (q97) := up_n ea265 ha565 (ne_o (i := i) (c := 9) (d := 22) rfl)
  have ha567 : zAt ad275 (i + 1 + 1 + 1 + 1 + 1 + 1 + 1 + 1 + 1) (q97) := up_n ea277 ha566 (ne_o (i := i) (c := 9) (d := 23) rfl)
  have ha568 : zAt ad287 (i + 1 + 1 + 1 + 1 + 1 + 1 + 1 + 1 + 1) (q97) := up_n ea289 ha567 (ne_o (i := i) (c := 9) (d := 24) rfl)
  have ha569 : zAt ad299 (i + 1 + 1 + 1 + 1 + 1 + 1 + 1 + 1 + 1) (q97) := up_n ea301 ha568 (ne_o (i := i) (c := 9) (d := 25) rfl)
  have ha570 : zAt ad311 (i + 1 + 1 + 1 + 1 + 1 + 1 + 1 + 1 + 1) (q97) := up_n ea313 ha569 (ne_o (i := i) (c := 9) (d := 26) rfl)
  have ha571 : zAt ad323 (i + 1 + 1 + 1 + 1 + 1 + 1 + 1 + 1 + 1) (q97) := up_n ea325 ha570 (ne_o (i := i) (c := 9) (d := 27) rfl)
  have ha572 : zAt ad335 (i + 1 + 1 + 1 + 1 + 1 + 1 + 1 + 1 + 1) (q97) := up_n ea337 ha571 (ne_o (i := i) (c := 9) (d := 28) rfl)
  have ha573 : zAt ad347 (i + 1 + 1 + 1 + 1 + 1 + 1 + 1 + 1 + 1) (q97) := up_n ea349 ha572 (ne_o (i := i) (c := 9) (d := 29) rfl)
  have ha574 : zAt ad122 (i + 1 + 1 + 1 + 1 + 1 + 1 + 1 + 1 + 1 + 1) (q109) := up_n ea124 ha114 (ne_o (i := i) (c := 10) (d := 11) rfl)
  have ha575 : zAt ad134 (i + 1 + 1 + 1 + 1 + 1 + 1 + 1 + 1 + 1 + 1) (q109) := up_n ea136 ha574 (ne_o (i := i) (c := 10) (d := 12) rfl)
  have ha576 : zAt ad146 (i + 1 + 1 + 1 + 1 + 1 + 1 + 1 + 1 + 1 + 1) (q109) := up_n ea148 ha575 (ne_o (i := i) (c := 10) (d := 13) rfl)
  have ha577 : zAt ad167 (i + 1 + 1 + 1 + 1 + 1 + 1 + 1 + 1 + 1 + 1) (q109) := up_n ea169 ha576 (ne_o (i := i) (c := 10) (d := 14) rfl)
  have ha578 : zAt ad179 (i + 1 + 1 + 1 + 1 + 1 + 1 + 1 + 1 + 1 + 1) (q109) := up_n ea181 ha577 (ne_o (i := i) (c := 10) (d := 15) rfl)
  have ha579 : zAt ad191 (i + 1 + 1 + 1 + 1 + 1 + 1 + 1 + 1 + 1 + 1) (q109) := up_n ea193 ha578 (ne_o (i := i) (c := 10) (d := 16) rfl)
  have ha580 : zAt ad203 (i + 1 + 1 + 1 + 1 + 1 + 1 + 1 + 1 + 1 + 1) (q109) := up_n ea205 ha579 (ne_o (i := i) (c := 10) (d := 17) rfl)
  have ha581 : zAt ad215 (i + 1 + 1 + 1 + 1 + 1 + 1 + 1 + 1 + 1 + 1) (q109) := up_n ea217 ha580 (ne_o (i := i) (c := 10) (d := 18) rfl)
  have ha582 : zAt ad227 (i + 1 + 1 + 1 + 1 + 1 + 1 + 1 + 1 + 1 + 1) (q109) := up_n ea229 ha581 (ne_o (i := i) (c := 10) (d := 19) rfl)
  have ha583 : zAt ad239 (i + 1 + 1 + 1 + 1 + 1 + 1 + 1 + 1 + 1 + 1) (q109) := up_n ea241 ha582 (ne_o (i := i) (c := 10) (d := 20) rfl)
  have ha584 : zAt ad251 (i + 1 + 1 + 1 + 1 + 1 + 1 + 1 + 1 + 1 + 1) (q109) := up_n ea253 ha583 (ne_o (i := i) (c := 10) (d := 21) rfl)
  have ha585 : zAt ad263 (i + 1 + 1 + 1 + 1 + 1 + 1 + 1 + 1 + 1 + 1) (q109) := up_n ea265 ha584 (ne_o (i := i) (c := 10) (d := 22) rfl)
  have ha586 : zAt ad275 (i + 1 + 1 + 1 + 1 + 1 + 1 + 1 + 1 + 1 + 1) (q109) := up_n ea277 ha585 (ne_o (i := i) (c := 10) (d := 23) rfl)
  have ha587 : zAt ad287 (i + 1 + 1 + 1 + 1 + 1 + 1 + 1 + 1 + 1 + 1) (q109) := up_n ea289 ha586 (ne_o (i := i) (c := 10) (d := 24) rfl)
  have ha588 : zAt ad299 (i + 1 + 1 + 1 + 1 + 1 + 1 + 1 + 1 + 1 + 1) (q109) := up_n ea301 ha587 (ne_o (i := i) (c := 10) (d := 25) rfl)
  have ha589 : zAt ad311 (i + 1 + 1 + 1 + 1 + 1 + 1 + 1 + 1 + 1 + 1) (q109) := up_n ea313 ha588 (ne_o (i := i) (c := 10) (d := 26) rfl)
  have ha590 : zAt ad323 (i + 1 + 1 + 1 + 1 + 1 + 1 + 1 + 1 + 1 + 1) (q109) := up_n ea325 ha589 (ne_o (i := i) (c := 10) (d := 27) rfl)
  have ha591 : zAt ad335 (i + 1 + 1 + 1 + 1 + 1 + 1 + 1 + 1 + 1 + 1) (q109) := up_n ea337 ha590 (ne_o (i := i) (c := 10) (d := 28) rfl)
  have ha592 : zAt ad347 (i + 1 + 1 + 1 + 1 + 1 + 1 + 1 + 1 + 1 + 1) (q109) := up_n ea349 ha591 (ne_o (i := i) (c := 10) (d := 29) rfl)
  have ha593 : zAt ad134 (i + 1 + 1 + 1 + 1 + 1 + 1 + 1 + 1 + 1 + 1 + 1) (q121) := up_n ea136 ha126 (ne_o (i := i) (c := 11) (d := 12) rfl)
  have ha594 : zAt ad146 (i + 1 + 1 + 1 + 1 + 1 + 1 + 1 + 1 + 1 + 1 + 1) (q121) := up_n ea148 ha593 (ne_o (i := i) (c := 11) (d := 13) rfl)
  have ha595 : zAt ad167 (i + 1 + 1 + 1 + 1 + 1 + 1 + 1 + 1 + 1 + 1 + 1) (q121) := up_n ea169 ha594 (ne_o (i := i) (c := 11) (d := 14) rfl)
  have ha596 : zAt ad179 (i + 1 + 1 + 1 + 1 + 1 + 1 + 1 + 1 + 1 + 1 + 1) (q121) := up_n ea181 ha595 (ne_o (i := i) (c := 11) (d := 15) rfl)
  have ha597 : zAt ad191 (i + 1 + 1 + 1 + 1 + 1 + 1 + 1 + 1 + 1 + 1 + 1) (q121) := up_n ea193 ha596 (ne_o (i := i) (c := 11) (d := 16) rfl)
  have ha598 : zAt ad203 (i + 1 + 1 + 1 + 1 + 1 + 1 + 1 + 1 + 1 + 1 + 1) (q121) := up_n ea205 ha597 (ne_o (i := i) (c := 11) (d := 17) rfl)
  have ha599 : zAt ad215 (i + 1 + 1 + 1 + 1 + 1 + 1 + 1 + 1 + 1 + 1 + 1) (q121) := up_n ea217 ha598 (ne_o (i := i) (c := 11) (d := 18) rfl)
  have ha600 : zAt ad227 (i + 1 + 1 + 1 + 1 + 1 + 1 + 1 + 1 + 1 + 1 + 1) (q121) := up_n ea229 ha599 (ne_o (i := i) (c := 11) (d := 19) rfl)
  have ha601 : zAt ad239 (i + 1 + 1 + 1 + 1 + 1 + 1 + 1 + 1 + 1 + 1 + 1) (q121) := up_n ea241 ha600 (ne_o (i := i) (c := 11) (d := 20) rfl)
  have ha602 : zAt ad251 (i + 1 + 1 + 1 + 1 + 1 + 1 + 1 + 1 + 1 + 1 + 1) (q121) := up_n ea253 ha601 (ne_o (i := i) (c := 11) (d := 21) rfl)
  have ha603 : zAt ad263 (i + 1 + 1 + 1 + 1 + 1 + 1 + 1 + 1 + 1 + 1 + 1) (q121) := up_n ea265 ha602 (ne_o (i := i) (c := 11) (d := 22) rfl)
  have ha604 : zAt ad275 (i + 1 + 1 + 1 + 1 + 1 + 1 + 1 + 1 + 1 + 1 + 1) (q121) := up_n ea277 ha603 (ne_o (i := i) (c := 11) (d := 23) rfl)
  have ha605 : zAt ad287 (i + 1 + 1 + 1 + 1 + 1 + 1 + 1 + 1 + 1 + 1 + 1) (q121) := up_n ea289 ha604 (ne_o (i := i) (c := 11) (d := 24) rfl)
  have ha606 : zAt ad299 (i + 1 + 1 + 1 + 1 + 1 + 1 + 1 + 1 + 1 + 1 + 1) (q121) := up_n ea301 ha605 (ne_o (i := i) (c := 11) (d := 25) rfl)
  have ha607 : zAt ad311 (i + 1 + 1 + 1 + 1 + 1 + 1 + 1 + 1 + 1 + 1 + 1) (q121) := up_n ea313 ha606 (ne_o (i := i) (c := 11) (d := 26) rfl)
  have ha608 : zAt ad323 (i + 1 + 1 + 1 + 1 + 1 + 1 + 1 + 1 + 1 + 1 + 1) (q121) := up_n ea325 ha607 (ne_o (i := i) (c := 11) (d := 27) rfl)
  have ha609 : zAt ad335 (i + 1 + 1 + 1 + 1 + 1 + 1 + 1 + 1 + 1 + 1 + 1) (q121) := up_n ea337 ha608 (ne_o (i := i) (c := 11) (d := 28) rfl)
  have ha610 : zAt ad347 (i + 1 + 1 + 1 + 1 + 1 + 1 + 1 + 1 + 1 + 1 + 1) (q121) := up_n ea349 ha609 (ne_o (i := i) (c := 11) (d := 29) rfl)
  have ha611 : zAt ad146 (i + 1 + 1 + 1 + 1 + 1 + 1 + 1 + 1 + 1 + 1 + 1 + 1) (q133) := up_n ea148 ha138 (ne_o (i := i) (c := 12) (d := 13) rfl)
  have ha612 : zAt ad167 (i + 1 + 1 + 1 + 1 + 1 + 1 + 1 + 1 + 1 + 1 + 1 + 1) (q133) := up_n ea169 ha611 (ne_o (i := i) (c := 12) (d := 14) rfl)
  have ha613 : zAt ad179 (i + 1 + 1 + 1 + 1 + 1 + 1 + 1 + 1 + 1 + 1 + 1 + 1) (q133) := up_n ea181 ha612 (ne_o (i := i) (c := 12) (d := 15) rfl)
  have ha614 : zAt ad191 (i + 1 + 1 + 1 + 1 + 1 + 1 + 1 + 1 + 1 + 1 + 1 + 1) (q133) := up_n ea193 ha613 (ne_o (i := i) (c := 12) (d := 16) rfl)
  have ha615 : zAt ad203 (i + 1 + 1 + 1 + 1 + 1 + 1 + 1 + 1 + 1 + 1 + 1 + 1) (q133) := up_n ea205 ha614 (ne_o (i := i) (c := 12) (d := 17) rfl)
  have ha616 : zAt ad215 (i + 1 + 1 + 1 + 1 + 1 + 1 + 1 + 1 + 1 + 1 + 1 + 1) (q133) := up_n ea217 ha615 (ne_o (i := i) (c := 12) (d := 18) rfl)
  have ha617 : zAt ad227 (i + 1 + 1 + 1 + 1 + 1 + 1 + 1 + 1 + 1 + 1 + 1 + 1) (q133) := up_n ea229 ha616 (ne_o (i := i) (c := 12) (d := 19) rfl)
  have ha618 : zAt ad239 (i + 1 + 1 + 1 + 1 + 1 + 1 + 1 + 1 + 1 + 1 + 1 + 1) (q133) := up_n ea241 ha617 (ne_o (i := i) (c := 12) (d := 20) rfl)
  have ha619 : zAt ad251 (i + 1 + 1 + 1 + 1 + 1 + 1 + 1 + 1 + 1 + 1 + 1 + 1) (q133) := up_n ea253 ha618 (ne_o (i := i) (c := 12) (d := 21) rfl)
  have ha620 : zAt ad263 (i + 1 + 1 + 1 + 1 + 1 + 1 + 1 + 1 + 1 + 1 + 1 + 1) (q133) := up_n ea265 ha619 (ne_o (i := i) (c := 12) (d := 22) rfl)
  have ha621 : zAt ad275 (i + 1 + 1 + 1 + 1 + 1 + 1 + 1 + 1 + 1 + 1 + 1 + 1) (q133) := up_n ea277 ha620 (ne_o (i := i) (c := 12) (d := 23) rfl)
  have ha622 : zAt ad287 (i + 1 + 1 + 1 + 1 + 1 + 1 + 1 + 1 + 1 + 1 + 1 + 1) (q133) := up_n ea289 ha621 (ne_o (i := i) (c := 12) (d := 24) rfl)
  have ha623 : zAt ad299 (i + 1 + 1 + 1 + 1 + 1 + 1 + 1 + 1 + 1 + 1 + 1 + 1) (q133) := up_n ea301 ha622 (ne_o (i := i) (c := 12) (d := 25) rfl)
  have ha624 : zAt ad311 (i + 1 + 1 + 1 + 1 + 1 + 1 + 1 + 1 + 1 + 1 + 1 + 1) (q133) := up_n ea313 ha623 (ne_o (i := i) (c := 12) (d := 26) rfl)
  have ha625 : zAt ad323 (i + 1 + 1 + 1 + 1 + 1 + 1 + 1 + 1 + 1 + 1 + 1 + 1) (q133) := up_n ea325 ha624 (ne_o (i := i) (c := 12) (d := 27) rfl)
  have ha626 : zAt ad335 (i + 1 + 1 + 1 + 1 + 1 + 1 + 1 + 1 + 1 + 1 + 1 + 1) (q133) := up_n ea337 ha625 (ne_o (i := i) (c := 12) (d := 28) rfl)
  have ha627 : zAt ad347 (i + 1 + 1 + 1 + 1 + 1 + 1 + 1 + 1 + 1 + 1 + 1 + 1) (q133) := up_n ea349 ha626 (ne_o (i := i) (c := 12) (d := 29) rfl)
  have ha628 : zAt ad167 (i + 1 + 1 + 1 + 1 + 1 + 1 + 1 + 1 + 1 + 1 + 1 + 1 + 1) (q145) := up_n ea169 ha150 (ne_o (i := i) (c := 13) (d := 14) rfl)
  have ha629 : zAt ad179 (i + 1 + 1 + 1 + 1 + 1 + 1 + 1 + 1 + 1 + 1 + 1 + 1 + 1) (q145) := up_n ea181 ha628 (ne_o (i := i) (c := 13) (d := 15) rfl)
  have ha630 : zAt ad191 (i + 1 + 1 + 1 + 1 + 1 + 1 + 1 + 1 + 1 + 1 + 1 + 1 + 1) (q145) := up_n ea193 ha629 (ne_o (i := i) (c := 13) (d := 16) rfl)
  have ha631 : zAt ad203 (i + 1 + 1 + 1 + 1 + 1 + 1 + 1 + 1 + 1 + 1 + 1 + 1 + 1) (q145) := up_n ea205 ha630 (ne_o (i := i) (c := 13) (d := 17) rfl)
  have ha632 : zAt ad215 (i + 1 + 1 + 1 + 1 + 1 + 1 + 1 + 1 + 1 + 1 + 1 + 1 + 1) (q145) := up_n ea217 ha631 (ne_o (i := i) (c := 13) (d := 18) rfl)
  have ha633 : zAt ad227 (i + 1 + 1 + 1 + 1 + 1 + 1 + 1 + 1 + 1 + 1 + 1 + 1 + 1) (q145) := up_n ea229 ha632 (ne_o (i := i) (c := 13) (d := 19) rfl)
  have ha634 : zAt ad239 (i + 1 + 1 + 1 + 1 + 1 + 1 + 1 + 1 + 1 + 1 + 1 + 1 + 1) (q145) := up_n ea241 ha633 (ne_o (i := i) (c := 13) (d := 20) rfl)
  have ha635 : zAt ad251 (i + 1 + 1 + 1 + 1 + 1 + 1 + 1 + 1 + 1 + 1 + 1 + 1 + 1) (q145) := up_n ea253 ha634 (ne_o (i := i) (c := 13) (d := 21) rfl)
  have ha636 : zAt ad263 (i + 1 + 1 + 1 + 1 + 1 + 1 + 1 + 1 + 1 + 1 + 1 + 1 + 1) (q145) := up_n ea265 ha635 (ne_o (i := i) (c := 13) (d := 22) rfl)
  have ha637 : zAt ad275 (i + 1 + 1 + 1 + 1 + 1 + 1 + 1 + 1 + 1 + 1 + 1 + 1 + 1) (q145) := up_n ea277 ha636 (ne_o (i := i) (c := 13) (d := 23) rfl)
  have ha638 : zAt ad287 (i + 1 + 1 + 1 + 1 + 1 + 1 + 1 + 1 + 1 + 1 + 1 + 1 + 1) (q145) := up_n ea289 ha637 (ne_o (i := i) (c := 13) (d := 24) rfl)
  have ha639 : zAt ad299 (i + 1 + 1 + 1 + 1 + 1 + 1 + 1 + 1 + 1 + 1 + 1 + 1 + 1) (q145) := up_n ea301 ha638 (ne_o (i := i) (c := 13) (d := 25) rfl)
  have ha640 : zAt ad311 (i + 1 + 1 + 1 + 1 + 1 + 1 + 1 + 1 + 1 + 1 + 1 + 1 + 1) (q145) := up_n ea313 ha639 (ne_o (i := i) (c := 13) (d := 26) rfl)
  have ha641 : zAt ad323 (i + 1 + 1 + 1 + 1 + 1 + 1 + 1 + 1 + 1 + 1 + 1 + 1 + 1) (q145) := up_n ea325 ha640 (ne_o (i := i) (c := 13) (d := 27) rfl)
  have ha642 : zAt ad335 (i + 1 + 1 + 1 + 1 + 1 + 1 + 1 + 1 + 1 + 1 + 1 + 1 + 1) (q145) := up_n ea337 ha641 (ne_o (i := i) (c := 13) (d := 28) rfl)
  have ha643 : zAt ad347 (i + 1 + 1 + 1 + 1 + 1 + 1 + 1 + 1 + 1 + 1 + 1 + 1 + 1) (q145) := up_n ea349 ha642 (ne_o (i := i) (c := 13) (d := 29) rfl)
  have ha644 : zAt ad179 (i + 1 + 1 + 1 + 1 + 1 + 1 + 1 + 1 + 1 + 1 + 1 + 1 + 1 + 1) (q166) := up_n ea181 ha171 (ne_o (i := i) (c := 14) (d := 15) rfl)
  have ha645 : zAt ad191 (i + 1 + 1 + 1 + 1 + 1 + 1 + 1 + 1 + 1 + 1 + 1 + 1 + 1 + 1) (q166) := up_n ea193 ha644 (ne_o (i := i) (c := 14) (d := 16) rfl)
  have ha646 : zAt ad203 (i + 1 + 1 + 1 + 1 + 1 + 1 + 1 + 1 + 1 + 1 + 1 + 1 + 1 + 1) (q166) := up_n ea205 ha645 (ne_o (i := i) (c := 14) (d := 17) rfl)
  have ha647 : zAt ad215 (i + 1 + 1 + 1 + 1 + 1 + 1 + 1 + 1 + 1 + 1 + 1 + 1 + 1 + 1) (q166) := up_n ea217 ha646 (ne_o (i := i) (c := 14) (d := 18) rfl)
  have ha648 : zAt ad227 (i + 1 + 1 + 1 + 1 + 1 + 1 + 1 + 1 + 1 + 1 + 1 + 1 + 1 + 1) (q166) := up_n ea229 ha647 (ne_o (i := i) (c := 14) (d := 19) rfl)
  have ha649 : zAt ad239 (i + 1 + 1 + 1 + 1 + 1 + 1 + 1 + 1 + 1 + 1 + 1 + 1 + 1 + 1) (q166) := up_n ea241 ha648 (ne_o (i := i) (c := 14) (d := 20) rfl)
  have ha650 : zAt ad251 (i + 1 + 1 + 1 + 1 + 1 + 1 + 1 + 1 + 1 + 1 + 1 + 1 + 1 + 1) (q166) := up_n ea253 ha649 (ne_o (i := i) (c := 14) (d := 21) rfl)
  have ha651 : zAt ad263 (i + 1 + 1 + 1 + 1 + 1 + 1 + 1 + 1 + 1 + 1 + 1 + 1 + 1 + 1) (q166) := up_n ea265 ha650 (ne_o (i := i) (c := 14) (d := 22) rfl)
  have ha652 : zAt ad275 (i + 1 + 1 + 1 + 1 + 1 + 1 + 1 + 1 + 1 + 1 + 1 + 1 + 1 + 1) (q166) := up_n ea277 ha651 (ne_o (i := i) (c := 14) (d := 23) rfl)
  have ha653 : zAt ad287 (i + 1 + 1 + 1 + 1 + 1 + 1 + 1 + 1 + 1 + 1 + 1 + 1 + 1 + 1) (q166) := up_n ea289 ha652 (ne_o (i := i) (c := 14) (d := 24) rfl)
  have ha654 : zAt ad299 (i + 1 + 1 + 1 + 1 + 1 + 1 + 1 + 1 + 1 + 1 + 1 + 1 + 1 + 1) (q166) := up_n ea301 ha653 (ne_o (i := i) (c := 14) (d := 25) rfl)
  have ha655 : zAt ad311 (i + 1 + 1 + 1 + 1 + 1 + 1 + 1 + 1 + 1 + 1 + 1 + 1 + 1 + 1) (q166) := up_n ea313 ha654 (ne_o (i := i) (c := 14) (d := 26) rfl)
  have ha656 : zAt ad323 (i + 1 + 1 + 1 + 1 + 1 + 1 + 1 + 1 + 1 + 1 + 1 + 1 + 1 + 1) (q166) := up_n ea325 ha655 (ne_o (i := i) (c := 14) (d := 27) rfl)
  have ha657 : zAt ad335 (i + 1 + 1 + 1 + 1 + 1 + 1 + 1 + 1 + 1 + 1 + 1 + 1 + 1 + 1) (q166) := up_n ea337 ha656 (ne_o (i := i) (c := 14) (d := 28) rfl)
  have ha658 : zAt ad347 (i + 1 + 1 + 1 + 1 + 1 + 1 + 1 + 1 + 1 + 1 + 1 + 1 + 1 + 1) (q166) := up_n ea349 ha657 (ne_o (i := i) (c := 14) (d := 29) rfl)
  have ha659 : zAt ad191 (i + 1 + 1 + 1 + 1 + 1 + 1 + 1 + 1 + 1 + 1 + 1 + 1 + 1 + 1 + 1) (q178) := up_n ea193 ha183 (ne_o (i := i) (c := 15) (d := 16) rfl)
  have ha660 : zAt ad203 (i + 1 + 1 + 1 + 1 + 1 + 1 + 1 + 1 + 1 + 1 + 1 + 1 + 1 + 1 + 1) (q178) := up_n ea205 ha659 (ne_o (i := i) (c := 15) (d := 17) rfl)
  have ha661 : zAt ad215 (i + 1 + 1 + 1 + 1 + 1 + 1 + 1 + 1 + 1 + 1 + 1 + 1 + 1 + 1 + 1) (q178) := up_n ea217 ha660 (ne_o (i := i) (c := 15) (d := 18) rfl)
  have ha662 : zAt ad227 (i + 1 + 1 + 1 + 1 + 1 + 1 + 1 + 1 + 1 + 1 + 1 + 1 + 1 + 1 + 1) (q178) := up_n ea229 ha661 (ne_o (i := i) (c := 15) (d := 19) rfl)
  have ha663 : zAt ad239 (i + 1 + 1 + 1 + 1 + 1 + 1 + 1 + 1 + 1 + 1 + 1 + 1 + 1 + 1 + 1) (q178) := up_n ea241 ha662 (ne_o (i := i) (c := 15) (d := 20) rfl)
  have ha664 : zAt ad251 (i + 1 + 1 + 1 + 1 + 1 + 1 + 1 + 1 + 1 + 1 + 1 + 1 + 1 + 1 + 1) (q178) := up_n ea253 ha663 (ne_o (i := i) (c := 15) (d := 21) rfl)
  have ha665 : zAt ad263 (i + 1 + 1 + 1 + 1 + 1 + 1 + 1 + 1 + 1 + 1 + 1 + 1 + 1 + 1 + 1) (q178) := up_n ea265 ha664 (ne_o (i := i) (c := 15) (d := 22) rfl)
  have ha666 : zAt ad275 (i + 1 + 1 + 1 + 1 + 1 + 1 + 1 + 1 + 1 + 1 + 1 + 1 + 1 + 1 + 1) (q178) := up_n ea277 ha665 (ne_o (i := i) (c := 15) (d := 23) rfl)
  have ha667 : zAt ad287 (i + 1 + 1 + 1 + 1 + 1 + 1 + 1 + 1 + 1 + 1 + 1 + 1 + 1 + 1 + 1) (q178) := up_n ea289 ha666 (ne_o (i := i) (c := 15) (d := 24) rfl)
  have ha668 : zAt ad299 (i + 1 + 1 + 1 + 1 + 1 + 1 + 1 + 1 + 1 + 1 + 1 + 1 + 1 + 1 + 1) (q178) := up_n ea301 ha667 (ne_o (i := i) (c := 15) (d := 25) rfl)
  have ha669 : zAt ad311 (i + 1 + 1 + 1 + 1 + 1 + 1 + 1 + 1 + 1 + 1 + 1 + 1 + 1 + 1 + 1) (q178) := up_n ea313 ha668 (ne_o (i := i) (c := 15) (d := 26) rfl)
  have ha670 : zAt ad323 (i + 1 + 1 + 1 + 1 + 1 + 1 + 1 + 1 + 1 + 1 + 1 + 1 + 1 + 1 + 1) (q178) := up_n ea325 ha669 (ne_o (i := i) (c := 15) (d := 27) rfl)
  have ha671 : zAt ad335 (i + 1 + 1 + 1 + 1 + 1 + 1 + 1 + 1 + 1 + 1 + 1 + 1 + 1 + 1 + 1) (q178) := up_n ea337 ha670 (ne_o (i := i) (c := 15) (d := 28) rfl)
  have ha672 : zAt ad347 (i + 1 + 1 + 1 + 1 + 1 + 1 + 1 + 1 + 1 + 1 + 1 + 1 + 1 + 1 + 1) (q178) := up_n ea349 ha671 (ne_o (i := i) (c := 15) (d := 29) rfl)
  have ha673 : zAt ad203 (i + 1 + 1 + 1 + 1 + 1 + 1 + 1 + 1 + 1 + 1 + 1 + 1 + 1 + 1 + 1 + 1) (q190) := up_n ea205 ha195 (ne_o (i := i) (c := 16) (d := 17) rfl)
  have ha674 : zAt ad215 (i + 1 + 1 + 1 + 1 + 1 + 1 + 1 + 1 + 1 + 1 + 1 + 1 + 1 + 1 + 1 + 1) (q190) := up_n ea217 ha673 (ne_o (i := i) (c := 16) (d := 18) rfl)
  have ha675 : zAt ad227 (i + 1 + 1 + 1 + 1 + 1 + 1 + 1 + 1 + 1 + 1 + 1 + 1 + 1 + 1 + 1 + 1) (q190) := up_n ea229 ha674 (ne_o (i := i) (c := 16) (d := 19) rfl)
  have ha676 : zAt ad239 (i + 1 + 1 + 1 + 1 + 1 + 1 + 1 + 1 + 1 + 1 + 1 + 1 + 1 + 1 + 1 + 1) (q190) := up_n ea241 ha675 (ne_o (i := i) (c := 16) (d := 20) rfl)
  have ha677 : zAt ad251 (i + 1 + 1 + 1 + 1 + 1 + 1 + 1 + 1 + 1 + 1 + 1 + 1 + 1 + 1 + 1 + 1) (q190) := up_n ea253 ha676 (ne_o (i := i) (c := 16) (d := 21) rfl)
  have ha678 : zAt ad263 (i + 1 + 1 + 1 + 1 + 1 + 1 + 1 + 1 + 1 + 1 + 1 + 1 + 1 + 1 + 1 + 1) (q190) := up_n ea265 ha677 (ne_o (i := i) (c := 16) (d := 22) rfl)
  have ha679 : zAt ad275 (i + 1 + 1 + 1 + 1 + 1 + 1 + 1 + 1 + 1 + 1 + 1 + 1 + 1 + 1 + 1 + 1) (q190) := up_n ea277 ha678 (ne_o (i := i) (c := 16) (d := 23) rfl)
  have ha680 : zAt ad287 (i + 1 + 1 + 1 + 1 + 1 + 1 + 1 + 1 + 1 + 1 + 1 + 1 + 1 + 1 + 1 + 1) (q190) := up_n ea289 ha679 (ne_o (i := i) (c := 16) (d := 24) rfl)
  have ha681 : zAt ad299 (i + 1 + 1 + 1 + 1 + 1 + 1 + 1 + 1 + 1 + 1 + 1 + 1 + 1 + 1 + 1 + 1) (q190) := up_n ea301 ha680 (ne_o (i := i) (c := 16) (d := 25) rfl)
  have ha682 : zAt ad311 (i + 1 + 1 + 1 + 1 + 1 + 1 + 1 + 1 + 1 + 1 + 1 + 1 + 1 + 1 + 1 + 1) (q190) := up_n ea313 ha681 (ne_o (i := i) (c := 16) (d := 26) rfl)
  have ha683 : zAt ad323 (i + 1 + 1 + 1 + 1 + 1 + 1 + 1 + 1 + 1 + 1 + 1 + 1 + 1 + 1 + 1 + 1) (q190) := up_n ea325 ha682 (ne_o (i := i) (c := 16) (d := 27) rfl)
  have ha684 : zAt ad335 (i + 1 + 1 + 1 + 1 + 1 + 1 + 1 + 1 + 1 + 1 + 1 + 1 + 1 + 1 + 1 + 1) (q190) := up_n ea337 ha683 (ne_o (i := i) (c := 16) (d := 28) rfl)
  have ha685 : zAt ad347 (i + 1 + 1 + 1 + 1 + 1 + 1 + 1 + 1 + 1 + 1 + 1 + 1 + 1 + 1 + 1 + 1) (q190) := up_n ea349 ha684 (ne_o (i := i) (c := 16) (d := 29) rfl)
  have ha686 : zAt ad215 (i + 1 + 1 + 1 + 1 + 1 + 1 + 1 + 1 + 1 + 1 + 1 + 1 + 1 + 1 + 1 + 1 + 1) (q202) := up_n ea217 ha207 (ne_o (i := i) (c := 17) (d := 18) rfl)
  have ha687 : zAt ad227 (i + 1 + 1 + 1 + 1 + 1 + 1 + 1 + 1 + 1 + 1 + 1 + 1 + 1 + 1 + 1 + 1 + 1) (q202) := up_n ea229 ha686 (ne_o (i := i) (c := 17) (d := 19) rfl)
  have ha688 : zAt ad239 (i + 1 + 1 + 1 + 1 + 1 + 1 + 1 + 1 + 1 + 1 + 1 + 1 + 1 + 1 + 1 + 1 + 1) (q202) := up_n ea241 ha687 (ne_o (i := i) (c := 17) (d := 20) rfl)
  have ha689 : zAt ad251 (i + 1 + 1 + 1 + 1 + 1 + 1 + 1 + 1 + 1 + 1 + 1 + 1 + 1 + 1 + 1 + 1 + 1) (q202) := up_n ea253 ha688 (ne_o (i := i) (c := 17) (d := 21) rfl)
  have ha690 : zAt ad263 (i + 1 + 1 + 1 + 1 + 1 + 1 + 1 + 1 + 1 + 1 + 1 + 1 + 1 + 1 + 1 + 1 + 1) (q202) := up_n ea265 ha689 (ne_o (i := i) (c := 17) (d := 22) rfl)
  have ha691 : zAt ad275 (i + 1 + 1 + 1 + 1 + 1 + 1 + 1 + 1 + 1 + 1 + 1 + 1 + 1 + 1 + 1 + 1 + 1) (q202) := up_n ea277 ha690 (ne_o (i := i) (c := 17) (d := 23) rfl)
  have ha692 : zAt ad287 (i + 1 + 1 + 1 + 1 + 1 + 1 + 1 + 1 + 1 + 1 + 1 + 1 + 1 + 1 + 1 + 1 + 1) (q202) := up_n ea289 ha691 (ne_o (i := i) (c := 17) (d := 24) rfl)
  have ha693 : zAt ad299 (i + 1 + 1 + 1 + 1 + 1 + 1 + 1 + 1 + 1 + 1 + 1 + 1 + 1 + 1 + 1 + 1 + 1) (q202) := up_n ea301 ha692 (ne_o (i := i) (c := 17) (d := 25) rfl)
  have ha694 : zAt ad311 (i + 1 + 1 + 1 + 1 + 1 + 1 + 1 + 1 + 1 + 1 + 1 + 1 + 1 + 1 + 1 + 1 + 1) (q202) := up_n ea313 ha693 (ne_o (i := i) (c := 17) (d := 26) rfl)
  have ha695 : zAt ad323 (i + 1 + 1 + 1 + 1 + 1 + 1 + 1 + 1 + 1 + 1 + 1 + 1 + 1 + 1 + 1 + 1 + 1) (q202) := up_n ea325 ha694 (ne_o (i := i) (c := 17) (d := 27) rfl)
  have ha696 : zAt ad335 (i + 1 + 1 + 1 + 1 + 1 + 1 + 1 + 1 + 1 + 1 + 1 + 1 + 1 + 1 + 1 + 1 + 1) (q202) := up_n ea337 ha695 (ne_o (i := i) (c := 17) (d := 28) rfl)
  have ha697 : zAt ad347 (i + 1 + 1 + 1 + 1 + 1 + 1 + 1 + 1 + 1 + 1 + 1 + 1 + 1 + 1 + 1 + 1 + 1) (q202) := up_n ea349 ha696 (ne_o (i := i) (c := 17) (d := 29) rfl)
  have ha698 : zAt ad227 (i + 1 + 1 + 1 + 1 + 1 + 1 + 1 + 1 + 1 + 1 + 1 + 1 + 1 + 1 + 1 + 1 + 1 + 1) (q214) := up_n ea229 ha219 (ne_o (i := i) (c := 18) (d := 19) rfl)
  have ha699 : zAt ad239 (i + 1 + 1 + 1 + 1 + 1 + 1 + 1 + 1 + 1 + 1 + 1 + 1 + 1 + 1 + 1 + 1 + 1 + 1) (q214) := up_n ea241 ha698 (ne_o (i := i) (c := 18) (d := 20) rfl)
  have ha700 : zAt ad251 (i + 1 + 1 + 1 + 1 + 1 + 1 + 1 + 1 + 1 + 1 + 1 + 1 + 1 + 1 + 1 + 1 + 1 + 1) (q214) := up_n ea253 ha699 (ne_o (i := i) (c := 18) (d := 21) rfl)
  have ha701 : zAt ad263 (i + 1 + 1 + 1 + 1 + 1 + 1 + 1 + 1 + 1 + 1 + 1 + 1 + 1 + 1 + 1 + 1 + 1 + 1) (q214) := up_n ea265 ha700 (ne_o (i := i) (c := 18) (d := 22) rfl)
  have ha702 : zAt ad275 (i + 1 + 1 + 1 + 1 + 1 + 1 + 1 + 1 + 1 + 1 + 1 + 1 + 1 + 1 + 1 + 1 + 1 + 1) (q214) := up_n ea277 ha701 (ne_o (i := i) (c := 18) (d := 23) rfl)
  have ha703 : zAt ad287 (i + 1 + 1 + 1 + 1 + 1 + 1 + 1 + 1 + 1 + 1 + 1 + 1 + 1 + 1 + 1 + 1 + 1 + 1) (q214) := up_n ea289 ha702 (ne_o (i := i) (c := 18) (d := 24) rfl)
  have ha704 : zAt ad299 (i + 1 + 1 + 1 + 1 + 1 + 1 + 1 + 1 + 1 + 1 + 1 + 1 + 1 + 1 + 1 + 1 + 1 + 1) (q214) := up_n ea301 ha703 (ne_o (i := i) (c := 18) (d := 25) rfl)
  have ha705 : zAt ad311 (i + 1 + 1 + 1 + 1 + 1 + 1 + 1 + 1 + 1 + 1 + 1 + 1 + 1 + 1 + 1 + 1 + 1 + 1) (q214) := up_n ea313 ha704 (ne_o (i := i) (c := 18) (d := 26) rfl)
  have ha706 : zAt ad323 (i + 1 + 1 + 1 + 1 + 1 + 1 + 1 + 1 + 1 + 1 + 1 + 1 + 1 + 1 + 1 + 1 + 1 + 1) (q214) := up_n ea325 ha705 (ne_o (i := i) (c := 18) (d := 27) rfl)
  have ha707 : zAt ad335 (i + 1 + 1 + 1 + 1 + 1 + 1 + 1 + 1 + 1 + 1 + 1 + 1 + 1 + 1 + 1 + 1 + 1 + 1) (q214) := up_n ea337 ha706 (ne_o (i := i) (c := 18) (d := 28) rfl)
  have ha708 : zAt ad347 (i + 1 + 1 + 1 + 1 + 1 + 1 + 1 + 1 + 1 + 1 + 1 + 1 + 1 + 1 + 1 + 1 + 1 + 1) (q214) := up_n ea349 ha707 (ne_o (i := i) (c := 18) (d := 29) rfl)
  have ha709 : zAt ad239 (i + 1 + 1 + 1 + 1 + 1 + 1 + 1 + 1 + 1 + 1 + 1 + 1 + 1 + 1 + 1 + 1 + 1 + 1 + 1) (q226) := up_n ea241 ha231 (ne_o (i := i) (c := 19) (d := 20) rfl)
  have ha710 : zAt ad251 (i + 1 + 1 + 1 + 1 + 1 + 1 + 1 + 1 + 1 + 1 + 1 + 1 + 1 + 1 + 1 + 1 + 1 + 1 + 1) (q226) := up_n ea253 ha709 (ne_o (i := i) (c := 19) (d := 21) rfl)
  have ha711 : zAt ad263 (i + 1 + 1 + 1 + 1 + 1 + 1 + 1 + 1 + 1 + 1 + 1 + 1 + 1 + 1 + 1 + 1 + 1 + 1 + 1) (q226) := up_n ea265 ha710 (ne_o (i := i) (c := 19) (d := 22) rfl)
  have ha712 : zAt ad275 (i + 1 + 1 + 1 + 1 + 1 + 1 + 1 + 1 + 1 + 1 + 1 + 1 + 1 + 1 + 1 + 1 + 1 + 1 + 1) (q226) := up_n ea277 ha711 (ne_o (i := i) (c := 19) (d := 23) rfl)
  have ha713 : zAt ad287 (i + 1 + 1 + 1 + 1 + 1 + 1 + 1 + 1 + 1 + 1 + 1 + 1 + 1 + 1 + 1 + 1 + 1 + 1 + 1) (q226) := up_n ea289 ha712 (ne_o (i := i) (c := 19) (d := 24) rfl)
  have ha714 : zAt ad299 (i + 1 + 1 + 1 + 1 + 1 + 1 + 1 + 1 + 1 + 1 + 1 + 1 + 1 + 1 + 1 + 1 + 1 + 1 + 1) (q226) := up_n ea301 ha713 (ne_o (i := i) (c := 19) (d := 25) rfl)
  have ha715 : zAt ad311 (i + 1 + 1 + 1 + 1 + 1 + 1 + 1 + 1 + 1 + 1 + 1 + 1 + 1 + 1 + 1 + 1 + 1 + 1 + 1) (q226) := up_n ea313 ha714 (ne_o (i := i) (c := 19) (d := 26) rfl)
  have ha716 : zAt ad323 (i + 1 + 1 + 1 + 1 + 1 + 1 + 1 + 1 + 1 + 1 + 1 + 1 + 1 + 1 + 1 + 1 + 1 + 1 + 1) (q226) := up_n ea325 ha715 (ne_o (i := i) (c := 19) (d := 27) rfl)
  have ha717 : zAt ad335 (i + 1 + 1 + 1 + 1 + 1 + 1 + 1 + 1 + 1 + 1 + 1 + 1 + 1 + 1 + 1 + 1 + 1 + 1 + 1) (q226) := up_n ea337 ha716 (ne_o (i := i) (c := 19) (d := 28) rfl)
  have ha718 : zAt ad347 (i + 1 + 1 + 1 + 1 + 1 + 1 + 1 + 1 + 1 + 1 + 1 + 1 + 1 + 1 + 1 + 1 + 1 + 1 + 1) (q226) := up_n ea349 ha717 (ne_o (i := i) (c := 19) (d := 29) rfl)
  have ha719 : zAt ad251 (i + 1 + 1 + 1 + 1 + 1 + 1 + 1 + 1 + 1 + 1 + 1 + 1 + 1 + 1 + 1 + 1 + 1 + 1 + 1 + 1) (q238) := up_n ea253 ha243 (ne_o (i := i) (c := 20) (d := 21) rfl)
  have ha720 : zAt ad263 (i + 1 + 1 + 1 + 1 + 1 + 1 + 1 + 1 + 1 + 1 + 1 + 1 + 1 + 1 + 1 + 1 + 1 + 1 + 1 + 1) (q238) := up_n ea265 ha719 (ne_o (i := i) (c := 20) (d := 22) rfl)
  have ha721 : zAt ad275 (i + 1 + 1 + 1 + 1 + 1 + 1 + 1 + 1 + 1 + 1 + 1 + 1 + 1 + 1 + 1 + 1 + 1 + 1 + 1 + 1) (q238) := up_n ea277 ha720 (ne_o (i := i) (c := 20) (d := 23) rfl)
  have ha722 : zAt ad287 (i + 1 + 1 + 1 + 1 + 1 + 1 + 1 + 1 + 1 + 1 + 1 + 1 + 1 + 1 + 1 + 1 + 1 + 1 + 1 + 1) (q238) := up_n ea289 ha721 (ne_o (i := i) (c := 20) (d := 24) rfl)
  have ha723 : zAt ad299 (i + 1 + 1 + 1 + 1 + 1 + 1 + 1 + 1 + 1 + 1 + 1 + 1 + 1 + 1 + 1 + 1 + 1 + 1 + 1 + 1) (q238) := up_n ea301 ha722 (ne_o (i := i) (c := 20) (d := 25) rfl)
  have ha724 : zAt ad311 (i + 1 + 1 + 1 + 1 + 1 + 1 + 1 + 1 + 1 + 1 + 1 + 1 + 1 + 1 + 1 + 1 + 1 + 1 + 1 + 1) (q238) := up_n ea313 ha723 (ne_o (i := i) (c := 20) (d := 26) rfl)
  have ha725 : zAt ad323 (i + 1 + 1 + 1 + 1 + 1 + 1 + 1 + 1 + 1 + 1 + 1 + 1 + 1 + 1 + 1 + 1 + 1 + 1 + 1 + 1) (q238) := up_n ea325 ha724 (ne_o (i := i) (c := 20) (d := 27) rfl)
  have ha726 : zAt ad335 (i + 1 + 1 + 1 + 1 + 1 + 1 + 1 + 1 + 1 + 1 + 1 + 1 + 1 + 1 + 1 + 1 + 1 + 1 + 1 + 1) (q238) := up_n ea337 ha725 (ne_o (i := i) (c := 20) (d := 28) rfl)
  have ha727 : zAt ad347 (i + 1 + 1 + 1 + 1 + 1 + 1 + 1 + 1 + 1 + 1 + 1 + 1 + 1 + 1 + 1 + 1 + 1 + 1 + 1 + 1) (q238) := up_n ea349 ha726 (ne_o (i := i) (c := 20) (d := 29) rfl)
  have ha728 : zAt ad263 (i + 1 + 1 + 1 + 1 + 1 + 1 + 1 + 1 + 1 + 1 + 1 + 1 + 1 + 1 + 1 + 1 + 1 + 1 + 1 + 1 + 1) (q250) := up_n ea265 ha255 (ne_o (i := i) (c := 21) (d := 22) rfl)
  have ha729 : zAt ad275 (i + 1 + 1 + 1 + 1 + 1 + 1 + 1 + 1 + 1 + 1 + 1 + 1 + 1 + 1 + 1 + 1 + 1 + 1 + 1 + 1 + 1) (q250) := up_n ea277 ha728 (ne_o (i := i) (c := 21) (d := 23) rfl)
  have ha730 : zAt ad287 (i + 1 + 1 + 1 + 1 + 1 + 1 + 1 + 1 + 1 + 1 + 1 + 1 + 1 + 1 + 1 + 1 + 1 + 1 + 1 + 1 + 1) (q250) := up_n ea289 ha729 (ne_o (i := i) (c := 21) (d := 24) rfl)
  have ha731 : zAt ad299 (i + 1 + 1 + 1 + 1 + 1 + 1 + 1 + 1 + 1 + 1 + 1 + 1 + 1 + 1 + 1 + 1 + 1 + 1 + 1 + 1 + 1) (q250) := up_n ea301 ha730 (ne_o (i := i) (c := 21) (d := 25) rfl)
  have ha732 : zAt ad311 (i + 1 + 1 + 1 + 1 + 1 + 1 + 1 + 1 + 1 + 1 + 1 + 1 + 1 + 1 + 1 + 1 + 1 + 1 + 1 + 1 + 1) (q250) := up_n ea313 ha731 (ne_o (i := i) (c := 21) (d := 26) rfl)
  have ha733 : zAt ad323 (i + 1 + 1 + 1 + 1 + 1 + 1 + 1 + 1 + 1 + 1 + 1 + 1 + 1 + 1 + 1 + 1 + 1 + 1 + 1 + 1 + 1) (q250) := up_n ea325 ha732 (ne_o (i := i) (c := 21) (d := 27) rfl)
  have ha734 : zAt ad335 (i + 1 + 1 + 1 + 1 + 1 + 1 + 1 + 1 + 1 + 1 + 1 + 1 + 1 + 1 + 1 + 1 + 1 + 1 + 1 + 1 + 1) (q250) := up_n ea337 ha733 (ne_o (i := i) (c := 21) (d := 28) rfl)
  have ha735 : zAt ad347 (i + 1 + 1 + 1 + 1 + 1 + 1 + 1 + 1 + 1 + 1 + 1 + 1 + 1 + 1 + 1 + 1 + 1 + 1 + 1 + 1 + 1) (q250) := up_n ea349 ha734 (ne_o (i := i) (c := 21) (d := 29) rfl)
  have ha736 : zAt ad275 (i + 1 + 1 + 1 + 1 + 1 + 1 + 1 + 1 + 1 + 1 + 1 + 1 + 1 + 1 + 1 + 1 + 1 + 1 + 1 + 1 + 1 + 1) (q262) := up_n ea277 ha267 (ne_o (i := i) (c := 22) (d := 23) rfl)
  have ha737 : zAt ad287 (i + 1 + 1 + 1 + 1 + 1 + 1 + 1 + 1 + 1 + 1 + 1 + 1 + 1 + 1 + 1 + 1 + 1 + 1 + 1 + 1 + 1 + 1) (q262) := up_n ea289 ha736 (ne_o (i := i) (c := 22) (d := 24) rfl)
  have ha738 : zAt ad299 (i + 1 + 1 + 1 + 1 + 1 + 1 + 1 + 1 + 1 + 1 + 1 + 1 + 1 + 1 + 1 + 1 + 1 + 1 + 1 + 1 + 1 + 1) (q262) := up_n ea301 ha737 (ne_o (i := i) (c := 22) (d := 25) rfl)
  have ha739 : zAt ad311 (i + 1 + 1 + 1 + 1 + 1 + 1 + 1 + 1 + 1 + 1 + 1 + 1 + 1 + 1 + 1 + 1 + 1 + 1 + 1 + 1 + 1 + 1) (q262) := up_n ea313 ha738 (ne_o (i := i) (c := 22) (d := 26) rfl)
  have ha740 : zAt ad323 (i + 1 + 1 + 1 + 1 + 1 + 1 + 1 + 1 + 1 + 1 + 1 + 1 + 1 + 1 + 1 + 1 + 1 + 1 + 1 + 1 + 1 + 1) (q262) := up_n ea325 ha739 (ne_o (i := i) (c := 22) (d := 27) rfl)
  have ha741 : zAt ad335 (i + 1 + 1 + 1 + 1 + 1 + 1 + 1 + 1 + 1 + 1 + 1 + 1 + 1 + 1 + 1 + 1 + 1 + 1 + 1 + 1 + 1 + 1) (q262) := up_n ea337 ha740 (ne_o (i := i) (c := 22) (d := 28) rfl)
  have ha742 : zAt ad347 (i + 1 + 1 + 1 + 1 + 1 + 1 + 1 + 1 + 1 + 1 + 1 + 1 + 1 + 1 + 1 + 1 + 1 + 1 + 1 + 1 + 1 + 1) (q262) := up_n ea349 ha741 (ne_o (i := i) (c := 22) (d := 29) rfl)
  have ha743 : zAt ad287 (i + 1 + 1 + 1 + 1 + 1 + 1 + 1 + 1 + 1 + 1 + 1 + 1 + 1 + 1 + 1 + 1 + 1 + 1 + 1 + 1 + 1 + 1 + 1) (q274) := up_n ea289 ha279 (ne_o (i := i) (c := 23) (d := 24) rfl)
  have ha744 : zAt ad299 (i + 1 + 1 + 1 + 1 + 1 + 1 + 1 + 1 + 1 + 1 + 1 + 1 + 1 + 1 + 1 + 1 + 1 + 1 + 1 + 1 + 1 + 1 + 1) (q274) := up_n ea301 ha743 (ne_o (i := i) (c := 23) (d := 25) rfl)
  have ha745 : zAt ad311 (i + 1 + 1 + 1 + 1 + 1 + 1 + 1 + 1 + 1 + 1 + 1 + 1 + 1 + 1 + 1 + 1 + 1 + 1 + 1 + 1 + 1 + 1 + 1) (q274) := up_n ea313 ha744 (ne_o (i := i) (c := 23) (d := 26) rfl)
  have ha746 : zAt ad323 (i + 1 + 1 + 1 + 1 + 1 + 1 + 1 + 1 + 1 + 1 + 1 + 1 + 1 + 1 + 1 + 1 + 1 + 1 + 1 + 1 + 1 + 1 + 1) (q274) := up_n ea325 ha745 (ne_o (i := i) (c := 23) (d := 27) rfl)
  have ha747 : zAt ad335 (i + 1 + 1 + 1 + 1 + 1 + 1 + 1 + 1 + 1 + 1 + 1 + 1 + 1 + 1 + 1 + 1 + 1 + 1 + 1 + 1 + 1 + 1 + 1) (q274) := up_n ea337 ha746 (ne_o (i := i) (c := 23) (d := 28) rfl)
  have ha748 : zAt ad347 (i + 1 + 1 + 1 + 1 + 1 + 1 + 1 + 1 + 1 + 1 + 1 + 1 + 1 + 1 + 1 + 1 + 1 + 1 + 1 + 1 + 1 + 1 + 1) (q274) := up_n ea349 ha747 (ne_o (i := i) (c := 23) (d := 29) rfl)
  have ha749 : zAt ad299 (i + 1 + 1 + 1 + 1 + 1 + 1 + 1 + 1 + 1 + 1 + 1 + 1 + 1 + 1 + 1 + 1 + 1 + 1 + 1 + 1 + 1 + 1 + 1 + 1) (q286) := up_n ea301 ha291 (ne_o (i := i) (c := 24) (d := 25) rfl)
  have ha750 : zAt ad311 (i + 1 + 1 + 1 + 1 + 1 + 1 + 1 + 1 + 1 + 1 + 1 + 1 + 1 + 1 + 1 + 1 + 1 + 1 + 1 + 1 + 1 + 1 + 1 + 1) (q286) := up_n ea313 ha749 (ne_o (i := i) (c := 24) (d := 26) rfl)
  have ha751 : zAt ad323 (i + 1 + 1 + 1 + 1 + 1 + 1 + 1 + 1 + 1 + 1 + 1 + 1 + 1 + 1 + 1 + 1 + 1 + 1 + 1 + 1 + 1 + 1 + 1 + 1) (q286) := up_n ea325 ha750 (ne_o (i := i) (c := 24) (d := 27) rfl)
  have ha752 : zAt ad335 (i + 1 + 1 + 1 + 1 + 1 + 1 + 1 + 1 + 1 + 1 + 1 + 1 + 1 + 1 + 1 + 1 + 1 + 1 + 1 + 1 + 1 + 1 + 1 + 1) (q286) := up_n ea337 ha751 (ne_o (i := i) (c := 24) (d := 28) rfl)
  have ha753 : zAt ad347 (i + 1 + 1 + 1 + 1 + 1 + 1 + 1 + 1 + 1 + 1 + 1 + 1 + 1 + 1 + 1 + 1 + 1 + 1 + 1 + 1 + 1 + 1 + 1 + 1) (q286) := up_n ea349 ha752 (ne_o (i := i) (c := 24) (d := 29) rfl)
  have ha754 : zAt ad311 (i + 1 + 1 + 1 + 1 + 1 + 1 + 1 + 1 + 1 + 1 + 1 + 1 + 1 + 1 + 1 + 1 + 1 + 1 + 1 + 1 + 1 + 1 + 1 + 1 + 1) (q298) := up_n ea313 ha303 (ne_o (i := i) (c := 25) (d := 26) rfl)
  have ha755 : zAt ad323 (i + 1 + 1 + 1 + 1 + 1 + 1 + 1 + 1 + 1 + 1 + 1 + 1 + 1 + 1 + 1 + 1 + 1 + 1 + 1 + 1 + 1 + 1 + 1 + 1 + 1) (q298) := up_n ea325 ha754 (ne_o (i := i) (c := 25) (d := 27) rfl)
  have ha756 : zAt ad335 (i + 1 + 1 + 1 + 1 + 1 + 1 + 1 + 1 + 1 + 1 + 1 + 1 + 1 + 1 + 1 + 1 + 1 + 1 + 1 + 1 + 1 + 1 + 1 + 1 + 1) (q298) := up_n ea337 ha755 (ne_o (i := i) (c := 25) (d := 28) rfl)
  have ha757 : zAt ad347 (i + 1 + 1 + 1 + 1 + 1 + 1 + 1 + 1 + 1 + 1 + 1 + 1 + 1 + 1 + 1 + 1 + 1 + 1 + 1 + 1 + 1 + 1 + 1 + 1 + 1) (q298) := up_n ea349 ha756 (ne_o (i := i) (c := 25) (d := 29) rfl)
  have ha758 : zAt ad323 (i + 1 + 1 + 1 + 1 + 1 + 1 + 1 + 1 + 1 + 1 + 1 + 1 + 1 + 1 + 1 + 1 + 1 + 1 + 1 + 1 + 1 + 1 + 1 + 1 + 1 + 1) (q310) := up_n ea325 ha315 (ne_o (i := i) (c := 26) (d := 27) rfl)
  have ha759 : zAt ad335 (i + 1 + 1 + 1 + 1 + 1 + 1 + 1 + 1 + 1 + 1 + 1 + 1 + 1 + 1 + 1 + 1 + 1 + 1 + 1 + 1 + 1 + 1 + 1 + 1 + 1 + 1) (q310) := up_n ea337 ha758 (ne_o (i := i) (c := 26) (d := 28) rfl)
  have ha760 : zAt ad347 (i + 1 + 1 + 1 + 1 + 1 + 1 + 1 + 1 + 1 + 1 + 1 + 1 + 1 + 1 + 1 + 1 + 1 + 1 + 1 + 1 + 1 + 1 + 1 + 1 + 1 + 1) (q310) := up_n ea349 ha759 (ne_o (i := i) (c := 26) (d := 29) rfl)
  have ha761 : zAt ad335 (i + 1 + 1 + 1 + 1 + 1 + 1 + 1 + 1 + 1 + 1 + 1 + 1 + 1 + 1 + 1 + 1 + 1 + 1 + 1 + 1 + 1 + 1 + 1 + 1 + 1 + 1 + 1) (q322) := up_n ea337 ha327 (ne_o (i := i) (c := 27) (d := 28) rfl)
  have ha762 : zAt ad347 (i + 1 + 1 + 1 + 1 + 1 + 1 + 1 + 1 + 1 + 1 + 1 + 1 + 1 + 1 + 1 + 1 + 1 + 1 + 1 + 1 + 1 + 1 + 1 + 1 + 1 + 1 + 1) (q322) := up_n ea349 ha761 (ne_o (i := i) (c := 27) (d := 29) rfl)
  have ha763 : zAt ad347 (i + 1 + 1 + 1 + 1 + 1 + 1 + 1 + 1 + 1 + 1 + 1 + 1 + 1 + 1 + 1 + 1 + 1 + 1 + 1 + 1 + 1 + 1 + 1 + 1 + 1 + 1 + 1 + 1) (q334) := up_n ea349 ha339 (ne_o (i := i) (c := 28) (d := 29) rfl)
  have hmod : g355 i = mC ad347 i (fun k => if k = 24 ∨ k = 26 ∨ k = 27 then -1 else 0) := by rw [← (show ad347 (i + 1) = q1 from ha385), ← (show ad347 (i + 1 + 1) = q13 from ha412), ← (show ad347 (i + 1 + 1 + 1) = q25 from ha438), ← (show ad347 (i + 1 + 1 + 1 + 1) = q37 from ha463), ← (show ad347 (i + 1 + 1 + 1 + 1 + 1) = q49 from ha487), ← (show ad347 (i + 1 + 1 + 1 + 1 + 1 + 1) = q61 from ha510), ← (show ad347 (i + 1 + 1 + 1 + 1 + 1 + 1 + 1) = q73 from ha532), ← (show ad347 (i + 1 + 1 + 1 + 1 + 1 + 1 + 1 + 1) = q85 from ha553), ← (show ad347 (i + 1 + 1 + 1 + 1 + 1 + 1 + 1 + 1 + 1) = q97 from ha573), ← (show ad347 (i + 1 + 1 + 1 + 1 + 1 + 1 + 1 + 1 + 1 + 1) = q109 from ha592), ← (show ad347 (i + 1 + 1 + 1 + 1 + 1 + 1 + 1 + 1 + 1 + 1 + 1) = q121 from ha610), ← (show ad347 (i + 1 + 1 + 1 + 1 + 1 + 1 + 1 + 1 + 1 + 1 + 1 + 1) = q133 from ha627), ← (show ad347 (i + 1 + 1 + 1 + 1 + 1 + 1 + 1 + 1 + 1 + 1 + 1 + 1 + 1) = q145 from ha643), ← (show ad347 (i + 1 + 1 + 1 + 1 + 1 + 1 + 1 + 1 + 1 + 1 + 1 + 1 + 1 + 1) = q166 from ha658), ← (show ad347 (i + 1 + 1 + 1 + 1 + 1 + 1 + 1 + 1 + 1 + 1 + 1 + 1 + 1 + 1 + 1) = q178 from ha672), ← (show ad347 (i + 1 + 1 + 1 + 1 + 1 + 1 + 1 + 1 + 1 + 1 + 1 + 1 + 1 + 1 + 1 + 1) = q190 from ha685), ← (show ad347 (i + 1 + 1 + 1 + 1 + 1 + 1 + 1 + 1 + 1 + 1 + 1 + 1 + 1 + 1 + 1 + 1 + 1) = q202 from ha697), ← (show ad347 (i + 1 + 1 + 1 + 1 + 1 + 1 + 1 + 1 + 1 + 1 + 1 + 1 + 1 + 1 + 1 + 1 + 1 + 1) = q214 from ha708), ← (show ad347 (i + 1 + 1 + 1 + 1 + 1 + 1 + 1 + 1 + 1 + 1 + 1 + 1 + 1 + 1 + 1 + 1 + 1 + 1 + 1) = q226 from ha718), ← (show ad347 (i + 1 + 1 + 1 + 1 + 1 + 1 + 1 + 1 + 1 + 1 + 1 + 1 + 1 + 1 + 1 + 1 + 1 + 1 + 1 + 1) = q238 from ha727), ← (show ad347 (i + 1 + 1 + 1 + 1 + 1 + 1 + 1 + 1 + 1 + 1 + 1 + 1 + 1 + 1 + 1 + 1 + 1 + 1 + 1 + 1 + 1) = q250 from ha735), ← (show ad347 (i + 1 + 1 + 1 + 1 + 1 + 1 + 1 + 1 + 1 + 1 + 1 + 1 + 1 + 1 + 1 + 1 + 1 + 1 + 1 + 1 + 1 + 1) = q262 from ha742), ← (show ad347 (i + 1 + 1 + 1 + 1 + 1 + 1 + 1 + 1 + 1 + 1 + 1 + 1 + 1 + 1 + 1 + 1 + 1 + 1 + 1 + 1 + 1 + 1 + 1) = q274 from ha748), ← (show ad347 (i + 1 + 1 + 1 + 1 + 1 + 1 + 1 + 1 + 1 + 1 + 1 + 1 + 1 + 1 + 1 + 1 + 1 + 1 + 1 + 1 + 1 + 1 + 1 + 1) = q286 from ha753), ← (show ad347 (i + 1 + 1 + 1 + 1 + 1 + 1 + 1 + 1 + 1 + 1 + 1 + 1 + 1 + 1 + 1 + 1 + 1 + 1 + 1 + 1 + 1 + 1 + 1 + 1 + 1) = q298 from ha757), ← (show ad347 (i + 1 + 1 + 1 + 1 + 1 + 1 + 1 + 1 + 1 + 1 + 1 + 1 + 1 + 1 + 1 + 1 + 1 + 1 + 1 + 1 + 1 + 1 + 1 + 1 + 1 + 1) = q310 from ha760), ← (show ad347 (i + 1 + 1 + 1 + 1 + 1 + 1 + 1 + 1 + 1 + 1 + 1 + 1 + 1 + 1 + 1 + 1 + 1 + 1 + 1 + 1 + 1 + 1 + 1 + 1 + 1 + 1 + 1) = q322 from ha762), ← (show ad347 (i + 1 + 1 + 1 + 1 + 1 + 1 + 1 + 1 + 1 + 1 + 1 + 1 + 1 + 1 + 1 + 1 + 1 + 1 + 1 + 1 + 1 + 1 + 1 + 1 + 1 + 1 + 1 + 1) = q334 from ha763), ← (show ad347 (i + 1 + 1 + 1 + 1 + 1 + 1 + 1 + 1 + 1 + 1 + 1 + 1 + 1 + 1 + 1 + 1 + 1 + 1 + 1 + 1 + 1 + 1 + 1 + 1 + 1 + 1 + 1 + 1 + 1) = q346 from ha351)] at hg357; exact hg357
  have hg764 := up_n eg11 hg7 (ne_o (i := i) (c := 1) (d := 0) rfl)
  have hg765 := up_n eg17 hg764 (ne_o (i := i) (c := 1) (d := 2) rfl)
  have hg766 := up_n eg23 hg765 (ne_o (i := i) (c := 1) (d := 0) rfl)
  have hg767 := up_n eg29 hg766 (ne_o (i := i) (c := 1) (d := 3) rfl)
  have hg768 := up_n eg35 hg767 (ne_o (i := i) (c := 1) (d := 0) rfl)
  have hg769 := up_n eg41 hg768 (ne_o (i := i) (c := 1) (d := 4) rfl)
  have hg770 := up_n eg47 hg769 (ne_o (i := i) (c := 1) (d := 0) rfl)
  have hg771 := up_n eg53 hg770 (ne_o (i := i) (c := 1) (d := 5) rfl)
  have hg772 := up_n eg59 hg771 (ne_o (i := i) (c := 1) (d := 0) rfl)
  have hg773 := up_n eg65 hg772 (ne_o (i := i) (c := 1) (d := 6) rfl)
  have hg774 := up_n eg71 hg773 (ne_o (i := i) (c := 1) (d := 0) rfl)
  have hg775 := up_n eg77 hg774 (ne_o (i := i) (c := 1) (d := 7) rfl)
  have hg776 := up_n eg83 hg775 (ne_o (i := i) (c := 1) (d := 0) rfl)
  have hg777 := up_n eg89 hg776 (ne_o (i := i) (c := 1) (d := 8) rfl)
  have hg778 := up_n eg95 hg777 (ne_o (i := i) (c := 1) (d := 0) rfl)
  have hg779 := up_n eg101 hg778 (ne_o (i := i) (c := 1) (d := 9) rfl)
  have hg780 := up_n eg107 hg779 (ne_o (i := i) (c := 1) (d := 0) rfl)
  have hg781 := up_n eg113 hg780 (ne_o (i := i) (c := 1) (d := 10) rfl)
  have hg782 := up_n eg119 hg781 (ne_o (i := i) (c := 1) (d := 0) rfl)
  have hg783 := up_n eg125 hg782 (ne_o (i := i) (c := 1) (d := 11) rfl)
  have hg784 := up_n eg131 hg783 (ne_o (i := i) (c := 1) (d := 0) rfl)
  have hg785 := up_n eg137 hg784 (ne_o (i := i) (c := 1) (d := 12) rfl)
  have hg786 := up_n eg143 hg785 (ne_o (i := i) (c := 1) (d := 0) rfl)
  have hg787 := up_n eg149 hg786 (ne_o (i := i) (c := 1) (d := 13) rfl)
  have hg788 := up_n eg155 hg787 (ne_o (i := i) (c := 1) (d := 0) rfl)
  have hg789 := up_n eg158 hg788 (ne_o (i := i) (c := 1) (d := 0) rfl)
  have hg790 := up_n eg161 hg789 (ne_o (i := i) (c := 1) (d := 0) rfl)
  have hg791 := up_n eg164 hg790 (ne_o (i := i) (c := 1) (d := 0) rfl)
  have hg792 := up_n eg170 hg791 (ne_o (i := i) (c := 1) (d := 14) rfl)
  have hg793 := up_n eg176 hg792 (ne_o (i := i) (c := 1) (d := 0) rfl)
  have hg794 := up_n eg182 hg793 (ne_o (i := i) (c := 1) (d := 15) rfl)
  have hg795 := up_n eg188 hg794 (ne_o (i := i) (c := 1) (d := 0) rfl)
  have hg796 := up_n eg194 hg795 (ne_o (i := i) (c := 1) (d := 16) rfl)
  have hg797 := up_n eg200 hg796 (ne_o (i := i) (c := 1) (d := 0) rfl)
  have hg798 := up_n eg206 hg797 (ne_o (i := i) (c := 1) (d := 17) rfl)
  have hg799 := up_n eg212 hg798 (ne_o (i := i) (c := 1) (d := 0) rfl)
  have hg800 := up_n eg218 hg799 (ne_o (i := i) (c := 1) (d := 18) rfl)
  have hg801 := up_n eg224 hg800 (ne_o (i := i) (c := 1) (d := 0) rfl)
  have hg802 := up_n eg230 hg801 (ne_o (i := i) (c := 1) (d := 19) rfl)
  have hg803 := up_n eg236 hg802 (ne_o (i := i) (c := 1) (d := 0) rfl)
  have hg804 := up_n eg242 hg803 (ne_o (i := i) (c := 1) (d := 20) rfl)
  have hg805 := up_n eg248 hg804 (ne_o (i := i) (c := 1) (d := 0) rfl)
  have hg806 := up_n eg254 hg805 (ne_o (i := i) (c := 1) (d := 21) rfl)
  have hg807 := up_n eg260 hg806 (ne_o (i := i) (c := 1) (d := 0) rfl)
  have hg808 := up_n eg266 hg807 (ne_o (i := i) (c := 1) (d := 22) rfl)
  have hg809 := up_n eg272 hg808 (ne_o (i := i) (c := 1) (d := 0) rfl)
  have hg810 := up_n eg278 hg809 (ne_o (i := i) (c := 1) (d := 23) rfl)
  have hg811 := up_n eg284 hg810 (ne_o (i := i) (c := 1) (d := 0) rfl)
  have hg812 := up_n eg290 hg811 (ne_o (i := i) (c := 1) (d := 24) rfl)
  have hg813 := up_n eg296 hg812 (ne_o (i := i) (c := 1) (d := 0) rfl)
  have hg814 := up_n eg302 hg813 (ne_o (i := i) (c := 1) (d := 25) rfl)
  have hg815 := up_n eg308 hg814 (ne_o (i := i) (c := 1) (d := 0) rfl)
  have hg816 := up_n eg314 hg815 (ne_o (i := i) (c := 1) (d := 26) rfl)
  have hg817 := up_n eg320 hg816 (ne_o (i := i) (c := 1) (d := 0) rfl)
  have hg818 := up_n eg326 hg817 (ne_o (i := i) (c := 1) (d := 27) rfl)
  have hg819 := up_n eg332 hg818 (ne_o (i := i) (c := 1) (d := 0) rfl)
  have hg820 := up_n eg338 hg819 (ne_o (i := i) (c := 1) (d := 28) rfl)
  have hg821 := up_n eg344 hg820 (ne_o (i := i) (c := 1) (d := 0) rfl)
  have hg822 := up_n eg350 hg821 (ne_o (i := i) (c := 1) (d := 29) rfl)
  have hg823 := up_n eg356 hg822 (ne_o (i := i) (c := 1) (d := 0) rfl)
  have hg824 := up_n eg23 hg19 (ne_o (i := i) (c := 2) (d := 0) rfl)
  have hg825 := up_n eg29 hg824 (ne_o (i := i) (c := 2) (d := 3) rfl)
  have hg826 := up_n eg35 hg825 (ne_o (i := i) (c := 2) (d := 0) rfl)
  have hg827 := up_n eg41 hg826 (ne_o (i := i) (c := 2) (d := 4) rfl)
  have hg828 := up_n eg47 hg827 (ne_o (i := i) (c := 2) (d := 0) rfl)
  have hg829 := up_n eg53 hg828 (ne_o (i := i) (c := 2) (d := 5) rfl)
  have hg830 := up_n eg59 hg829 (ne_o (i := i) (c := 2) (d := 0) rfl)
  have hg831 := up_n eg65 hg830 (ne_o (i := i) (c := 2) (d := 6) rfl)
  have hg832 := up_n eg71 hg831 (ne_o (i := i) (c := 2) (d := 0) rfl)
  have hg833 := up_n eg77 hg832 (ne_o (i := i) (c := 2) (d := 7) rfl)
  have hg834 := up_n eg83 hg833 (ne_o (i := i) (c := 2) (d := 0) rfl)
  have hg835 := up_n eg89 hg834 (ne_o (i := i) (c := 2) (d := 8) rfl)
  have hg836 := up_n eg95 hg835 (ne_o (i := i) (c := 2) (d := 0) rfl)
  have hg837 := up_n eg101 hg836 (ne_o (i := i) (c := 2) (d := 9) rfl)
  have hg838 := up_n eg107 hg837 (ne_o (i := i) (c := 2) (d := 0) rfl)
  have hg839 := up_n eg113 hg838 (ne_o (i := i) (c := 2) (d := 10) rfl)
  have hg840 := up_n eg119 hg839 (ne_o (i := i) (c := 2) (d := 0) rfl)
  have hg841 := up_n eg125 hg840 (ne_o (i := i) (c := 2) (d := 11) rfl)
  have hg842 := up_n eg131 hg841 (ne_o (i := i) (c := 2) (d := 0) rfl)
  have hg843 := up_n eg137 hg842 (ne_o (i := i) (c := 2) (d := 12) rfl)
  have hg844 := up_n eg143 hg843 (ne_o (i := i) (c := 2) (d := 0) rfl)
  have hg845 := up_n eg149 hg844 (ne_o (i := i) (c := 2) (d := 13) rfl)
  have hg846 := up_n eg155 hg845 (ne_o (i := i) (c := 2) (d := 0) rfl)
  have hg847 := up_n eg158 hg846 (ne_o (i := i) (c := 2) (d := 0) rfl)
  have hg848 := up_n eg161 hg847 (ne_o (i := i) (c := 2) (d := 0) rfl)
  have hg849 := up_n eg164 hg848 (ne_o (i := i) (c := 2) (d := 0) rfl)
  have hg850 := up_n eg170 hg849 (ne_o (i := i) (c := 2) (d := 14) rfl)
  have hg851 := up_n eg176 hg850 (ne_o (i := i) (c := 2) (d := 0) rfl)
  have hg852 := up_n eg182 hg851 (ne_o (i := i) (c := 2) (d := 15) rfl)
  have hg853 := up_n eg188 hg852 (ne_o (i := i) (c := 2) (d := 0) rfl)
  have hg854 := up_n eg194 hg853 (ne_o (i := i) (c := 2) (d := 16) rfl)
  have hg855 := up_n eg200 hg854 (ne_o (i := i) (c := 2) (d := 0) rfl)
  have hg856 := up_n eg206 hg855 (ne_o (i := i) (c := 2) (d := 17) rfl)
  have hg857 := up_n eg212 hg856 (ne_o (i := i) (c := 2) (d := 0) rfl)
  have hg858 := up_n eg218 hg857 (ne_o (i := i) (c := 2) (d := 18) rfl)
  have hg859 := up_n eg224 hg858 (ne_o (i := i) (c := 2) (d := 0) rfl)
  have hg860 := up_n eg230 hg859 (ne_o (i := i) (c := 2) (d := 19) rfl)
  have hg861 := up_n eg236 hg860 (ne_o (i := i) (c := 2) (d := 0) rfl)
  have hg862 := up_n eg242 hg861 (ne_o (i := i) (c := 2) (d := 20) rfl)
  have hg863 := up_n eg248 hg862 (ne_o (i := i) (c := 2) (d := 0) rfl)
  have hg864 := up_n eg254 hg863 (ne_o (i := i) (c := 2) (d := 21) rfl)
  have hg865 := up_n eg260 hg864 (ne_o (i := i) (c := 2) (d := 0) rfl)
  have hg866 := up_n eg266 hg865 (ne_o (i := i) (c := 2) (d := 22) rfl)
  have hg867 := up_n eg272 hg866 (ne_o (i := i) (c := 2) (d := 0) rfl)
  have hg868 := up_n eg278 hg867 (ne_o (i := i) (c := 2) (d := 23) rfl)
  have hg869 := up_n eg284 hg868 (ne_o (i := i) (c := 2) (d := 0) rfl)
  have hg870 := up_n eg290 hg869 (ne_o (i := i) (c := 2) (d := 24) rfl)
  have hg871 := up_n eg296 hg870 (ne_o (i := i) (c := 2) (d := 0) rfl)
  have hg872 := up_n eg302 hg871 (ne_o (i := i) (c := 2) (d := 25) rfl)
  have hg873 := up_n eg308 hg872 (ne_o (i := i) (c := 2) (d := 0) rfl)
  have hg874 := up_n eg314 hg873 (ne_o (i := i) (c := 2) (d := 26) rfl)
  have hg875 := up_n eg320 hg874 (ne_o (i := i) (c := 2) (d := 0) rfl)
  have hg876 := up_n eg326 hg875 (ne_o (i := i) (c := 2) (d := 27) rfl)
  have hg877 := up_n eg332 hg876 (ne_o (i := i) (c := 2) (d := 0) rfl)
  have hg878 := up_n eg338 hg877 (ne_o (i := i) (c := 2) (d := 28) rfl)
  have hg879 := up_n eg344 hg878 (ne_o (i := i) (c := 2) (d := 0) rfl)
  have hg880 := up_n eg350 hg879 (ne_o (i := i) (c := 2) (d := 29) rfl)
  have hg881 := up_n eg356 hg880 (ne_o (i := i) (c := 2) (d := 0) rfl)
  have hg882 := up_n eg35 hg31 (ne_o (i := i) (c := 3) (d := 0) rfl)
  have hg883 := up_n eg41 hg882 (ne_o (i := i) (c := 3) (d := 4) rfl)
  have hg884 := up_n eg47 hg883 (ne_o (i := i) (c := 3) (d := 0) rfl)
  have hg885 := up_n eg53 hg884 (ne_o (i := i) (c := 3) (d := 5) rfl)
  have hg886 := up_n eg59 hg885 (ne_o (i := i) (c := 3) (d := 0) rfl)
  have hg887 := up_n eg65 hg886 (ne_o (i := i) (c := 3) (d := 6) rfl)
  have hg888 := up_n eg71 hg887 (ne_o (i := i) (c := 3) (d := 0) rfl)
  have hg889 := up_n eg77 hg888 (ne_o (i := i) (c := 3) (d := 7) rfl)
  have hg890 := up_n eg83 hg889 (ne_o (i := i) (c := 3) (d := 0) rfl)
  have hg891 := up_n eg89 hg890 (ne_o (i := i) (c := 3) (d := 8) rfl)
  have hg892 := up_n eg95 hg891 (ne_o (i := i) (c := 3) (d := 0) rfl)
  have hg893 := up_n eg101 hg892 (ne_o (i := i) (c := 3) (d := 9) rfl)
  have hg894 := up_n eg107 hg893 (ne_o (i := i) (c := 3) (d := 0) rfl)
  have hg895 := up_n eg113 hg894 (ne_o (i := i) (c := 3) (d := 10) rfl)
  have hg896 := up_n eg119 hg895 (ne_o (i := i) (c := 3) (d := 0) rfl)
  have hg897 := up_n eg125 hg896 (ne_o (i := i) (c := 3) (d := 11) rfl)
  have hg898 := up_n eg131 hg897 (ne_o (i := i) (c := 3) (d := 0) rfl)
  have hg899 := up_n eg137 hg898 (ne_o (i := i) (c := 3) (d := 12) rfl)
  have hg900 := up_n eg143 hg899 (ne_o (i := i) (c := 3) (d := 0) rfl)
  have hg901 := up_n eg149 hg900 (ne_o (i := i) (c := 3) (d := 13) rfl)
  have hg902 := up_n eg155 hg901 (ne_o (i := i) (c := 3) (d := 0) rfl)
  have hg903 := up_n eg158 hg902 (ne_o (i := i) (c := 3) (d := 0) rfl)
  have hg904 := up_n eg161 hg903 (ne_o (i := i) (c := 3) (d := 0) rfl)
  have hg905 := up_n eg164 hg904 (ne_o (i := i) (c := 3) (d := 0) rfl)
  have hg906 := up_n eg170 hg905 (ne_o (i := i) (c := 3) (d := 14) rfl)
  have hg907 := up_n eg176 hg906 (ne_o (i := i) (c := 3) (d := 0) rfl)
  have hg908 := up_n eg182 hg907 (ne_o (i := i) (c := 3) (d := 15) rfl)
  have hg909 := up_n eg188 hg908 (ne_o (i := i) (c := 3) (d := 0) rfl)
  have hg910 := up_n eg194 hg909 (ne_o (i := i) (c := 3) (d := 16) rfl)
  have hg911 := up_n eg200 hg910 (ne_o (i := i) (c := 3) (d := 0) rfl)
  have hg912 := up_n eg206 hg911 (ne_o (i := i) (c := 3) (d := 17) rfl)
  have hg913 := up_n eg212 hg912 (ne_o (i := i) (c := 3) (d := 0) rfl)
  have hg914 := up_n eg218 hg913 (ne_o (i := i) (c := 3) (d := 18) rfl)
  have hg915 := up_n eg224 hg914 (ne_o (i := i) (c := 3) (d := 0) rfl)
  have hg916 := up_n eg230 hg915 (ne_o (i := i) (c := 3) (d := 19) rfl)
  have hg917 := up_n eg236 hg916 (ne_o (i := i) (c := 3) (d := 0) rfl)
  have hg918 := up_n eg242 hg917 (ne_o (i := i) (c := 3) (d := 20) rfl)
  have hg919 := up_n eg248 hg918 (ne_o (i := i) (c := 3) (d := 0) rfl)
  have hg920 := up_n eg254 hg919 (ne_o (i := i) (c := 3) (d := 21) rfl)
  have hg921 := up_n eg260 hg920 (ne_o (i := i) (c := 3) (d := 0) rfl)
  have hg922 := up_n eg266 hg921 (ne_o (i := i) (c := 3) (d := 22) rfl)
  have hg923 := up_n eg272 hg922 (ne_o (i := i) (c := 3) (d := 0) rfl)
  have hg924 := up_n eg278 hg923 (ne_o (i := i) (c := 3) (d := 23) rfl)
  have hg925 := up_n eg284 hg924 (ne_o (i := i) (c := 3) (d := 0) rfl)
  have hg926 := up_n eg290 hg925 (ne_o (i := i) (c := 3) (d := 24) rfl)
  have hg927 := up_n eg296 hg926 (ne_o (i := i) (c := 3) (d := 0) rfl)
  have hg928 := up_n eg302 hg927 (ne_o (i := i) (c := 3) (d := 25) rfl)
  have hg929 := up_n eg308 hg928 (ne_o (i := i) (c := 3) (d := 0) rfl)
  have hg930 := up_n eg314 hg929 (ne_o (i := i) (c := 3) (d := 26) rfl)
  have hg931 := up_n eg320 hg930 (ne_o (i := i) (c := 3) (d := 0) rfl)
  have hg932 := up_n eg326 hg931 (ne_o (i := i) (c := 3) (d := 27) rfl)
  have hg933 := up_n eg332 hg932 (ne_o (i := i) (c := 3) (d := 0) rfl)
  have hg934 := up_n eg338 hg933 (ne_o (i := i) (c := 3) (d := 28) rfl)
  have hg935 := up_n eg344 hg934 (ne_o (i := i) (c := 3) (d := 0) rfl)
  have hg936 := up_n eg350 hg935 (ne_o (i := i) (c := 3) (d := 29) rfl)
  have hg937 := up_n eg356 hg936 (ne_o (i := i) (c := 3) (d := 0) rfl)
  have hg938 := up_n eg47 hg43 (ne_o (i := i) (c := 4) (d := 0) rfl)
  have hg939 := up_n eg53 hg938 (ne_o (i := i) (c := 4) (d := 5) rfl)
  have hg940 := up_n eg59 hg939 (ne_o (i := i) (c := 4) (d := 0) rfl)
  have hg941 := up_n eg65 hg940 (ne_o (i := i) (c := 4) (d := 6) rfl)
  have hg942 := up_n eg71 hg941 (ne_o (i := i) (c := 4) (d := 0) rfl)
  have hg943 := up_n eg77 hg942 (ne_o (i := i) (c := 4) (d := 7) rfl)
  have hg944 := up_n eg83 hg943 (ne_o (i := i) (c := 4) (d := 0) rfl)
  have hg945 := up_n eg89 hg944 (ne_o (i := i) (c := 4) (d := 8) rfl)
  have hg946 := up_n eg95 hg945 (ne_o (i := i) (c := 4) (d := 0) rfl)
  have hg947 := up_n eg101 hg946 (ne_o (i := i) (c := 4) (d := 9) rfl)
  have hg948 := up_n eg107 hg947 (ne_o (i := i) (c := 4) (d := 0) rfl)
  have hg949 := up_n eg113 hg948 (ne_o (i := i) (c := 4) (d := 10) rfl)
  have hg950 := up_n eg119 hg949 (ne_o (i := i) (c := 4) (d := 0) rfl)
  have hg951 := up_n eg125 hg950 (ne_o (i := i) (c := 4) (d := 11) rfl)
  have hg952 := up_n eg131 hg951 (ne_o (i := i) (c := 4) (d := 0) rfl)
  have hg953 := up_n eg137 hg952 (ne_o (i := i) (c := 4) (d := 12) rfl)
  have hg954 := up_n eg143 hg953 (ne_o (i := i) (c := 4) (d := 0) rfl)
  have hg955 := up_n eg149 hg954 (ne_o (i := i) (c := 4) (d := 13) rfl)
  have hg956 := up_n eg155 hg955 (ne_o (i := i) (c := 4) (d := 0) rfl)
  have hg957 := up_n eg158 hg956 (ne_o (i := i) (c := 4) (d := 0) rfl)
  have hg958 := up_n eg161 hg957 (ne_o (i := i) (c := 4) (d := 0) rfl)
  have hg959 := up_n eg164 hg958 (ne_o (i := i) (c := 4) (d := 0) rfl)
  have hg960 := up_n eg170 hg959 (ne_o (i := i) (c := 4) (d := 14) rfl)
  have hg961 := up_n eg176 hg960 (ne_o (i := i) (c := 4) (d := 0) rfl)
  have hg962 := up_n eg182 hg961 (ne_o (i := i) (c := 4) (d := 15) rfl)
  have hg963 := up_n eg188 hg962 (ne_o (i := i) (c := 4) (d := 0) rfl)
  have hg964 := up_n eg194 hg963 (ne_o (i := i) (c := 4) (d := 16) rfl)
  have hg965 := up_n eg200 hg964 (ne_o (i := i) (c := 4) (d := 0) rfl)
  have hg966 := up_n eg206 hg965 (ne_o (i := i) (c := 4) (d := 17) rfl)
  have hg967 := up_n eg212 hg966 (ne_o (i := i) (c := 4) (d := 0) rfl)
  have hg968 := up_n eg218 hg967 (ne_o (i := i) (c := 4) (d := 18) rfl)
  have hg969 := up_n eg224 hg968 (ne_o (i := i) (c := 4) (d := 0) rfl)
  have hg970 := up_n eg230 hg969 (ne_o (i := i) (c := 4) (d := 19) rfl)
  have hg971 := up_n eg236 hg970 (ne_o (i := i) (c := 4) (d := 0) rfl)
  have hg972 := up_n eg242 hg971 (ne_o (i := i) (c := 4) (d := 20) rfl)
  have hg973 := up_n eg248 hg972 (ne_o (i := i) (c := 4) (d := 0) rfl)
  have hg974 := up_n eg254 hg973 (ne_o (i := i) (c := 4) (d := 21) rfl)
  have hg975 := up_n eg260 hg974 (ne_o (i := i) (c := 4) (d := 0) rfl)
  have hg976 := up_n eg266 hg975 (ne_o (i := i) (c := 4) (d := 22) rfl)
  have hg977 := up_n eg272 hg976 (ne_o (i := i) (c := 4) (d := 0) rfl)
  have hg978 := up_n eg278 hg977 (ne_o (i := i) (c := 4) (d := 23) rfl)
  have hg979 := up_n eg284 hg978 (ne_o (i := i) (c := 4) (d := 0) rfl)
  have hg980 := up_n eg290 hg979 (ne_o (i := i) (c := 4) (d := 24) rfl)
  have hg981 := up_n eg296 hg980 (ne_o (i := i) (c := 4) (d := 0) rfl)
  have hg982 := up_n eg302 hg981 (ne_o (i := i) (c := 4) (d := 25) rfl)
  have hg983 := up_n eg308 hg982 (ne_o (i := i) (c := 4) (d := 0) rfl)
  have hg984 := up_n eg314 hg983 (ne_o (i := i) (c := 4) (d := 26) rfl)
  have hg985 := up_n eg320 hg984 (ne_o (i := i) (c := 4) (d := 0) rfl)
  have hg986 := up_n eg326 hg985 (ne_o (i := i) (c := 4) (d := 27) rfl)
  have hg987 := up_n eg332 hg986 (ne_o (i := i) (c := 4) (d := 0) rfl)
  have hg988 := up_n eg338 hg987 (ne_o (i := i) (c := 4) (d := 28) rfl)
  have hg989 := up_n eg344 hg988 (ne_o (i := i) (c := 4) (d := 0) rfl)
  have hg990 := up_n eg350 hg989 (ne_o (i := i) (c := 4) (d := 29) rfl)
  have hg991 := up_n eg356 hg990 (ne_o (i := i) (c := 4) (d := 0) rfl)
  have hg992 := up_n eg59 hg55 (ne_o (i := i) (c := 5) (d := 0) rfl)
  have hg993 := up_n eg65 hg992 (ne_o (i := i) (c := 5) (d := 6) rfl)
  have hg994 := up_n eg71 hg993 (ne_o (i := i) (c := 5) (d := 0) rfl)
  have hg995 := up_n eg77 hg994 (ne_o (i := i) (c := 5) (d := 7) rfl)
  have hg996 := up_n eg83 hg995 (ne_o (i := i) (c := 5) (d := 0) rfl)
  have hg997 := up_n eg89 hg996 (ne_o (i := i) (c := 5) (d := 8) rfl)
  have hg998 := up_n eg95 hg997 (ne_o (i := i) (c := 5) (d := 0) rfl)
  have hg999 := up_n eg101 hg998 (ne_o (i := i) (c := 5) (d := 9) rfl)
  have hg1000 := up_n eg107 hg999 (ne_o (i := i) (c := 5) (d := 0) rfl)
  have hg1001 := up_n eg113 hg1000 (ne_o (i := i) (c := 5) (d := 10) rfl)
  have hg1002 := up_n eg119 hg1001 (ne_o (i := i) (c := 5) (d := 0) rfl)
  have hg1003 := up_n eg125 hg1002 (ne_o (i := i) (c := 5) (d := 11) rfl)
  have hg1004 := up_n eg131 hg1003 (ne_o (i := i) (c := 5) (d := 0) rfl)
  have hg1005 := up_n eg137 hg1004 (ne_o (i := i) (c := 5) (d := 12) rfl)
  have hg1006 := up_n eg143 hg1005 (ne_o (i := i) (c := 5) (d := 0) rfl)
  have hg1007 := up_n eg149 hg1006 (ne_o (i := i) (c := 5) (d := 13) rfl)
  have hg1008 := up_n eg155 hg1007 (ne_o (i := i) (c := 5) (d := 0) rfl)
  have hg1009 := up_n eg158 hg1008 (ne_o (i := i) (c := 5) (d := 0) rfl)
  have hg1010 := up_n eg161 hg1009 (ne_o (i := i) (c := 5) (d := 0) rfl)
  have hg1011 := up_n eg164 hg1010 (ne_o (i := i) (c := 5) (d := 0) rfl)
  have hg1012 := up_n eg170 hg1011 (ne_o (i := i) (c := 5) (d := 14) rfl)
  have hg1013 := up_n eg176 hg1012 (ne_o (i := i) (c := 5) (d := 0) rfl)
  have hg1014 := up_n eg182 hg1013 (ne_o (i := i) (c := 5) (d := 15) rfl)
  have hg1015 := up_n eg188 hg1014 (ne_o (i := i) (c := 5) (d := 0) rfl)
  have hg1016 := up_n eg194 hg1015 (ne_o (i := i) (c := 5) (d := 16) rfl)
  have hg1017 := up_n eg200 hg1016 (ne_o (i := i) (c := 5) (d := 0) rfl)
  have hg1018 := up_n eg206 hg1017 (ne_o (i := i) (c := 5) (d := 17) rfl)
  have hg1019 := up_n eg212 hg1018 (ne_o (i := i) (c := 5) (d := 0) rfl)
  have hg1020 := up_n eg218 hg1019 (ne_o (i := i) (c := 5) (d := 18) rfl)
  have hg1021 := up_n eg224 hg1020 (ne_o (i := i) (c := 5) (d := 0) rfl)
  have hg1022 := up_n eg230 hg1021 (ne_o (i := i) (c := 5) (d := 19) rfl)
  have hg1023 := up_n eg236 hg1022 (ne_o (i := i) (c := 5) (d := 0) rfl)
  have hg1024 := up_n eg242 hg1023 (ne_o (i := i) (c := 5) (d := 20) rfl)
  have hg1025 := up_n eg248 hg1024 (ne_o (i := i) (c := 5) (d := 0) rfl)
  have hg1026 := up_n eg254 hg1025 (ne_o (i := i) (c := 5) (d := 21) rfl)
  have hg1027 := up_n eg260 hg1026 (ne_o (i := i) (c := 5) (d := 0) rfl)
  have hg1028 := up_n eg266 hg1027 (ne_o (i := i) (c := 5) (d := 22) rfl)
  have hg1029 := up_n eg272 hg1028 (ne_o (i := i) (c := 5) (d := 0) rfl)
  have hg1030 := up_n eg278 hg1029 (ne_o (i := i) (c := 5) (d := 23) rfl)
  have hg1031 := up_n eg284 hg1030 (ne_o (i := i) (c := 5) (d := 0) rfl)
  have hg1032 := up_n eg290 hg1031 (ne_o (i := i) (c := 5) (d := 24) rfl)
  have hg1033 := up_n eg296 hg1032 (ne_o (i := i) (c := 5) (d := 0) rfl)
  have hg1034 := up_n eg302 hg1033 (ne_o (i := i) (c := 5) (d := 25) rfl)
  have hg1035 := up_n eg308 hg1034 (ne_o (i := i) (c := 5) (d := 0) rfl)
  have hg1036 := up_n eg314 hg1035 (ne_o (i := i) (c := 5) (d := 26) rfl)
  have hg1037 := up_n eg320 hg1036 (ne_o (i := i) (c := 5) (d := 0) rfl)
  have hg1038 := up_n eg326 hg1037 (ne_o (i := i) (c := 5) (d := 27) rfl)
  have hg1039 := up_n eg332 hg1038 (ne_o (i := i) (c := 5) (d := 0) rfl)
  have hg1040 := up_n eg338 hg1039 (ne_o (i := i) (c := 5) (d := 28) rfl)
  have hg1041 := up_n eg344 hg1040 (ne_o (i := i) (c := 5) (d := 0) rfl)
  have hg1042 := up_n eg350 hg1041 (ne_o (i := i) (c := 5) (d := 29) rfl)
  have hg1043 := up_n eg356 hg1042 (ne_o (i := i) (c := 5) (d := 0) rfl)
  have hg1044 := up_n eg71 hg67 (ne_o (i := i) (c := 6) (d := 0) rfl)
  have hg1045 := up_n eg77 hg1044 (ne_o (i := i) (c := 6) (d := 7) rfl)
  have hg1046 := up_n eg83 hg1045 (ne_o (i := i) (c := 6) (d := 0) rfl)
  have hg1047 := up_n eg89 hg1046 (ne_o (i := i) (c := 6) (d := 8) rfl)
  have hg1048 := up_n eg95 hg1047 (ne_o (i := i) (c := 6) (d := 0) rfl)
  have hg1049 := up_n eg101 hg1048 (ne_o (i := i) (c := 6) (d := 9) rfl)
  have hg1050 := up_n eg107 hg1049 (ne_o (i := i) (c := 6) (d := 0) rfl)
  have hg1051 := up_n eg113 hg1050 (ne_o (i := i) (c := 6) (d := 10) rfl)
  have hg1052 := up_n eg119 hg1051 (ne_o (i := i) (c := 6) (d := 0) rfl)
  have hg1053 := up_n eg125 hg1052 (ne_o (i := i) (c := 6) (d := 11) rfl)
  have hg1054 := up_n eg131 hg1053 (ne_o (i := i) (c := 6) (d := 0) rfl)
  have hg1055 := up_n eg137 hg1054 (ne_o (i := i) (c := 6) (d := 12) rfl)
  have hg1056 := up_n eg143 hg1055 (ne_o (i := i) (c := 6) (d := 0) rfl)
  have hg1057 := up_n eg149 hg1056 (ne_o (i := i) (c := 6) (d := 13) rfl)
  have hg1058 := up_n eg155 hg1057 (ne_o (i := i) (c := 6) (d := 0) rfl)
  have hg1059 := up_n eg158 hg1058 (ne_o (i := i) (c := 6) (d := 0) rfl)
  have hg1060 := up_n eg161 hg1059 (ne_o (i := i) (c := 6) (d := 0) rfl)
  have hg1061 := up_n eg164 hg1060 (ne_o (i := i) (c := 6) (d := 0) rfl)
  have hg1062 := up_n eg170 hg1061 (ne_o (i := i) (c := 6) (d := 14) rfl)
  have hg1063 := up_n eg176 hg1062 (ne_o (i := i) (c := 6) (d := 0) rfl)
  have hg1064 := up_n eg182 hg1063 (ne_o (i := i) (c := 6) (d := 15) rfl)
  have hg1065 := up_n eg188 hg1064 (ne_o (i := i) (c := 6) (d := 0) rfl)
  have hg1066 := up_n eg194 hg1065 (ne_o (i := i) (c := 6) (d := 16) rfl)
  have hg1067 := up_n eg200 hg1066 (ne_o (i := i) (c := 6) (d := 0) rfl)
  have hg1068 := up_n eg206 hg1067 (ne_o (i := i) (c := 6) (d := 17) rfl)
  have hg1069 := up_n eg212 hg1068 (ne_o (i := i) (c := 6) (d := 0) rfl)
  have hg1070 := up_n eg218 hg1069 (ne_o (i := i) (c := 6) (d := 18) rfl)
  have hg1071 := up_n eg224 hg1070 (ne_o (i := i) (c := 6) (d := 0) rfl)
  have hg1072 := up_n eg230 hg1071 (ne_o (i := i) (c := 6) (d := 19) rfl)
  have hg1073 := up_n eg236 hg1072 (ne_o (i := i) (c := 6) (d := 0) rfl)
  have hg1074 := up_n eg242 hg1073 (ne_o (i := i) (c := 6) (d := 20) rfl)
  have hg1075 := up_n eg248 hg1074 (ne_o (i := i) (c := 6) (d := 0) rfl)
  have hg1076 := up_n eg254 hg1075 (ne_o (i := i) (c := 6) (d := 21) rfl)
  have hg1077 := up_n eg260 hg1076 (ne_o (i := i) (c := 6) (d := 0) rfl)
  have hg1078 := up_n eg266 hg1077 (ne_o (i := i) (c := 6) (d := 22) rfl)
  have hg1079 := up_n eg272 hg1078 (ne_o (i := i) (c := 6) (d := 0) rfl)
  have hg1080 := up_n eg278 hg1079 (ne_o (i := i) (c := 6) (d := 23) rfl)
  have hg1081 := up_n eg284 hg1080 (ne_o (i := i) (c := 6) (d := 0) rfl)
  have hg1082 := up_n eg290 hg1081 (ne_o (i := i) (c := 6) (d := 24) rfl)
  have hg1083 := up_n eg296 hg1082 (ne_o (i := i) (c := 6) (d := 0) rfl)
  have hg1084 := up_n eg302 hg1083 (ne_o (i := i) (c := 6) (d := 25) rfl)
  have hg1085 := up_n eg308 hg1084 (ne_o (i := i) (c := 6) (d := 0) rfl)
  have hg1086 := up_n eg314 hg1085 (ne_o (i := i) (c := 6) (d := 26) rfl)
  have hg1087 := up_n eg320 hg1086 (ne_o (i := i) (c := 6) (d := 0) rfl)
  have hg1088 := up_n eg326 hg1087 (ne_o (i := i) (c := 6) (d := 27) rfl)
  have hg1089 := up_n eg332 hg1088 (ne_o (i := i) (c := 6) (d := 0) rfl)
  have hg1090 := up_n eg338 hg1089 (ne_o (i := i) (c := 6) (d := 28) rfl)
  have hg1091 := up_n eg344 hg1090 (ne_o (i := i) (c := 6) (d := 0) rfl)
  have hg1092 := up_n eg350 hg1091 (ne_o (i := i) (c := 6) (d := 29) rfl)
  have hg1093 := up_n eg356 hg1092 (ne_o (i := i) (c := 6) (d := 0) rfl)
  have hg1094 := up_n eg83 hg79 (ne_o (i := i) (c := 7) (d := 0) rfl)
  have hg1095 := up_n eg89 hg1094 (ne_o (i := i) (c := 7) (d := 8) rfl)
  have hg1096 := up_n eg95 hg1095 (ne_o (i := i) (c := 7) (d := 0) rfl)
  have hg1097 := up_n eg101 hg1096 (ne_o (i := i) (c := 7) (d := 9) rfl)
  have hg1098 := up_n eg107 hg1097 (ne_o (i := i) (c := 7) (d := 0) rfl)
  have hg1099 := up_n eg113 hg1098 (ne_o (i := i) (c := 7) (d := 10) rfl)
  have hg1100 := up_n eg119 hg1099 (ne_o (i := i) (c := 7) (d := 0) rfl)
  have hg1101 := up_n eg125 hg1100 (ne_o (i := i) (c := 7) (d := 11) rfl)
  have hg1102 := up_n eg131 hg1101 (ne_o (i := i) (c := 7) (d := 0) rfl)
  have hg1103 := up_n eg137 hg1102 (ne_o (i := i) (c := 7) (d := 12) rfl)
  have hg1104 := up_n eg143 hg1103 (ne_o (i := i) (c := 7) (d := 0) rfl)
  have hg1105 := up_n eg149 hg1104 (ne_o (i := i) (c := 7) (d := 13) rfl)
  have hg1106 := up_n eg155 hg1105 (ne_o (i := i) (c := 7) (d := 0) rfl)
  have hg1107 := up_n eg158 hg1106 (ne_o (i := i) (c := 7) (d := 0) rfl)
  have hg1108 := up_n eg161 hg1107 (ne_o (i := i) (c := 7) (d := 0) rfl)
  have hg1109 := up_n eg164 hg1108 (ne_o (i := i) (c := 7) (d := 0) rfl)
  have hg1110 := up_n eg170 hg1109 (ne_o (i := i) (c := 7) (d := 14) rfl)
  have hg1111 := up_n eg176 hg1110 (ne_o (i := i) (c := 7) (d := 0) rfl)
  have hg1112 := up_n eg182 hg1111 (ne_o (i := i) (c := 7) (d := 15) rfl)
  have hg1113 := up_n eg188 hg1112 (ne_o (i := i) (c := 7) (d := 0) rfl)
  have hg1114 := up_n eg194 hg1113 (ne_o (i := i) (c := 7) (d := 16) rfl)
  have hg1115 := up_n eg200 hg1114 (ne_o (i := i) (c := 7) (d := 0) rfl)
  have hg1116 := up_n eg206 hg1115 (ne_o (i := i) (c := 7) (d := 17) rfl)
  have hg1117 := up_n eg212 hg1116 (ne_o (i := i) (c := 7) (d := 0) rfl)
  have hg1118 := up_n eg218 hg1117 (ne_o (i := i) (c := 7) (d := 18) rfl)
  have hg1119 := up_n eg224 hg1118 (ne_o (i := i) (c := 7) (d := 0) rfl)
  have hg1120 := up_n eg230 hg1119 (ne_o (i := i) (c := 7) (d := 19) rfl)
  have hg1121 := up_n eg236 hg1120 (ne_o (i := i) (c := 7) (d := 0) rfl)
  have hg1122 := up_n eg242 hg1121 (ne_o (i := i) (c := 7) (d := 20) rfl)
  have hg1123 := up_n eg248 hg1122 (ne_o (i := i) (c := 7) (d := 0) rfl)
  have hg1124 := up_n eg254 hg1123 (ne_o (i := i) (c := 7) (d := 21) rfl)
  have hg1125 := up_n eg260 hg1124 (ne_o (i := i) (c := 7) (d := 0) rfl)
  have hg1126 := up_n eg266 hg1125 (ne_o (i := i) (c := 7) (d := 22) rfl)
  have hg1127 := up_n eg272 hg1126 (ne_o (i := i) (c := 7) (d := 0) rfl)
  have hg1128 := up_n eg278 hg1127 (ne_o (i := i) (c := 7) (d := 23) rfl)
  have hg1129 := up_n eg284 hg1128 (ne_o (i := i) (c := 7) (d := 0) rfl)
  have hg1130 := up_n eg290 hg1129 (ne_o (i := i) (c := 7) (d := 24) rfl)
  have hg1131 := up_n eg296 hg1130 (ne_o (i := i) (c := 7) (d := 0) rfl)
  have hg1132 := up_n eg302 hg1131 (ne_o (i := i) (c := 7) (d := 25) rfl)
  have hg1133 := up_n eg308 hg1132 (ne_o (i := i) (c := 7) (d := 0) rfl)
  have hg1134 := up_n eg314 hg1133 (ne_o (i := i) (c := 7) (d := 26) rfl)
  have hg1135 := up_n eg320 hg1134 (ne_o (i := i) (c := 7) (d := 0) rfl)
  have hg1136 := up_n eg326 hg1135 (ne_o (i := i) (c := 7) (d := 27) rfl)
  have hg1137 := up_n eg332 hg1136 (ne_o (i := i) (c := 7) (d := 0) rfl)
  have hg1138 := up_n eg338 hg1137 (ne_o (i := i) (c := 7) (d := 28) rfl)
  have hg1139 := up_n eg344 hg1138 (ne_o (i := i) (c := 7) (d := 0) rfl)
  have hg1140 := up_n eg350 hg1139 (ne_o (i := i) (c := 7) (d := 29) rfl)
  have hg1141 := up_n eg356 hg1140 (ne_o (i := i) (c := 7) (d := 0) rfl)
  have hg1142 := up_n eg95 hg91 (ne_o (i := i) (c := 8) (d := 0) rfl)
  have hg1143 := up_n eg101 hg1142 (ne_o (i := i) (c := 8) (d := 9) rfl)
  have hg1144 := up_n eg107 hg1143 (ne_o (i := i) (c := 8) (d := 0) rfl)
  have hg1145 := up_n eg113 hg1144 (ne_o (i := i) (c := 8) (d := 10) rfl)
  have hg1146 := up_n eg119 hg1145 (ne_o (i := i) (c := 8) (d := 0) rfl)
  have hg1147 := up_n eg125 hg1146 (ne_o (i := i) (c := 8) (d := 11) rfl)
  have hg1148 := up_n eg131 hg1147 (ne_o (i := i) (c := 8) (d := 0) rfl)
  have hg1149 := up_n eg137 hg1148 (ne_o (i := i) (c := 8) (d := 12) rfl)
  have hg1150 := up_n eg143 hg1149 (ne_o (i := i) (c := 8) (d := 0) rfl)
  have hg1151 := up_n eg149 hg1150 (ne_o (i := i) (c := 8) (d := 13) rfl)
  have hg1152 := up_n eg155 hg1151 (ne_o (i := i) (c := 8) (d := 0) rfl)
  have hg1153 := up_n eg158 hg1152 (ne_o (i := i) (c := 8) (d := 0) rfl)
  have hg1154 := up_n eg161 hg1153 (ne_o (i := i) (c := 8) (d := 0) rfl)
  have hg1155 := up_n eg164 hg1154 (ne_o (i := i) (c := 8) (d := 0) rfl)
  have hg1156 := up_n eg170 hg1155 (ne_o (i := i) (c := 8) (d := 14) rfl)
  have hg1157 := up_n eg176 hg1156 (ne_o (i := i) (c := 8) (d := 0) rfl)
  have hg1158 := up_n eg182 hg1157 (ne_o (i := i) (c := 8) (d := 15) rfl)
  have hg1159 := up_n eg188 hg1158 (ne_o (i := i) (c := 8) (d := 0) rfl)
  have hg1160 := up_n eg194 hg1159 (ne_o (i := i) (c := 8) (d := 16) rfl)
  have hg1161 := up_n eg200 hg1160 (ne_o (i := i) (c := 8) (d := 0) rfl)
  have hg1162 := up_n eg206 hg1161 (ne_o (i := i) (c := 8) (d := 17) rfl)
  have hg1163 := up_n eg212 hg1162 (ne_o (i := i) (c := 8) (d := 0) rfl)
  have hg1164 := up_n eg218 hg1163 (ne_o (i := i) (c := 8) (d := 18) rfl)
  have hg1165 := up_n eg224 hg1164 (ne_o (i := i) (c := 8) (d := 0) rfl)
  have hg1166 := up_n eg230 hg1165 (ne_o (i := i) (c := 8) (d := 19) rfl)
  have hg1167 := up_n eg236 hg1166 (ne_o (i := i) (c := 8) (d := 0) rfl)
  have hg1168 := up_n eg242 hg1167 (ne_o (i := i) (c := 8) (d := 20) rfl)
  have hg1169 := up_n eg248 hg1168 (ne_o (i := i) (c := 8) (d := 0) rfl)
  have hg1170 := up_n eg254 hg1169 (ne_o (i := i) (c := 8) (d := 21) rfl)
  have hg1171 := up_n eg260 hg1170 (ne_o (i := i) (c := 8) (d := 0) rfl)
  have hg1172 := up_n eg266 hg1171 (ne_o (i := i) (c := 8) (d := 22) rfl)
  have hg1173 := up_n eg272 hg1172 (ne_o (i := i) (c := 8) (d := 0) rfl)
  have hg1174 := up_n eg278 hg1173 (ne_o (i := i) (c := 8) (d := 23) rfl)
  have hg1175 := up_n eg284 hg1174 (ne_o (i := i) (c := 8) (d := 0) rfl)
  have hg1176 := up_n eg290 hg1175 (ne_o (i := i) (c := 8) (d := 24) rfl)
  have hg1177 := up_n eg296 hg1176 (ne_o (i := i) (c := 8) (d := 0) rfl)
  have hg1178 := up_n eg302 hg1177 (ne_o (i := i) (c := 8) (d := 25) rfl)
  have hg1179 := up_n eg308 hg1178 (ne_o (i := i) (c := 8) (d := 0) rfl)
  have hg1180 := up_n eg314 hg1179 (ne_o (i := i) (c := 8) (d := 26) rfl)
  have hg1181 := up_n eg320 hg1180 (ne_o (i := i) (c := 8) (d := 0) rfl)
  have hg1182 := up_n eg326 hg1181 (ne_o (i := i) (c := 8) (d := 27) rfl)
  have hg1183 := up_n eg332 hg1182 (ne_o (i := i) (c := 8) (d := 0) rfl)
  have hg1184 := up_n eg338 hg1183 (ne_o (i := i) (c := 8) (d := 28) rfl)
  have hg1185 := up_n eg344 hg1184 (ne_o (i := i) (c := 8) (d := 0) rfl)
  have hg1186 := up_n eg350 hg1185 (ne_o (i := i) (c := 8) (d := 29) rfl)
  have hg1187 := up_n eg356 hg1186 (ne_o (i := i) (c := 8) (d := 0) rfl)
  have hg1188 := up_n eg107 hg103 (ne_o (i := i) (c := 9) (d := 0) rfl)
  have hg1189 := up_n eg113 hg1188 (ne_o (i := i) (c := 9) (d := 10) rfl)
  have hg1190 := up_n eg119 hg1189 (ne_o (i := i) (c := 9) (d := 0) rfl)
  have hg1191 := up_n eg125 hg1190 (ne_o (i := i) (c := 9) (d := 11) rfl)
  have hg1192 := up_n eg131 hg1191 (ne_o (i := i) (c := 9) (d := 0) rfl)
  have hg1193 := up_n eg137 hg1192 (ne_o (i := i) (c := 9) (d := 12) rfl)
  have hg1194 := up_n eg143 hg1193 (ne_o (i := i) (c := 9) (d := 0) rfl)
  have hg1195 := up_n eg149 hg1194 (ne_o (i := i) (c := 9) (d := 13) rfl)
  have hg1196 := up_n eg155 hg1195 (ne_o (i := i) (c := 9) (d := 0) rfl)
  have hg1197 := up_n eg158 hg1196 (ne_o (i := i) (c := 9) (d := 0) rfl)
  have hg1198 := up_n eg161 hg1197 (ne_o (i := i) (c := 9) (d := 0) rfl)
  have hg1199 := up_n eg164 hg1198 (ne_o (i := i) (c := 9) (d := 0) rfl)
  have hg1200 := up_n eg170 hg1199 (ne_o (i := i) (c := 9) (d := 14) rfl)
  have hg1201 := up_n eg176 hg1200 (ne_o (i := i) (c := 9) (d := 0) rfl)
  have hg1202 := up_n eg182 hg1201 (ne_o (i := i) (c := 9) (d := 15) rfl)
  have hg1203 := up_n eg188 hg1202 (ne_o (i := i) (c := 9) (d := 0) rfl)
  have hg1204 := up_n eg194 hg1203 (ne_o (i := i) (c := 9) (d := 16) rfl)
  have hg1205 := up_n eg200 hg1204 (ne_o (i := i) (c := 9) (d := 0) rfl)
  have hg1206 := up_n eg206 hg1205 (ne_o (i := i) (c := 9) (d := 17) rfl)
  have hg1207 := up_n eg212 hg1206 (ne_o (i := i) (c := 9) (d := 0) rfl)
  have hg1208 := up_n eg218 hg1207 (ne_o (i := i) (c := 9) (d := 18) rfl)
  have hg1209 := up_n eg224 hg1208 (ne_o (i := i) (c := 9) (d := 0) rfl)
  have hg1210 := up_n eg230 hg1209 (ne_o (i := i) (c := 9) (d := 19) rfl)
  have hg1211 := up_n eg236 hg1210 (ne_o (i := i) (c := 9) (d := 0) rfl)
  have hg1212 := up_n eg242 hg1211 (ne_o (i := i) (c := 9) (d := 20) rfl)
  have hg1213 := up_n eg248 hg1212 (ne_o (i := i) (c := 9) (d := 0) rfl)
  have hg1214 := up_n eg254 hg1213 (ne_o (i := i) (c := 9) (d := 21) rfl)
  have hg1215 := up_n eg260 hg1214 (ne_o (i := i) (c := 9) (d := 0) rfl)
  have hg1216 := up_n eg266 hg1215 (ne_o (i := i) (c := 9) (d := 22) rfl)
  have hg1217 := up_n eg272 hg1216 (ne_o (i := i) (c := 9) (d := 0) rfl)
  have hg1218 := up_n eg278 hg1217 (ne_o (i := i) (c := 9) (d := 23) rfl)
  have hg1219 := up_n eg284 hg1218 (ne_o (i := i) (c := 9) (d := 0) rfl)
  have hg1220 := up_n eg290 hg1219 (ne_o (i := i) (c := 9) (d := 24) rfl)
  have hg1221 := up_n eg296 hg1220 (ne_o (i := i) (c := 9) (d := 0) rfl)
  have hg1222 := up_n eg302 hg1221 (ne_o (i := i) (c := 9) (d := 25) rfl)
  have hg1223 := up_n eg308 hg1222 (ne_o (i := i) (c := 9) (d := 0) rfl)
  have hg1224 := up_n eg314 hg1223 (ne_o (i := i) (c := 9) (d := 26) rfl)
  have hg1225 := up_n eg320 hg1224 (ne_o (i := i) (c := 9) (d := 0) rfl)
  have hg1226 := up_n eg326 hg1225 (ne_o (i := i) (c := 9) (d := 27) rfl)
  have hg1227 := up_n eg332 hg1226 (ne_o (i := i) (c := 9) (d := 0) rfl)
  have hg1228 := up_n eg338 hg1227 (ne_o (i := i) (c := 9) (d := 28) rfl)
  have hg1229 := up_n eg344 hg1228 (ne_o (i := i) (c := 9) (d := 0) rfl)
  have hg1230 := up_n eg350 hg1229 (ne_o (i := i) (c := 9) (d := 29) rfl)
  have hg1231 := up_n eg356 hg1230 (ne_o (i := i) (c := 9) (d := 0) rfl)
  have hg1232 := up_n eg119 hg115 (ne_o (i := i) (c := 10) (d := 0) rfl)
  have hg1233 := up_n eg125 hg1232 (ne_o (i := i) (c := 10) (d := 11) rfl)
  have hg1234 := up_n eg131 hg1233 (ne_o (i := i) (c := 10) (d := 0) rfl)
  have hg1235 := up_n eg137 hg1234 (ne_o (i := i) (c := 10) (d := 12) rfl)
  have hg1236 := up_n eg143 hg1235 (ne_o (i := i) (c := 10) (d := 0) rfl)
  have hg1237 := up_n eg149 hg1236 (ne_o (i := i) (c := 10) (d := 13) rfl)
  have hg1238 := up_n eg155 hg1237 (ne_o (i := i) (c := 10) (d := 0) rfl)
  have hg1239 := up_n eg158 hg1238 (ne_o (i := i) (c := 10) (d := 0) rfl)
  have hg1240 := up_n eg161 hg1239 (ne_o (i := i) (c := 10) (d := 0) rfl)
  have hg1241 := up_n eg164 hg1240 (ne_o (i := i) (c := 10) (d := 0) rfl)
  have hg1242 := up_n eg170 hg1241 (ne_o (i := i) (c := 10) (d := 14) rfl)
  have hg1243 := up_n eg176 hg1242 (ne_o (i := i) (c := 10) (d := 0) rfl)
  have hg1244 := up_n eg182 hg1243 (ne_o (i := i) (c := 10) (d := 15) rfl)
  have hg1245 := up_n eg188 hg1244 (ne_o (i := i) (c := 10) (d := 0) rfl)
  have hg1246 := up_n eg194 hg1245 (ne_o (i := i) (c := 10) (d := 16) rfl)
  have hg1247 := up_n eg200 hg1246 (ne_o (i := i) (c := 10) (d := 0) rfl)
  have hg1248 := up_n eg206 hg1247 (ne_o (i := i) (c := 10) (d := 17) rfl)
  have hg1249 := up_n eg212 hg1248 (ne_o (i := i) (c := 10) (d := 0) rfl)
  have hg1250 := up_n eg218 hg1249 (ne_o (i := i) (c := 10) (d := 18) rfl)
  have hg1251 := up_n eg224 hg1250 (ne_o (i := i) (c := 10) (d := 0) rfl)
  have hg1252 := up_n eg230 hg1251 (ne_o (i := i) (c := 10) (d := 19) rfl)
  have hg1253 := up_n eg236 hg1252 (ne_o (i := i) (c := 10) (d := 0) rfl)
  have hg1254 := up_n eg242 hg1253 (ne_o (i := i) (c := 10) (d := 20) rfl)
  have hg1255 := up_n eg248 hg1254 (ne_o (i := i) (c := 10) (d := 0) rfl)
  have hg1256 := up_n eg254 hg1255 (ne_o (i := i) (c := 10) (d := 21) rfl)
  have hg1257 := up_n eg260 hg1256 (ne_o (i := i) (c := 10) (d := 0) rfl)
  have hg1258 := up_n eg266 hg1257 (ne_o (i := i) (c := 10) (d := 22) rfl)
  have hg1259 := up_n eg272 hg1258 (ne_o (i := i) (c := 10) (d := 0) rfl)
  have hg1260 := up_n eg278 hg1259 (ne_o (i := i) (c := 10) (d := 23) rfl)
  have hg1261 := up_n eg284 hg1260 (ne_o (i := i) (c := 10) (d := 0) rfl)
  have hg1262 := up_n eg290 hg1261 (ne_o (i := i) (c := 10) (d := 24) rfl)
  have hg1263 := up_n eg296 hg1262 (ne_o (i := i) (c := 10) (d := 0) rfl)
  have hg1264 := up_n eg302 hg1263 (ne_o (i := i) (c := 10) (d := 25) rfl)
  have hg1265 := up_n eg308 hg1264 (ne_o (i := i) (c := 10) (d := 0) rfl)
  have hg1266 := up_n eg314 hg1265 (ne_o (i := i) (c := 10) (d := 26) rfl)
  have hg1267 := up_n eg320 hg1266 (ne_o (i := i) (c := 10) (d := 0) rfl)
  have hg1268 := up_n eg326 hg1267 (ne_o (i := i) (c := 10) (d := 27) rfl)
  have hg1269 := up_n eg332 hg1268 (ne_o (i := i) (c := 10) (d := 0) rfl)
  have hg1270 := up_n eg338 hg1269 (ne_o (i := i) (c := 10) (d := 28) rfl)
  have hg1271 := up_n eg344 hg1270 (ne_o (i := i) (c := 10) (d := 0) rfl)
  have hg1272 := up_n eg350 hg1271 (ne_o (i := i) (c := 10) (d := 29) rfl)
  have hg1273 := up_n eg356 hg1272 (ne_o (i := i) (c := 10) (d := 0) rfl)
  have hg1274 := up_n eg131 hg127 (ne_o (i := i) (c := 11) (d := 0) rfl)
  have hg1275 := up_n eg137 hg1274 (ne_o (i := i) (c := 11) (d := 12) rfl)
  have hg1276 := up_n eg143 hg1275 (ne_o (i := i) (c := 11) (d := 0) rfl)
  have hg1277 := up_n eg149 hg1276 (ne_o (i := i) (c := 11) (d := 13) rfl)
  have hg1278 := up_n eg155 hg1277 (ne_o (i := i) (c := 11) (d := 0) rfl)
  have hg1279 := up_n eg158 hg1278 (ne_o (i := i) (c := 11) (d := 0) rfl)
  have hg1280 := up_n eg161 hg1279 (ne_o (i := i) (c := 11) (d := 0) rfl)
  have hg1281 := up_n eg164 hg1280 (ne_o (i := i) (c := 11) (d := 0) rfl)
  have hg1282 := up_n eg170 hg1281 (ne_o (i := i) (c := 11) (d := 14) rfl)
  have hg1283 := up_n eg176 hg1282 (ne_o (i := i) (c := 11) (d := 0) rfl)
  have hg1284 := up_n eg182 hg1283 (ne_o (i := i) (c := 11) (d := 15) rfl)
  have hg1285 := up_n eg188 hg1284 (ne_o (i := i) (c := 11) (d := 0) rfl)
  have hg1286 := up_n eg194 hg1285 (ne_o (i := i) (c := 11) (d := 16) rfl)
  have hg1287 := up_n eg200 hg1286 (ne_o (i := i) (c := 11) (d := 0) rfl)
  have hg1288 := up_n eg206 hg1287 (ne_o (i := i) (c := 11) (d := 17) rfl)
  have hg1289 := up_n eg212 hg1288 (ne_o (i := i) (c := 11) (d := 0) rfl)
  have hg1290 := up_n eg218 hg1289 (ne_o (i := i) (c := 11) (d := 18) rfl)
  have hg1291 := up_n eg224 hg1290 (ne_o (i := i) (c := 11) (d := 0) rfl)
  have hg1292 := up_n eg230 hg1291 (ne_o (i := i) (c := 11) (d := 19) rfl)
  have hg1293 := up_n eg236 hg1292 (ne_o (i := i) (c := 11) (d := 0) rfl)
  have hg1294 := up_n eg242 hg1293 (ne_o (i := i) (c := 11) (d := 20) rfl)
  have hg1295 := up_n eg248 hg1294 (ne_o (i := i) (c := 11) (d := 0) rfl)
  have hg1296 := up_n eg254 hg1295 (ne_o (i := i) (c := 11) (d := 21) rfl)
  have hg1297 := up_n eg260 hg1296 (ne_o (i := i) (c := 11) (d := 0) rfl)
  have hg1298 := up_n eg266 hg1297 (ne_o (i := i) (c := 11) (d := 22) rfl)
  have hg1299 := up_n eg272 hg1298 (ne_o (i := i) (c := 11) (d := 0) rfl)
  have hg1300 := up_n eg278 hg1299 (ne_o (i := i) (c := 11) (d := 23) rfl)
  have hg1301 := up_n eg284 hg1300 (ne_o (i := i) (c := 11) (d := 0) rfl)
  have hg1302 := up_n eg290 hg1301 (ne_o (i := i) (c := 11) (d := 24) rfl)
  have hg1303 := up_n eg296 hg1302 (ne_o (i := i) (c := 11) (d := 0) rfl)
  have hg1304 := up_n eg302 hg1303 (ne_o (i := i) (c := 11) (d := 25) rfl)
  have hg1305 := up_n eg308 hg1304 (ne_o (i := i) (c := 11) (d := 0) rfl)
  have hg1306 := up_n eg314 hg1305 (ne_o (i := i) (c := 11) (d := 26) rfl)
  have hg1307 := up_n eg320 hg1306 (ne_o (i := i) (c := 11) (d := 0) rfl)
  have hg1308 := up_n eg326 hg1307 (ne_o (i := i) (c := 11) (d := 27) rfl)
  have hg1309 := up_n eg332 hg1308 (ne_o (i := i) (c := 11) (d := 0) rfl)
  have hg1310 := up_n eg338 hg1309 (ne_o (i := i) (c := 11) (d := 28) rfl)
  have hg1311 := up_n eg344 hg1310 (ne_o (i := i) (c := 11) (d := 0) rfl)
  have hg1312 := up_n eg350 hg1311 (ne_o (i := i) (c := 11) (d := 29) rfl)
  have hg1313 := up_n eg356 hg1312 (ne_o (i := i) (c := 11) (d := 0) rfl)
  have hg1314 := up_n eg143 hg139 (ne_o (i := i) (c := 12) (d := 0) rfl)
  have hg1315 := up_n eg149 hg1314 (ne_o (i := i) (c := 12) (d := 13) rfl)
  have hg1316 := up_n eg155 hg1315 (ne_o (i := i) (c := 12) (d := 0) rfl)
  have hg1317 := up_n eg158 hg1316 (ne_o (i := i) (c := 12) (d := 0) rfl)
  have hg1318 := up_n eg161 hg1317 (ne_o (i := i) (c := 12) (d := 0) rfl)
  have hg1319 := up_n eg164 hg1318 (ne_o (i := i) (c := 12) (d := 0) rfl)
  have hg1320 := up_n eg170 hg1319 (ne_o (i := i) (c := 12) (d := 14) rfl)
  have hg1321 := up_n eg176 hg1320 (ne_o (i := i) (c := 12) (d := 0) rfl)
  have hg1322 := up_n eg182 hg1321 (ne_o (i := i) (c := 12) (d := 15) rfl)
  have hg1323 := up_n eg188 hg1322 (ne_o (i := i) (c := 12) (d := 0) rfl)
  have hg1324 := up_n eg194 hg1323 (ne_o (i := i) (c := 12) (d := 16) rfl)
  have hg1325 := up_n eg200 hg1324 (ne_o (i := i) (c := 12) (d := 0) rfl)
  have hg1326 := up_n eg206 hg1325 (ne_o (i := i) (c := 12) (d := 17) rfl)
  have hg1327 := up_n eg212 hg1326 (ne_o (i := i) (c := 12) (d := 0) rfl)
  have hg1328 := up_n eg218 hg1327 (ne_o (i := i) (c := 12) (d := 18) rfl)
  have hg1329 := up_n eg224 hg1328 (ne_o (i := i) (c := 12) (d := 0) rfl)
  have hg1330 := up_n eg230 hg1329 (ne_o (i := i) (c := 12) (d := 19) rfl)
  have hg1331 := up_n eg236 hg1330 (ne_o (i := i) (c := 12) (d := 0) rfl)
  have hg1332 := up_n eg242 hg1331 (ne_o (i := i) (c := 12) (d := 20) rfl)
  have hg1333 := up_n eg248 hg1332 (ne_o (i := i) (c := 12) (d := 0) rfl)
  have hg1334 := up_n eg254 hg1333 (ne_o (i := i) (c := 12) (d := 21) rfl)
  have hg1335 := up_n eg260 hg1334 (ne_o (i := i) (c := 12) (d := 0) rfl)
  have hg1336 := up_n eg266 hg1335 (ne_o (i := i) (c := 12) (d := 22) rfl)
  have hg1337 := up_n eg272 hg1336 (ne_o (i := i) (c := 12) (d := 0) rfl)
  have hg1338 := up_n eg278 hg1337 (ne_o (i := i) (c := 12) (d := 23) rfl)
  have hg1339 := up_n eg284 hg1338 (ne_o (i := i) (c := 12) (d := 0) rfl)
  have hg1340 := up_n eg290 hg1339 (ne_o (i := i) (c := 12) (d := 24) rfl)
  have hg1341 := up_n eg296 hg1340 (ne_o (i := i) (c := 12) (d := 0) rfl)
  have hg1342 := up_n eg302 hg1341 (ne_o (i := i) (c := 12) (d := 25) rfl)
  have hg1343 := up_n eg308 hg1342 (ne_o (i := i) (c := 12) (d := 0) rfl)
  have hg1344 := up_n eg314 hg1343 (ne_o (i := i) (c := 12) (d := 26) rfl)
  have hg1345 := up_n eg320 hg1344 (ne_o (i := i) (c := 12) (d := 0) rfl)
  have hg1346 := up_n eg326 hg1345 (ne_o (i := i) (c := 12) (d := 27) rfl)
  have hg1347 := up_n eg332 hg1346 (ne_o (i := i) (c := 12) (d := 0) rfl)
  have hg1348 := up_n eg338 hg1347 (ne_o (i := i) (c := 12) (d := 28) rfl)
  have hg1349 := up_n eg344 hg1348 (ne_o (i := i) (c := 12) (d := 0) rfl)
  have hg1350 := up_n eg350 hg1349 (ne_o (i := i) (c := 12) (d := 29) rfl)
  have hg1351 := up_n eg356 hg1350 (ne_o (i := i) (c := 12) (d := 0) rfl)
  have hg1352 := up_n eg155 hg151 (ne_o (i := i) (c := 13) (d := 0) rfl)
  have hg1353 := up_n eg158 hg1352 (ne_o (i := i) (c := 13) (d := 0) rfl)
  have hg1354 := up_n eg161 hg1353 (ne_o (i := i) (c := 13) (d := 0) rfl)
  have hg1355 := up_n eg164 hg1354 (ne_o (i := i) (c := 13) (d := 0) rfl)
  have hg1356 := up_n eg170 hg1355 (ne_o (i := i) (c := 13) (d := 14) rfl)
  have hg1357 := up_n eg176 hg1356 (ne_o (i := i) (c := 13) (d := 0) rfl)
  have hg1358 := up_n eg182 hg1357 (ne_o (i := i) (c := 13) (d := 15) rfl)
  have hg1359 := up_n eg188 hg1358 (ne_o (i := i) (c := 13) (d := 0) rfl)
  have hg1360 := up_n eg194 hg1359 (ne_o (i := i) (c := 13) (d := 16) rfl)
  have hg1361 := up_n eg200 hg1360 (ne_o (i := i) (c := 13) (d := 0) rfl)
  have hg1362 := up_n eg206 hg1361 (ne_o (i := i) (c := 13) (d := 17) rfl)
  have hg1363 := up_n eg212 hg1362 (ne_o (i := i) (c := 13) (d := 0) rfl)
  have hg1364 := up_n eg218 hg1363 (ne_o (i := i) (c := 13) (d := 18) rfl)
  have hg1365 := up_n eg224 hg1364 (ne_o (i := i) (c := 13) (d := 0) rfl)
  have hg1366 := up_n eg230 hg1365 (ne_o (i := i) (c := 13) (d := 19) rfl)
  have hg1367 := up_n eg236 hg1366 (ne_o (i := i) (c := 13) (d := 0) rfl)
  have hg1368 := up_n eg242 hg1367 (ne_o (i := i) (c := 13) (d := 20) rfl)
  have hg1369 := up_n eg248 hg1368 (ne_o (i := i) (c := 13) (d := 0) rfl)
  have hg1370 := up_n eg254 hg1369 (ne_o (i := i) (c := 13) (d := 21) rfl)
  have hg1371 := up_n eg260 hg1370 (ne_o (i := i) (c := 13) (d := 0) rfl)
  have hg1372 := up_n eg266 hg1371 (ne_o (i := i) (c := 13) (d := 22) rfl)
  have hg1373 := up_n eg272 hg1372 (ne_o (i := i) (c := 13) (d := 0) rfl)
  have hg1374 := up_n eg278 hg1373 (ne_o (i := i) (c := 13) (d := 23) rfl)
  have hg1375 := up_n eg284 hg1374 (ne_o (i := i) (c := 13) (d := 0) rfl)
  have hg1376 := up_n eg290 hg1375 (ne_o (i := i) (c := 13) (d := 24) rfl)
  have hg1377 := up_n eg296 hg1376 (ne_o (i := i) (c := 13) (d := 0) rfl)
  have hg1378 := up_n eg302 hg1377 (ne_o (i := i) (c := 13) (d := 25) rfl)
  have hg1379 := up_n eg308 hg1378 (ne_o (i := i) (c := 13) (d := 0) rfl)
  have hg1380 := up_n eg314 hg1379 (ne_o (i := i) (c := 13) (d := 26) rfl)
  have hg1381 := up_n eg320 hg1380 (ne_o (i := i) (c := 13) (d := 0) rfl)
  have hg1382 := up_n eg326 hg1381 (ne_o (i := i) (c := 13) (d := 27) rfl)
  have hg1383 := up_n eg332 hg1382 (ne_o (i := i) (c := 13) (d := 0) rfl)
  have hg1384 := up_n eg338 hg1383 (ne_o (i := i) (c := 13) (d := 28) rfl)
  have hg1385 := up_n eg344 hg1384 (ne_o (i := i) (c := 13) (d := 0) rfl)
  have hg1386 := up_n eg350 hg1385 (ne_o (i := i) (c := 13) (d := 29) rfl)
  have hg1387 := up_n eg356 hg1386 (ne_o (i := i) (c := 13) (d := 0) rfl)
  have hg1388 := up_n eg176 hg172 (ne_o (i := i) (c := 14) (d := 0) rfl)
  have hg1389 := up_n eg182 hg1388 (ne_o (i := i) (c := 14) (d := 15) rfl)
  have hg1390 := up_n eg188 hg1389 (ne_o (i := i) (c := 14) (d := 0) rfl)
  have hg1391 := up_n eg194 hg1390 (ne_o (i := i) (c := 14) (d := 16) rfl)
  have hg1392 := up_n eg200 hg1391 (ne_o (i := i) (c := 14) (d := 0) rfl)
  have hg1393 := up_n eg206 hg1392 (ne_o (i := i) (c := 14) (d := 17) rfl)
  have hg1394 := up_n eg212 hg1393 (ne_o (i := i) (c := 14) (d := 0) rfl)
  have hg1395 := up_n eg218 hg1394 (ne_o (i := i) (c := 14) (d := 18) rfl)
  have hg1396 := up_n eg224 hg1395 (ne_o (i := i) (c := 14) (d := 0) rfl)
  have hg1397 := up_n eg230 hg1396 (ne_o (i := i) (c := 14) (d := 19) rfl)
  have hg1398 := up_n eg236 hg1397 (ne_o (i := i) (c := 14) (d := 0) rfl)
  have hg1399 := up_n eg242 hg1398 (ne_o (i := i) (c := 14) (d := 20) rfl)
  have hg1400 := up_n eg248 hg1399 (ne_o (i := i) (c := 14) (d := 0) rfl)
  have hg1401 := up_n eg254 hg1400 (ne_o (i := i) (c := 14) (d := 21) rfl)
  have hg1402 := up_n eg260 hg1401 (ne_o (i := i) (c := 14) (d := 0) rfl)
  have hg1403 := up_n eg266 hg1402 (ne_o (i := i) (c := 14) (d := 22) rfl)
  have hg1404 := up_n eg272 hg1403 (ne_o (i := i) (c := 14) (d := 0) rfl)
  have hg1405 := up_n eg278 hg1404 (ne_o (i := i) (c := 14) (d := 23) rfl)
  have hg1406 := up_n eg284 hg1405 (ne_o (i := i) (c := 14) (d := 0) rfl)
  have hg1407 := up_n eg290 hg1406 (ne_o (i := i) (c := 14) (d := 24) rfl)
  have hg1408 := up_n eg296 hg1407 (ne_o (i := i) (c := 14) (d := 0) rfl)
  have hg1409 := up_n eg302 hg1408 (ne_o (i := i) (c := 14) (d := 25) rfl)
  have hg1410 := up_n eg308 hg1409 (ne_o (i := i) (c := 14) (d := 0) rfl)
  have hg1411 := up_n eg314 hg1410 (ne_o (i := i) (c := 14) (d := 26) rfl)
  have hg1412 := up_n eg320 hg1411 (ne_o (i := i) (c := 14) (d := 0) rfl)
  have hg1413 := up_n eg326 hg1412 (ne_o (i := i) (c := 14) (d := 27) rfl)
  have hg1414 := up_n eg332 hg1413 (ne_o (i := i) (c := 14) (d := 0) rfl)
  have hg1415 := up_n eg338 hg1414 (ne_o (i := i) (c := 14) (d := 28) rfl)
  have hg1416 := up_n eg344 hg1415 (ne_o (i := i) (c := 14) (d := 0) rfl)
  have hg1417 := up_n eg350 hg1416 (ne_o (i := i) (c := 14) (d := 29) rfl)
  have hg1418 := up_n eg356 hg1417 (ne_o (i := i) (c := 14) (d := 0) rfl)
  have hg1419 := up_n eg188 hg184 (ne_o (i := i) (c := 15) (d := 0) rfl)
  have hg1420 := up_n eg194 hg1419 (ne_o (i := i) (c := 15) (d := 16) rfl)
  have hg1421 := up_n eg200 hg1420 (ne_o (i := i) (c := 15) (d := 0) rfl)
  have hg1422 := up_n eg206 hg1421 (ne_o (i := i) (c := 15) (d := 17) rfl)
  have hg1423 := up_n eg212 hg1422 (ne_o (i := i) (c := 15) (d := 0) rfl)
  have hg1424 := up_n eg218 hg1423 (ne_o (i := i) (c := 15) (d := 18) rfl)
  have hg1425 := up_n eg224 hg1424 (ne_o (i := i) (c := 15) (d := 0) rfl)
  have hg1426 := up_n eg230 hg1425 (ne_o (i := i) (c := 15) (d := 19) rfl)
  have hg1427 := up_n eg236 hg1426 (ne_o (i := i) (c := 15) (d := 0) rfl)
  have hg1428 := up_n eg242 hg1427 (ne_o (i := i) (c := 15) (d := 20) rfl)
  have hg1429 := up_n eg248 hg1428 (ne_o (i := i) (c := 15) (d := 0) rfl)
  have hg1430 := up_n eg254 hg1429 (ne_o (i := i) (c := 15) (d := 21) rfl)
  have hg1431 := up_n eg260 hg1430 (ne_o (i := i) (c := 15) (d := 0) rfl)
  have hg1432 := up_n eg266 hg1431 (ne_o (i := i) (c := 15) (d := 22) rfl)
  have hg1433 := up_n eg272 hg1432 (ne_o (i := i) (c := 15) (d := 0) rfl)
  have hg1434 := up_n eg278 hg1433 (ne_o (i := i) (c := 15) (d := 23) rfl)
  have hg1435 := up_n eg284 hg1434 (ne_o (i := i) (c := 15) (d := 0) rfl)
  have hg1436 := up_n eg290 hg1435 (ne_o (i := i) (c := 15) (d := 24) rfl)
  have hg1437 := up_n eg296 hg1436 (ne_o (i := i) (c := 15) (d := 0) rfl)
  have hg1438 := up_n eg302 hg1437 (ne_o (i := i) (c := 15) (d := 25) rfl)
  have hg1439 := up_n eg308 hg1438 (ne_o (i := i) (c := 15) (d := 0) rfl)
  have hg1440 := up_n eg314 hg1439 (ne_o (i := i) (c := 15) (d := 26) rfl)
  have hg1441 := up_n eg320 hg1440 (ne_o (i := i) (c := 15) (d := 0) rfl)
  have hg1442 := up_n eg326 hg1441 (ne_o (i := i) (c := 15) (d := 27) rfl)
  have hg1443 := up_n eg332 hg1442 (ne_o (i := i) (c := 15) (d := 0) rfl)
  have hg1444 := up_n eg338 hg1443 (ne_o (i := i) (c := 15) (d := 28) rfl)
  have hg1445 := up_n eg344 hg1444 (ne_o (i := i) (c := 15) (d := 0) rfl)
  have hg1446 := up_n eg350 hg1445 (ne_o (i := i) (c := 15) (d := 29) rfl)
  have hg1447 := up_n eg356 hg1446 (ne_o (i := i) (c := 15) (d := 0) rfl)
  have hg1448 := up_n eg200 hg196 (ne_o (i := i) (c := 16) (d := 0) rfl)
  have hg1449 := up_n eg206 hg1448 (ne_o (i := i) (c := 16) (d := 17) rfl)
  have hg1450 := up_n eg212 hg1449 (ne_o (i := i) (c := 16) (d := 0) rfl)
  have hg1451 := up_n eg218 hg1450 (ne_o (i := i) (c := 16) (d := 18) rfl)
  have hg1452 := up_n eg224 hg1451 (ne_o (i := i) (c := 16) (d := 0) rfl)
  have hg1453 := up_n eg230 hg1452 (ne_o (i := i) (c := 16) (d := 19) rfl)
  have hg1454 := up_n eg236 hg1453 (ne_o (i := i) (c := 16) (d := 0) rfl)
  have hg1455 := up_n eg242 hg1454 (ne_o (i := i) (c := 16) (d := 20) rfl)
  have hg1456 := up_n eg248 hg1455 (ne_o (i := i) (c := 16) (d := 0) rfl)
  have hg1457 := up_n eg254 hg1456 (ne_o (i := i) (c := 16) (d := 21) rfl)
  have hg1458 := up_n eg260 hg1457 (ne_o (i := i) (c := 16) (d := 0) rfl)
  have hg1459 := up_n eg266 hg1458 (ne_o (i := i) (c := 16) (d := 22) rfl)
  have hg1460 := up_n eg272 hg1459 (ne_o (i := i) (c := 16) (d := 0) rfl)
  have hg1461 := up_n eg278 hg1460 (ne_o (i := i) (c := 16) (d := 23) rfl)
  have hg1462 := up_n eg284 hg1461 (ne_o (i := i) (c := 16) (d := 0) rfl)
  have hg1463 := up_n eg290 hg1462 (ne_o (i := i) (c := 16) (d := 24) rfl)
  have hg1464 := up_n eg296 hg1463 (ne_o (i := i) (c := 16) (d := 0) rfl)
  have hg1465 := up_n eg302 hg1464 (ne_o (i := i) (c := 16) (d := 25) rfl)
  have hg1466 := up_n eg308 hg1465 (ne_o (i := i) (c := 16) (d := 0) rfl)
  have hg1467 := up_n eg314 hg1466 (ne_o (i := i) (c := 16) (d := 26) rfl)
  have hg1468 := up_n eg320 hg1467 (ne_o (i := i) (c := 16) (d := 0) rfl)
  have hg1469 := up_n eg326 hg1468 (ne_o (i := i) (c := 16) (d := 27) rfl)
  have hg1470 := up_n eg332 hg1469 (ne_o (i := i) (c := 16) (d := 0) rfl)
  have hg1471 := up_n eg338 hg1470 (ne_o (i := i) (c := 16) (d := 28) rfl)
  have hg1472 := up_n eg344 hg1471 (ne_o (i := i) (c := 16) (d := 0) rfl)
  have hg1473 := up_n eg350 hg1472 (ne_o (i := i) (c := 16) (d := 29) rfl)
  have hg1474 := up_n eg356 hg1473 (ne_o (i := i) (c := 16) (d := 0) rfl)
  have hg1475 := up_n eg212 hg208 (ne_o (i := i) (c := 17) (d := 0) rfl)
  have hg1476 := up_n eg218 hg1475 (ne_o (i := i) (c := 17) (d := 18) rfl)
  have hg1477 := up_n eg224 hg1476 (ne_o (i := i) (c := 17) (d := 0) rfl)
  have hg1478 := up_n eg230 hg1477 (ne_o (i := i) (c := 17) (d := 19) rfl)
  have hg1479 := up_n eg236 hg1478 (ne_o (i := i) (c := 17) (d := 0) rfl)
  have hg1480 := up_n eg242 hg1479 (ne_o (i := i) (c := 17) (d := 20) rfl)
  have hg1481 := up_n eg248 hg1480 (ne_o (i := i) (c := 17) (d := 0) rfl)
  have hg1482 := up_n eg254 hg1481 (ne_o (i := i) (c := 17) (d := 21) rfl)
  have hg1483 := up_n eg260 hg1482 (ne_o (i := i) (c := 17) (d := 0) rfl)
  have hg1484 := up_n eg266 hg1483 (ne_o (i := i) (c := 17) (d := 22) rfl)
  have hg1485 := up_n eg272 hg1484 (ne_o (i := i) (c := 17) (d := 0) rfl)
  have hg1486 := up_n eg278 hg1485 (ne_o (i := i) (c := 17) (d := 23) rfl)
  have hg1487 := up_n eg284 hg1486 (ne_o (i := i) (c := 17) (d := 0) rfl)
  have hg1488 := up_n eg290 hg1487 (ne_o (i := i) (c := 17) (d := 24) rfl)
  have hg1489 := up_n eg296 hg1488 (ne_o (i := i) (c := 17) (d := 0) rfl)
  have hg1490 := up_n eg302 hg1489 (ne_o (i := i) (c := 17) (d := 25) rfl)
  have hg1491 := up_n eg308 hg1490 (ne_o (i := i) (c := 17) (d := 0) rfl)
  have hg1492 := up_n eg314 hg1491 (ne_o (i := i) (c := 17) (d := 26) rfl)
  have hg1493 := up_n eg320 hg1492 (ne_o (i := i) (c := 17) (d := 0) rfl)
  have hg1494 := up_n eg326 hg1493 (ne_o (i := i) (c := 17) (d := 27) rfl)
  have hg1495 := up_n eg332 hg1494 (ne_o (i := i) (c := 17) (d := 0) rfl)
  have hg1496 := up_n eg338 hg1495 (ne_o (i := i) (c := 17) (d := 28) rfl)
  have hg1497 := up_n eg344 hg1496 (ne_o (i := i) (c := 17) (d := 0) rfl)
  have hg1498 := up_n eg350 hg1497 (ne_o (i := i) (c := 17) (d := 29) rfl)
  have hg1499 := up_n eg356 hg1498 (ne_o (i := i) (c := 17) (d := 0) rfl)
  have hg1500 := up_n eg224 hg220 (ne_o (i := i) (c := 18) (d := 0) rfl)
  have hg1501 := up_n eg230 hg1500 (ne_o (i := i) (c := 18) (d := 19) rfl)
  have hg1502 := up_n eg236 hg1501 (ne_o (i := i) (c := 18) (d := 0) rfl)
  have hg1503 := up_n eg242 hg1502 (ne_o (i := i) (c := 18) (d := 20) rfl)
  have hg1504 := up_n eg248 hg1503 (ne_o (i := i) (c := 18) (d := 0) rfl)
  have hg1505 := up_n eg254 hg1504 (ne_o (i := i) (c := 18) (d := 21) rfl)
  have hg1506 := up_n eg260 hg1505 (ne_o (i := i) (c := 18) (d := 0) rfl)
  have hg1507 := up_n eg266 hg1506 (ne_o (i := i) (c := 18) (d := 22) rfl)
  have hg1508 := up_n eg272 hg1507 (ne_o (i := i) (c := 18) (d := 0) rfl)
  have hg1509 := up_n eg278 hg1508 (ne_o (i := i) (c := 18) (d := 23) rfl)
  have hg1510 := up_n eg284 hg1509 (ne_o (i := i) (c := 18) (d := 0) rfl)
  have hg1511 := up_n eg290 hg1510 (ne_o (i := i) (c := 18) (d := 24) rfl)
  have hg1512 := up_n eg296 hg1511 (ne_o (i := i) (c := 18) (d := 0) rfl)
  have hg1513 := up_n eg302 hg1512 (ne_o (i := i) (c := 18) (d := 25) rfl)
  have hg1514 := up_n eg308 hg1513 (ne_o (i := i) (c := 18) (d := 0) rfl)
  have hg1515 := up_n eg314 hg1514 (ne_o (i := i) (c := 18) (d := 26) rfl)
  have hg1516 := up_n eg320 hg1515 (ne_o (i := i) (c := 18) (d := 0) rfl)
  have hg1517 := up_n eg326 hg1516 (ne_o (i := i) (c := 18) (d := 27) rfl)
  have hg1518 := up_n eg332 hg1517 (ne_o (i := i) (c := 18) (d := 0) rfl)
  have hg1519 := up_n eg338 hg1518 (ne_o (i := i) (c := 18) (d := 28) rfl)
  have hg1520 := up_n eg344 hg1519 (ne_o (i := i) (c := 18) (d := 0) rfl)
  have hg1521 := up_n eg350 hg1520 (ne_o (i := i) (c := 18) (d := 29) rfl)
  have hg1522 := up_n eg356 hg1521 (ne_o (i := i) (c := 18) (d := 0) rfl)
  have hg1523 := up_n eg236 hg232 (ne_o (i := i) (c := 19) (d := 0) rfl)
  have hg1524 := up_n eg242 hg1523 (ne_o (i := i) (c := 19) (d := 20) rfl)
  have hg1525 := up_n eg248 hg1524 (ne_o (i := i) (c := 19) (d := 0) rfl)
  have hg1526 := up_n eg254 hg1525 (ne_o (i := i) (c := 19) (d := 21) rfl)
  have hg1527 := up_n eg260 hg1526 (ne_o (i := i) (c := 19) (d := 0) rfl)
  have hg1528 := up_n eg266 hg1527 (ne_o (i := i) (c := 19) (d := 22) rfl)
  have hg1529 := up_n eg272 hg1528 (ne_o (i := i) (c := 19) (d := 0) rfl)
  have hg1530 := up_n eg278 hg1529 (ne_o (i := i) (c := 19) (d := 23) rfl)
  have hg1531 := up_n eg284 hg1530 (ne_o (i := i) (c := 19) (d := 0) rfl)
  have hg1532 := up_n eg290 hg1531 (ne_o (i := i) (c := 19) (d := 24) rfl)
  have hg1533 := up_n eg296 hg1532 (ne_o (i := i) (c := 19) (d := 0) rfl)
  have hg1534 := up_n eg302 hg1533 (ne_o (i := i) (c := 19) (d := 25) rfl)
  have hg1535 := up_n eg308 hg1534 (ne_o (i := i) (c := 19) (d := 0) rfl)
  have hg1536 := up_n eg314 hg1535 (ne_o (i := i) (c := 19) (d := 26) rfl)
  have hg1537 := up_n eg320 hg1536 (ne_o (i := i) (c := 19) (d := 0) rfl)
  have hg1538 := up_n eg326 hg1537 (ne_o (i := i) (c := 19) (d := 27) rfl)
  have hg1539 := up_n eg332 hg1538 (ne_o (i := i) (c := 19) (d := 0) rfl)
  have hg1540 := up_n eg338 hg1539 (ne_o (i := i) (c := 19) (d := 28) rfl)
  have hg1541 := up_n eg344 hg1540 (ne_o (i := i) (c := 19) (d := 0) rfl)
  have hg1542 := up_n eg350 hg1541 (ne_o (i := i) (c := 19) (d := 29) rfl)
  have hg1543 := up_n eg356 hg1542 (ne_o (i := i) (c := 19) (d := 0) rfl)
  have hg1544 := up_n eg248 hg244 (ne_o (i := i) (c := 20) (d := 0) rfl)
  have hg1545 := up_n eg254 hg1544 (ne_o (i := i) (c := 20) (d := 21) rfl)
  have hg1546 := up_n eg260 hg1545 (ne_o (i := i) (c := 20) (d := 0) rfl)
  have hg1547 := up_n eg266 hg1546 (ne_o (i := i) (c := 20) (d := 22) rfl)
  have hg1548 := up_n eg272 hg1547 (ne_o (i := i) (c := 20) (d := 0) rfl)
  have hg1549 := up_n eg278 hg1548 (ne_o (i := i) (c := 20) (d := 23) rfl)
  have hg1550 := up_n eg284 hg1549 (ne_o (i := i) (c := 20) (d := 0) rfl)
  have hg1551 := up_n eg290 hg1550 (ne_o (i := i) (c := 20) (d := 24) rfl)
  have hg1552 := up_n eg296 hg1551 (ne_o (i := i) (c := 20) (d := 0) rfl)
  have hg1553 := up_n eg302 hg1552 (ne_o (i := i) (c := 20) (d := 25) rfl)
  have hg1554 := up_n eg308 hg1553 (ne_o (i := i) (c := 20) (d := 0) rfl)
  have hg1555 := up_n eg314 hg1554 (ne_o (i := i) (c := 20) (d := 26) rfl)
  have hg1556 := up_n eg320 hg1555 (ne_o (i := i) (c := 20) (d := 0) rfl)
  have hg1557 := up_n eg326 hg1556 (ne_o (i := i) (c := 20) (d := 27) rfl)
  have hg1558 := up_n eg332 hg1557 (ne_o (i := i) (c := 20) (d := 0) rfl)
  have hg1559 := up_n eg338 hg1558 (ne_o (i := i) (c := 20) (d := 28) rfl)
  have hg1560 := up_n eg344 hg1559 (ne_o (i := i) (c := 20) (d := 0) rfl)
  have hg1561 := up_n eg350 hg1560 (ne_o (i := i) (c := 20) (d := 29) rfl)
  have hg1562 := up_n eg356 hg1561 (ne_o (i := i) (c := 20) (d := 0) rfl)
  have hg1563 := up_n eg260 hg256 (ne_o (i := i) (c := 21) (d := 0) rfl)
  have hg1564 := up_n eg266 hg1563 (ne_o (i := i) (c := 21) (d := 22) rfl)
  have hg1565 := up_n eg272 hg1564 (ne_o (i := i) (c := 21) (d := 0) rfl)
  have hg1566 := up_n eg278 hg1565 (ne_o (i := i) (c := 21) (d := 23) rfl)
  have hg1567 := up_n eg284 hg1566 (ne_o (i := i) (c := 21) (d := 0) rfl)
  have hg1568 := up_n eg290 hg1567 (ne_o (i := i) (c := 21) (d := 24) rfl)
  have hg1569 := up_n eg296 hg1568 (ne_o (i := i) (c := 21) (d := 0) rfl)
  have hg1570 := up_n eg302 hg1569 (ne_o (i := i) (c := 21) (d := 25) rfl)
  have hg1571 := up_n eg308 hg1570 (ne_o (i := i) (c := 21) (d := 0) rfl)
  have hg1572 := up_n eg314 hg1571 (ne_o (i := i) (c := 21) (d := 26) rfl)
  have hg1573 := up_n eg320 hg1572 (ne_o (i := i) (c := 21) (d := 0) rfl)
  have hg1574 := up_n eg326 hg1573 (ne_o (i := i) (c := 21) (d := 27) rfl)
  have hg1575 := up_n eg332 hg1574 (ne_o (i := i) (c := 21) (d := 0) rfl)
  have hg1576 := up_n eg338 hg1575 (ne_o (i := i) (c := 21) (d := 28) rfl)
  have hg1577 := up_n eg344 hg1576 (ne_o (i := i) (c := 21) (d := 0) rfl)
  have hg1578 := up_n eg350 hg1577 (ne_o (i := i) (c := 21) (d := 29) rfl)
  have hg1579 := up_n eg356 hg1578 (ne_o (i := i) (c := 21) (d := 0) rfl)
  have hg1580 := up_n eg272 hg268 (ne_o (i := i) (c := 22) (d := 0) rfl)
  have hg1581 := up_n eg278 hg1580 (ne_o (i := i) (c := 22) (d := 23) rfl)
  have hg1582 := up_n eg284 hg1581 (ne_o (i := i) (c := 22) (d := 0) rfl)
  have hg1583 := up_n eg290 hg1582 (ne_o (i := i) (c := 22) (d := 24) rfl)
  have hg1584 := up_n eg296 hg1583 (ne_o (i := i) (c := 22) (d := 0) rfl)
  have hg1585 := up_n eg302 hg1584 (ne_o (i := i) (c := 22) (d := 25) rfl)
  have hg1586 := up_n eg308 hg1585 (ne_o (i := i) (c := 22) (d := 0) rfl)
  have hg1587 := up_n eg314 hg1586 (ne_o (i := i) (c := 22) (d := 26) rfl)
  have hg1588 := up_n eg320 hg1587 (ne_o (i := i) (c := 22) (d := 0) rfl)
  have hg1589 := up_n eg326 hg1588 (ne_o (i := i) (c := 22) (d := 27) rfl)
  have hg1590 := up_n eg332 hg1589 (ne_o (i := i) (c := 22) (d := 0) rfl)
  have hg1591 := up_n eg338 hg1590 (ne_o (i := i) (c := 22) (d := 28) rfl)
  have hg1592 := up_n eg344 hg1591 (ne_o (i := i) (c := 22) (d := 0) rfl)
  have hg1593 := up_n eg350 hg1592 (ne_o (i := i) (c := 22) (d := 29) rfl)
  have hg1594 := up_n eg356 hg1593 (ne_o (i := i) (c := 22) (d := 0) rfl)
  have hg1595 := up_n eg284 hg280 (ne_o (i := i) (c := 23) (d := 0) rfl)
  have hg1596 := up_n eg290 hg1595 (ne_o (i := i) (c := 23) (d := 24) rfl)
  have hg1597 := up_n eg296 hg1596 (ne_o (i := i) (c := 23) (d := 0) rfl)
  have hg1598 := up_n eg302 hg1597 (ne_o (i := i) (c := 23) (d := 25) rfl)
  have hg1599 := up_n eg308 hg1598 (ne_o (i := i) (c := 23) (d := 0) rfl)
  have hg1600 := up_n eg314 hg1599 (ne_o (i := i) (c := 23) (d := 26) rfl)
  have hg1601 := up_n eg320 hg1600 (ne_o (i := i) (c := 23) (d := 0) rfl)
  have hg1602 := up_n eg326 hg1601 (ne_o (i := i) (c := 23) (d := 27) rfl)
  have hg1603 := up_n eg332 hg1602 (ne_o (i := i) (c := 23) (d := 0) rfl)
  have hg1604 := up_n eg338 hg1603 (ne_o (i := i) (c := 23) (d := 28) rfl)
  have hg1605 := up_n eg344 hg1604 (ne_o (i := i) (c := 23) (d := 0) rfl)
  have hg1606 := up_n eg350 hg1605 (ne_o (i := i) (c := 23) (d := 29) rfl)
  have hg1607 := up_n eg356 hg1606 (ne_o (i := i) (c := 23) (d := 0) rfl)
  have hg1608 := up_n eg296 hg292 (ne_o (i := i) (c := 24) (d := 0) rfl)
  have hg1609 := up_n eg302 hg1608 (ne_o (i := i) (c := 24) (d := 25) rfl)
  have hg1610 := up_n eg308 hg1609 (ne_o (i := i) (c := 24) (d := 0) rfl)
  have hg1611 := up_n eg314 hg1610 (ne_o (i := i) (c := 24) (d := 26) rfl)
  have hg1612 := up_n eg320 hg1611 (ne_o (i := i) (c := 24) (d := 0) rfl)
  have hg1613 := up_n eg326 hg1612 (ne_o (i := i) (c := 24) (d := 27) rfl)
  have hg1614 := up_n eg332 hg1613 (ne_o (i := i) (c := 24) (d := 0) rfl)
  have hg1615 := up_n eg338 hg1614 (ne_o (i := i) (c := 24) (d := 28) rfl)
  have hg1616 := up_n eg344 hg1615 (ne_o (i := i) (c := 24) (d := 0) rfl)
  have hg1617 := up_n eg350 hg1616 (ne_o (i := i) (c := 24) (d := 29) rfl)
  have hg1618 := up_n eg356 hg1617 (ne_o (i := i) (c := 24) (d := 0) rfl)
  have hg1619 := up_n eg308 hg304 (ne_o (i := i) (c := 25) (d := 0) rfl)
  have hg1620 := up_n eg314 hg1619 (ne_o (i := i) (c := 25) (d := 26) rfl)
  have hg1621 := up_n eg320 hg1620 (ne_o (i := i) (c := 25) (d := 0) rfl)
  have hg1622 := up_n eg326 hg1621 (ne_o (i := i) (c := 25) (d := 27) rfl)
  have hg1623 := up_n eg332 hg1622 (ne_o (i := i) (c := 25) (d := 0) rfl)
  have hg1624 := up_n eg338 hg1623 (ne_o (i := i) (c := 25) (d := 28) rfl)
  have hg1625 := up_n eg344 hg1624 (ne_o (i := i) (c := 25) (d := 0) rfl)
  have hg1626 := up_n eg350 hg1625 (ne_o (i := i) (c := 25) (d := 29) rfl)
  have hg1627 := up_n eg356 hg1626 (ne_o (i := i) (c := 25) (d := 0) rfl)
  have hg1628 := up_n eg320 hg316 (ne_o (i := i) (c := 26) (d := 0) rfl)
  have hg1629 := up_n eg326 hg1628 (ne_o (i := i) (c := 26) (d := 27) rfl)
  have hg1630 := up_n eg332 hg1629 (ne_o (i := i) (c := 26) (d := 0) rfl)
  have hg1631 := up_n eg338 hg1630 (ne_o (i := i) (c := 26) (d := 28) rfl)
  have hg1632 := up_n eg344 hg1631 (ne_o (i := i) (c := 26) (d := 0) rfl)
  have hg1633 := up_n eg350 hg1632 (ne_o (i := i) (c := 26) (d := 29) rfl)
  have hg1634 := up_n eg356 hg1633 (ne_o (i := i) (c := 26) (d := 0) rfl)
  have hg1635 := up_n eg332 hg328 (ne_o (i := i) (c := 27) (d := 0) rfl)
  have hg1636 := up_n eg338 hg1635 (ne_o (i := i) (c := 27) (d := 28) rfl)
  have hg1637 := up_n eg344 hg1636 (ne_o (i := i) (c := 27) (d := 0) rfl)
  have hg1638 := up_n eg350 hg1637 (ne_o (i := i) (c := 27) (d := 29) rfl)
  have hg1639 := up_n eg356 hg1638 (ne_o (i := i) (c := 27) (d := 0) rfl)
  have hg1640 := up_n eg344 hg340 (ne_o (i := i) (c := 28) (d := 0) rfl)
  have hg1641 := up_n eg350 hg1640 (ne_o (i := i) (c := 28) (d := 29) rfl)
  have hg1642 := up_n eg356 hg1641 (ne_o (i := i) (c := 28) (d := 0) rfl)
  have hg1643 := up_n eg356 hg352 (ne_o (i := i) (c := 29) (d := 0) rfl)
  have hB : ∀ k, 1 ≤ k → k ≤ 29 → g355 (i + k) = iA cs (mLen k) (fun _ => 0) := by
    intro k h1 h2
    rcases (show k = 1 ∨ k = 2 ∨ k = 3 ∨ k = 4 ∨ k = 5 ∨ k = 6 ∨ k = 7 ∨ k = 8 ∨ k = 9 ∨ k = 10 ∨ k = 11 ∨ k = 12 ∨ k = 13 ∨ k = 14 ∨ k = 15 ∨ k = 16 ∨ k = 17 ∨ k = 18 ∨ k = 19 ∨ k = 20 ∨ k = 21 ∨ k = 22 ∨ k = 23 ∨ k = 24 ∨ k = 25 ∨ k = 26 ∨ k = 27 ∨ k = 28 ∨ k = 29 by omega) with rfl | rfl | rfl | rfl | rfl | rfl | rfl | rfl | rfl | rfl | rfl | rfl | rfl | rfl | rfl | rfl | rfl | rfl | rfl | rfl | rfl | rfl | rfl | rfl | rfl | rfl | rfl | rfl | rfl
    · exact hg823
    · exact hg881
    · exact hg937
    · exact hg991
    · exact hg1043
    · exact hg1093
    · exact hg1141
    · exact hg1187
    · exact hg1231
    · exact hg1273
    · exact hg1313
    · exact hg1351
    · exact hg1387
    · exact hg1418
    · exact hg1447
    · exact hg1474
    · exact hg1499
    · exact hg1522
    · exact hg1543
    · exact hg1562
    · exact hg1579
    · exact hg1594
    · exact hg1607
    · exact hg1618
    · exact hg1627
    · exact hg1634
    · exact hg1639
    · exact hg1642
    · exact hg1643
  have haa9 : ad347 i = a := ha353
  refine z_cV (As := []) (rest := []) (ci := 12) C ((by rw [← haa9]; exact c_X10_laysTable l D A cs tt _ _ _ i _ _ (by omega) hmod (hB 7 (by decide) (by decide)))) (lt_o (i := i) (c := 0) (d := 30) rfl) ha353 hmod rfl rfl mv_yX10_laysTable q_1455 hd_yX10_laysTable (by decide) (Nat.le_of_ble_eq_true rfl) (by decide) dX10_init_252 rfl (kV0 fun g1644 hq1645 => ?_)
  obtain ⟨hq1, r9, hq2, hq3⟩ := hq1645
  have hmod2 : g1644 i = mC ad347 i (fun k => if k = 24 ∨ k = 26 ∨ k = 27 then -1 else 0) := (hq1 i (by omega)).trans hmod
  exact z_vret C hr hlk dX10_init_255 (by decide) (by decide) (⟨rfl, rfl, fun j h1 => by rw [ea349, va_up_ne _ _ (by omega)]; rw [ea337, va_up_ne _ _ (by omega)]; rw [ea325, va_up_ne _ _ (by omega)]; rw [ea313, va_up_ne _ _ (by omega)]; rw [ea301, va_up_ne _ _ (by omega)]; rw [ea289, va_up_ne _ _ (by omega)]; rw [ea277, va_up_ne _ _ (by omega)]; rw [ea265, va_up_ne _ _ (by omega)]; rw [ea253, va_up_ne _ _ (by omega)]; rw [ea241, va_up_ne _ _ (by omega)]; rw [ea229, va_up_ne _ _ (by omega)]; rw [ea217, va_up_ne _ _ (by omega)]; rw [ea205, va_up_ne _ _ (by omega)]; rw [ea193, va_up_ne _ _ (by omega)]; rw [ea181, va_up_ne _ _ (by omega)]; rw [ea169, va_up_ne _ _ (by omega)]; rw [ea148, va_up_ne _ _ (by omega)]; rw [ea136, va_up_ne _ _ (by omega)]; rw [ea124, va_up_ne _ _ (by omega)]; rw [ea112, va_up_ne _ _ (by omega)]; rw [ea100, va_up_ne _ _ (by omega)]; rw [ea88, va_up_ne _ _ (by omega)]; rw [ea76, va_up_ne _ _ (by omega)]; rw [ea64, va_up_ne _ _ (by omega)]; rw [ea52, va_up_ne _ _ (by omega)]; rw [ea40, va_up_ne _ _ (by omega)]; rw [ea28, va_up_ne _ _ (by omega)]; rw [ea16, va_up_ne _ _ (by omega)]; rw [ea4, va_up_ne _ _ (by omega)], fun j h1 h2 => by rw [hq1 j (by omega)]; rw [eg356, va_up_ne _ _ (by omega)]; rw [eg350, va_up_ne _ _ (by omega)]; rw [eg344, va_up_ne _ _ (by omega)]; rw [eg338, va_up_ne _ _ (by omega)]; rw [eg332, va_up_ne _ _ (by omega)]; rw [eg326, va_up_ne _ _ (by omega)]; rw [eg320, va_up_ne _ _ (by omega)]; rw [eg314, va_up_ne _ _ (by omega)]; rw [eg308, va_up_ne _ _ (by omega)]; rw [eg302, va_up_ne _ _ (by omega)]; rw [eg296, va_up_ne _ _ (by omega)]; rw [eg290, va_up_ne _ _ (by omega)]; rw [eg284, va_up_ne _ _ (by omega)]; rw [eg278, va_up_ne _ _ (by omega)]; rw [eg272, va_up_ne _ _ (by omega)]; rw [eg266, va_up_ne _ _ (by omega)]; rw [eg260, va_up_ne _ _ (by omega)]; rw [eg254, va_up_ne _ _ (by omega)]; rw [eg248, va_up_ne _ _ (by omega)]; rw [eg242, va_up_ne _ _ (by omega)]; rw [eg236, va_up_ne _ _ (by omega)]; rw [eg230, va_up_ne _ _ (by omega)]; rw [eg224, va_up_ne _ _ (by omega)]; rw [eg218, va_up_ne _ _ (by omega)]; rw [eg212, va_up_ne _ _ (by omega)]; rw [eg206, va_up_ne _ _ (by omega)]; rw [eg200, va_up_ne _ _ (by omega)]; rw [eg194, va_up_ne _ _ (by omega)]; rw [eg188, va_up_ne _ _ (by omega)]; rw [eg182, va_up_ne _ _ (by omega)]; rw [eg176, va_up_ne _ _ (by omega)]; rw [eg170, va_up_ne _ _ (by omega)]; rw [eg164, va_up_ne _ _ (by omega)]; rw [eg161, va_up_ne _ _ (by omega)]; rw [eg158, va_up_ne _ _ (by omega)]; rw [eg155, va_up_ne _ _ (by omega)]; rw [eg149, va_up_ne _ _ (by omega)]; rw [eg143, va_up_ne _ _ (by omega)]; rw [eg137, va_up_ne _ _ (by omega)]; rw [eg131, va_up_ne _ _ (by omega)]; rw [eg125, va_up_ne _ _ (by omega)]; rw [eg119, va_up_ne _ _ (by omega)]; rw [eg113, va_up_ne _ _ (by omega)]; rw [eg107, va_up_ne _ _ (by omega)]; rw [eg101, va_up_ne _ _ (by omega)]; rw [eg95, va_up_ne _ _ (by omega)]; rw [eg89, va_up_ne _ _ (by omega)]; rw [eg83, va_up_ne _ _ (by omega)]; rw [eg77, va_up_ne _ _ (by omega)]; rw [eg71, va_up_ne _ _ (by omega)]; rw [eg65, va_up_ne _ _ (by omega)]; rw [eg59, va_up_ne _ _ (by omega)]; rw [eg53, va_up_ne _ _ (by omega)]; rw [eg47, va_up_ne _ _ (by omega)]; rw [eg41, va_up_ne _ _ (by omega)]; rw [eg35, va_up_ne _ _ (by omega)]; rw [eg29, va_up_ne _ _ (by omega)]; rw [eg23, va_up_ne _ _ (by omega)]; rw [eg17, va_up_ne _ _ (by omega)]; rw [eg11, va_up_ne _ _ (by omega)]; rw [eg5, va_up_ne _ _ (by omega)], va_up (fun _ _ => 0) 7 r9, ⟨hmod2, fun k h1 h2 => by by_cases e : k = 7; (subst e; rw [va_up_self]; exact hq2); (rw [hq1 _ (by omega), va_up_ne _ _ e]; exact hB k h1 h2)⟩, fun k hk => by rw [va_up_self]; exact hq3 k hk, fun k e j => by rw [va_up_ne _ _ e]⟩)
end
section
-- 14x.nse.lean.txt
def zx_chAt (X : String) (ix : Nat) (rx : ByteArray) : List String → List Cond
  | [] => Bundle.passSAtoms X Bundle.tN ix rx
  | Y :: r => Bundle.passSAtoms X Y ix rx ++ Bundle.chainSAtoms Y r
theorem zx_chain {args : Array Value} {s : State} {pl : Platform} (hpl : pl.magicAccessors = ({} : Platform).magicAccessors) {top : MethodId} (htop : s.methodNamed? (Bundle.initS Bundle.tN) = some top)
    {ix : Nat} {rx : ByteArray} (x0 : decode rx 0 = .ok (.aload_n 0, 1)) (x1 : decode rx 1 = .ok (.aload_n 1, 1)) (x2 : decode rx 2 = .ok (.invokespecial ix, 3)) (x5 : decode rx 5 = .ok (.return_, 1))
    (names : List String) (X : String) (hX : Bundle.fit X = true) (hn : ∀ n ∈ names, Bundle.fit n = true) (h : ∀ c ∈ zx_chAt X ix rx names, c.before args s = true) :
      ∃ (P1 : PassC) (Ps : List PassC), Ps.length = names.length ∧ P1.LinksS pl s ∧ (∀ P, P ∈ Ps → P.LinksS pl s) ∧ s.methodNamed? (Bundle.initS X) = some P1.m ∧
        P1.sup = firstOf top (Ps.map (·.toPassT)) ∧ PassesOn top (Ps.map (·.toPassT)) := by
  cases names with
  | nil =>
    obtain ⟨P, L, hm, hs⟩ := PassC.ofS_atoms (args := args) (s := s) hpl (X := X) (Y := Bundle.tN) (Bundle.fit_spec hX).1 (by decide) x0 x1 x2 x5 h
    exact ⟨P, [], rfl, L, (fun _ hP => by cases hP), hm, Option.some.inj (hs.symm.trans htop), trivial⟩
  | cons Y r =>
    obtain ⟨P, L, hm, hs⟩ := PassC.ofS_atoms (args := args) (s := s) hpl (X := X) (Y := Y) (Bundle.fit_spec hX).1 (Bundle.fit_spec (hn Y List.mem_cons_self)).2 x0 x1 x2 x5 (fun c hc => h c (by simp only [zx_chAt, List.mem_append]; exact Or.inl hc))
    obtain ⟨P', Ps, hlen, L', hL, hm', hsup, hpass⟩ := Bundle.chainS (args := args) hpl htop r Y (hn Y List.mem_cons_self) (fun n hn' => hn n (List.mem_cons_of_mem _ hn')) (fun c hc => h c (by simp only [zx_chAt, List.mem_append]; exact Or.inr hc))
    refine ⟨P, P' :: Ps, by simp [hlen], L, ?_, hm, Option.some.inj (hs.symm.trans hm'), hsup, hpass⟩
    intro Q hQ
    rcases List.mem_cons.mp hQ with rfl | hQ
    · exact L'
    · exact hL Q hQ
def zx_own (own : String) (ic : Nat) (X : String) (ix : Nat) (rx : ByteArray) (names : List String) : List Cond :=
  Bundle.throwableAtoms ++ Bundle.throwableSAtoms ++ zx_chAt X ix rx names ++
  [.methodLink own ic (Bundle.initS X), .instantiable X 6, .castable X X, .selects X Bundle.tFill0 Bundle.tFill0, .selects X Bundle.tFill Bundle.tFill,
   .lays X Bundle.tN "cause" "Ljava/lang/Throwable;", .lays X Bundle.tN "stackTrace" Bundle.steD, .lays X Bundle.tN "suppressedExceptions" Bundle.listD, .lays X Bundle.tN "detailMessage" "Ljava/lang/String;",
   .isRef (.static Bundle.tN "UNASSIGNED_STACK" Bundle.steD), .isRef (.static Bundle.tN "SUPPRESSED_SENTINEL" Bundle.listD),
   .fieldLink Bundle.tN 198 Bundle.tN "backtrace" "Ljava/lang/Object;", .lays Bundle.tN Bundle.tN "backtrace" "Ljava/lang/Object;", .lays X Bundle.tN "backtrace" "Ljava/lang/Object;"]
def zx_at (own : String) (ic : Nat) (X : String) (ix : Nat) (rx : ByteArray) (names : List String) : List Cond := (zx_own own ic X ix rx names).filter vx_no
section ZXT
variable {p : Program} {l : Launch} {e : Env} {R : Room} {s : State} {m₀ : MethodId} {args : Array Value} {below : List Frame} {meth : Method} {c : Code} {W : State} {locs : List Loc} {cells slots : Nat}
set_option maxHeartbeats 4000000 in
theorem zx_ctorThrow (X : Stand p l e R s m₀ args below meth c W locs cells slots) (hexec : p.tables.exec = Jvm.exec) (htr : e.platform.stackTraces = false) {own cls : String} {names : List String} {ic : Nat} {ix : Nat} {rx : ByteArray} (x0 : decode rx 0 = .ok (.aload_n 0, 1)) (x1 : decode rx 1 = .ok (.aload_n 1, 1)) (x2 : decode rx 2 = .ok (.invokespecial ix, 3)) (x5 : decode rx 5 = .ok (.return_, 1))
    (hown : s.vm.findClass own = some m₀.cls) (hcls : Bundle.fit cls = true) (hnames : ∀ n ∈ names, Bundle.fit n = true)
    (h : ∀ a ∈ zx_own own ic cls ix rx names, a.before args s = true)
    (hlocs : ∀ x ∈ locs, ∀ cell, s.heap[x.base]? = some cell → cell.vm.isStatics = false)
    {a : Addr} {cX : ClassId} {kX : Class} (hfoundX : s.vm.findClass cls = some cX) (hkX : s.vm.classes[cX]? = some kX) (hcell : W.heap[a]? = some (freshCell cX kX)) (hnew : s.heap.size ≤ a)
    {msg : Value} (hmsg : msg.isRef = true)
    {g : JFrame} (hg : g.method = m₀) (hsize : g.locals.size = c.maxLocals) (hlocked : g.locked = none) (hentered : g.entered = []) {rest : List Value} (hstack : g.stack = msg :: .ref a :: .ref a :: rest)
    (hd6 : decode c.code g.pc = .ok (.invokespecial ic, 3)) (hd9 : decode c.code (g.pc + 3) = .ok (.athrow, 1)) (hout : ∀ x ∈ c.exceptionTable.toList, covers x (g.pc + 3) = false)
    (hRframes : names.length + 3 < R.frames) (hRlocals : 2 * g.monitorRoom + ((Value.ref a :: rest).map fun v => v.category).sum + (13 * (names.length + 1) + 42) ≤ R.locals) (hlocks : meth.locks = false := by first | assumption | exact BodyLoose.notSynchronized (by assumption) | exact Body.notSynchronized (by assumption)) :
    ∃ U : State, Steps p.tables e below (W.setTop g) U ∧ U.status = .running ∧ Ended U below (.threw a) ∧ s.WarmedH U.vm ∧ s.sameButNew ({ U with vm := s.vm } : State) locs cells slots ∧
      ∃ ce, U.heap[a]? = some ce ∧ Bundle.OwnCell args s cls a msg ce := by
  have howns : e.platform.frameOwnsMonitors = true := by rw [X.admits.platform]
  have hfin : e.platform.finalization = false := by rw [X.admits.platform]
  have hpl : e.platform.magicAccessors = ({} : Platform).magicAccessors := by rw [X.admits.platform]
  have a' : ∀ x, x ∈ zx_own own ic cls ix rx names → x.holds args s none s [] = true := fun x hx => h x hx
  obtain ⟨T, Z0, L, -, Y⟩ := ThrowableC.of_atoms (args := args) howns hfin hpl (fun x hx => h x (by simp [zx_own, hx]))
  obtain ⟨Z, M, LZ, LM, hnZ⟩ := Init0T.ofS_atoms (args := args) hpl L Y (fun x hx => h x (by simp [zx_own, hx]))
  obtain ⟨P1, Ps, hlen, L1, hL, hP1m, hlink1, hlink⟩ := zx_chain (args := args) hpl hnZ x0 x1 x2 x5 names cls hcls hnames (fun x hx => h x (by simp [zx_own, hx]))
  have hfound : s.vm.findClass cls = some P1.m.cls := findClass_of_methodNamed hP1m
  cases Option.some.inj (hfoundX.symm.trans hfound)
  obtain ⟨c1, kX', hc1, hk, hord, -, -, hn6⟩ := Cond.instantiable_spec (a' (.instantiable cls 6) (by simp [zx_own]))
  cases Option.some.inj (hc1.symm.trans hfound)
  cases Option.some.inj (hkX.symm.trans hk)
  have hsel0 : selectMethod e.platform s.vm P1.m.cls T.fill0 = .method T.fill0 := by
    obtain ⟨c2, r2, m2, q1, q2, q3, q4, -⟩ := Cond.selects_spec (a' (.selects cls Bundle.tFill0 Bundle.tFill0) (by simp [zx_own]))
    cases Option.some.inj (q1.symm.trans hfound)
    cases Option.some.inj (q2.symm.trans (State.methodFound?_of_named Y.fill0 (by decide)))
    cases Option.some.inj (q3.symm.trans Y.fill0)
    rw [Launch.admits_selectMethod X.admits]; exact q4
  have hselF : selectMethod e.platform s.vm P1.m.cls T.fill = .method T.fill := by
    obtain ⟨c2, r2, m2, q1, q2, q3, q4, -⟩ := Cond.selects_spec (a' (.selects cls Bundle.tFill Bundle.tFill) (by simp [zx_own]))
    cases Option.some.inj (q1.symm.trans hfound)
    cases Option.some.inj (q2.symm.trans (State.methodFound?_of_named Y.fill (by decide)))
    cases Option.some.inj (q3.symm.trans Y.fill)
    rw [Launch.admits_selectMethod X.admits]; exact q4
  obtain ⟨cellS0, hcS0, hiss⟩ := Y.statics
  obtain ⟨u0, hu0⟩ := Cond.staticRefV Y.unassigned L.unassignedStatic L.statics hcS0 hiss (a' (.isRef (.static Bundle.tN "UNASSIGNED_STACK" Bundle.steD)) (by simp [zx_own]))
  obtain ⟨sen, hsen⟩ := Cond.staticRefV Y.sentinel L.sentinelStatic L.statics hcS0 hiss (a' (.isRef (.static Bundle.tN "SUPPRESSED_SENTINEL" Bundle.listD)) (by simp [zx_own]))
  obtain ⟨ci198, i198, fB, hk198, hg198, ha198, hsB, -, hnB, htB, hffB⟩ := Cond.ownField (t := .object "java/lang/Object") Y.found L.cls (by decide +kernel) (a' (.fieldLink Bundle.tN 198 Bundle.tN "backtrace" "Ljava/lang/Object;") (by simp [zx_own])) (a' (.lays Bundle.tN Bundle.tN "backtrace" "Ljava/lang/Object;") (by simp [zx_own])) e.platform hpl
  obtain ⟨cellS, hcS', heS, -, hkeep⟩ := X.same.2.2.2.2.2 T.aS cellS0 hcS0
  have hcellS : W.heap[T.aS]? = some cellS := hcS'
  have hout' : ∀ i, (⟨T.aS, i⟩ : Loc) ∉ locs := fun i hmem => by
    have := hlocs _ hmem cellS0 hcS0
    rw [hiss] at this; cases this
  have hknownS : cellS.vm ≠ .unknown := by
    rw [heS]; intro hu
    rw [show cellS0.vm = .unknown from hu] at hiss
    cases hiss
  have hneS : T.aS ≠ a := Nat.ne_of_lt (Nat.lt_of_lt_of_le (Array.getElem?_eq_some_iff.mp hcS0).1 hnew)
  obtain ⟨iM, hffM⟩ := Y.msg
  obtain ⟨tyC, dC, hdC, hdnC⟩ := Cond.laysAt hfound hk Y.cause (a' (.lays cls Bundle.tN "cause" "Ljava/lang/Throwable;") (by simp [zx_own]))
  obtain ⟨tyS, dS, hdS, hdnS⟩ := Cond.laysAt hfound hk Y.stack (a' (.lays cls Bundle.tN "stackTrace" Bundle.steD) (by simp [zx_own]))
  obtain ⟨tyP, dP, hdP, hdnP⟩ := Cond.laysAt hfound hk Y.supp (a' (.lays cls Bundle.tN "suppressedExceptions" Bundle.listD) (by simp [zx_own]))
  obtain ⟨tyM, dM, hdM, hdnM⟩ := Cond.laysAt hfound hk hffM (a' (.lays cls Bundle.tN "detailMessage" "Ljava/lang/String;") (by simp [zx_own]))
  obtain ⟨tyB, dB, hdB, hdnB⟩ := Cond.laysAt hfound hk hffB (a' (.lays cls Bundle.tN "backtrace" "Ljava/lang/Object;") (by simp [zx_own]))
  have bC := Cond.laysApart hdB hdC hdnB hdnC (by rw [hnB, Y.causeName]; decide)
  have bS := Cond.laysApart hdB hdS hdnB hdnS (by rw [hnB, Y.stackName]; decide)
  have bP := Cond.laysApart hdB hdP hdnB hdnP (by rw [hnB, Y.suppName]; decide)
  have hskip : SkipFacts T e.platform s (fun u => u) u0 ((preparedCellV T.toThrowableT (freshCell P1.m.cls kX) a u0 sen).withEntry W.cur) :=
    ⟨{ ci198 := ci198, i198 := i198, fBack := fB }, ⟨hk198, hg198, ha198, hsB⟩, by
      have := fresh_default (c := P1.m.cls) tyB
      rw [htB] at this
      simpa [preparedCellV, Cell.setSlot, Cell.withEntry, Array.getElem?_setIfInBounds, bC, bS, bP, bC.symm, bS.symm, bP.symm, defaultValue] using this, fun _ _ => rfl⟩
  obtain ⟨tm, methC, cdC, kC, vm₁, hnC, -, -, -, -, -, -, -, hW₁, st1⟩ := Steps.initColdS (tb := p.tables) (e := e) (below := below) (s := s) (U := W) X.here hexec X.warmed hpl hown (t := Bundle.initS cls) rfl rfl (Bundle.fit_spec hcls).2
    (a' (.methodLink own ic (Bundle.initS cls)) (by simp [zx_own])) (h (.instanceMethod (Bundle.initS cls)) (by cases names <;> simp [zx_own, zx_chAt, Bundle.passSAtoms])) (bytes := rx) (maxL := 2) (h (.code (Bundle.initS cls) rx 2 none) (by cases names <;> simp [zx_own, zx_chAt, Bundle.passSAtoms]))
    (f := g) hg (a := a) (msg := msg) (rest := .ref a :: rest) hstack hd6
  cases Option.some.inj (hnC.symm.trans hP1m)
  have X₁ := X.noted hW₁
  obtain ⟨vm₂, X₂, st2⟩ := X₁.ctorMessageOffV hexec (g := { g with stack := .ref a :: rest }) hg hsize T L Z LZ M LM (P1 :: Ps)
    (fun P hP => by rcases List.mem_cons.mp hP with rfl | hP; exact L1; exact hL P hP) ⟨hlink1, hlink⟩ (u0 := u0) (sen := sen) (self := a) hmsg (cell := freshCell P1.m.cls kX) (cellS := cellS)
    hcell (fun _ => by simp) (by simp) rfl rfl hsel0 hselF hcellS hneS hknownS (by rw [hkeep _ (hout' _)]; exact hu0) (by rw [hkeep _ (hout' _)]; exact hsen)
    (Takes.of_laid hk hord tyC (by rw [Y.causeType]; rfl)) (Takes.of_laid hk hord tyS (by rw [Y.stackType]; exact fits_refV_array _ u0)) (Takes.of_laid hk hord tyP (by rw [Y.suppType]; exact fits_refV_object _ sen))
    (Takes.of_laid hk hord tyM (by rw [Y.msgType]; exact fits_refV_object _ ⟨msg, hmsg⟩)) Y.objLocals hskip htr [] hd6
    (by simp only [List.length_cons, hlen]; omega) (by simp only [List.length_cons, hlen]; exact hRlocals)
  obtain ⟨hwalk, hrun, hended, hWU, hsame⟩ := X₂.athrowLeaves hexec (g := { g with stack := .ref a :: rest, pc := g.pc + 3 }) hg hlocked hentered hout (a := a) (rest := rest) rfl hd9
  obtain ⟨c3, c4, hc3, hc4, hasg⟩ := Cond.castable_spec (a' (.castable cls cls) (by simp [zx_own]))
  cases Option.some.inj (hc3.symm.trans hfound)
  cases Option.some.inj (hc4.symm.trans hfound)
  have hlt : a < ((W.setVm vm₁).setVm vm₂).heap.size := (Array.getElem?_eq_some_iff.mp hcell).1
  have hU := heapAt_setCell_self (s := (W.setVm vm₁).setVm vm₂) (plainBareV T.toThrowableT (freshCell P1.m.cls kX) a u0 sen msg) hlt
  have hnM : T.fMsg.name = "detailMessage" := (State.fieldFound?_type hffM (t := .object "java/lang/String") (by decide +kernel)).1
  have nCS := Cond.laysApart hdC hdS hdnC hdnS (by rw [Y.causeName, Y.stackName]; decide)
  have nCP := Cond.laysApart hdC hdP hdnC hdnP (by rw [Y.causeName, Y.suppName]; decide)
  have nCM := Cond.laysApart hdC hdM hdnC hdnM (by rw [Y.causeName, hnM]; decide)
  have nSP := Cond.laysApart hdS hdP hdnS hdnP (by rw [Y.stackName, Y.suppName]; decide)
  have nSM := Cond.laysApart hdS hdM hdnS hdnM (by rw [Y.stackName, hnM]; decide)
  have nPM := Cond.laysApart hdP hdM hdnP hdnM (by rw [Y.suppName, hnM]; decide)
  have lC : T.fCause.slot < kX.instanceTypes.size := (Array.getElem?_eq_some_iff.mp tyC).1
  have lS : T.fStack.slot < kX.instanceTypes.size := (Array.getElem?_eq_some_iff.mp tyS).1
  have lP : T.fSupp.slot < kX.instanceTypes.size := (Array.getElem?_eq_some_iff.mp tyP).1
  have lM : T.fMsg.slot < kX.instanceTypes.size := (Array.getElem?_eq_some_iff.mp tyM).1
  have evU : ∀ o, (Term.static Bundle.tN "UNASSIGNED_STACK" Bundle.steD).eval args s o [] s = some u0.v := by
    intro o
    simp [Term.eval, State.fieldNamed?, Y.unassigned, L.unassignedStatic, L.statics, hcS0, hiss, hu0]
  have evS : ∀ o, (Term.static Bundle.tN "SUPPRESSED_SENTINEL" Bundle.listD).eval args s o [] s = some sen.v := by
    intro o
    simp [Term.eval, State.fieldNamed?, Y.sentinel, L.sentinelStatic, L.statics, hcS0, hiss, hsen]
  refine ⟨_, st1 _ (fun acts => ?_), hrun, hended, hWU, hsame.weaken (fun y hy hlt' => ?_) (Nat.le_refl _) (Nat.le_refl _), _, hU, ?_⟩
  · rw [doInvoke_state]
    exact st2 _ hwalk
  · rcases List.mem_append.mp hy with h1 | h1
    · exact h1
    · exfalso
      have hb : y.base = a := by
        simp only [List.mem_cons, List.not_mem_nil, or_false] at h1
        rcases h1 with rfl | rfl | rfl | rfl | rfl <;> rfl
      rw [hb] at hlt'
      exact Nat.not_lt.mpr hnew hlt'
  · exact { cls := hfound, self := hasg, monitor := rfl, hash := rfl, vm := rfl, size := by simp [plainBareV, preparedCellV, Cell.setSlot, hn6]
            cause := ⟨_, _, _, _, Y.cause, by simp [plainBareV, preparedCellV, Cell.setSlot, nCS.symm, nCP.symm, nCM.symm, lC]⟩
            stack := ⟨_, _, _, _, u0, Y.stack, by simp [plainBareV, preparedCellV, Cell.setSlot, nSM.symm, lS], evU⟩
            supp := ⟨_, _, _, _, sen, Y.supp, by simp [plainBareV, preparedCellV, Cell.setSlot, nSP, nPM.symm, lP], evS⟩
            msg := ⟨_, _, _, _, hffM, by simp [plainBareV, preparedCellV, Cell.setSlot, lM]⟩
            other := fun O f d c k i fd hf hy n1 n2 n3 n4 => by
              obtain ⟨ty, dd, hdd, hddn⟩ := Cond.laysAt hfound hk hf hy
              have m1 := Cond.laysApart hdd hdC hddn hdnC (by rw [Y.causeName]; exact n1)
              have m2 := Cond.laysApart hdd hdS hddn hdnS (by rw [Y.stackName]; exact n2)
              have m3 := Cond.laysApart hdd hdP hddn hdnP (by rw [Y.suppName]; exact n3)
              have m4 := Cond.laysApart hdd hdM hddn hdnM (by rw [hnM]; exact n4)
              have := fresh_default (c := P1.m.cls) ty
              simpa [plainBareV, preparedCellV, Cell.setSlot, Array.getElem?_setIfInBounds, m1, m2, m3, m4, m1.symm, m2.symm, m3.symm, m4.symm] using this }
end ZXT
section ZXE
variable {p : Program} {l : Launch} {e : Env} {R : Room} {s : State} {m : MethodId} {args : Array Value} {below : List Frame} {meth : Method} {c : Code} {H : Heap} {locs : List Loc} {cells slots : Nat} {Q : State → Prop}
variable {mc ms : Nat} {free : Addr → Prop} {A0 A1 : Nat → Prop} {H0 : Heap} {a : Array Value} {ls : Array Slot} {st0 rest : List Value}
variable {Qc : Array Value → State → Outcome → State → Prop} {XC : String → State → State → Prop}
set_option maxHeartbeats 4000000 in
theorem zx_throwS {cc : ByteArray} {pc : Nat} (hexec : p.tables.exec = Jvm.exec) (hb : c.code = cc) (hl : l.stackTraces = false) {own cls text : String} {names : List String} {ik is ic mc ms sa : Nat} {ix : Nat} {rx : ByteArray} {A : Nat → Prop}
    (x0 : decode rx 0 = .ok (.aload_n 0, 1)) (x1 : decode rx 1 = .ok (.aload_n 1, 1)) (x2 : decode rx 2 = .ok (.invokespecial ix, 3)) (x5 : decode rx 5 = .ok (.return_, 1)) (hown : s.vm.findClass own = some m.cls) (hcls : Bundle.fit cls = true) (hnames : ∀ n ∈ names, Bundle.fit n = true)
    (hk : (Cond.classLink own ik cls).before args s = true) (hini : (Cond.initialized cls).before args s = true) (hstr : vk_R own is text sa s) (hat : ∀ w ∈ zx_at own ic cls ix rx names, w.before args s = true)
    (hgood : ∀ w ∈ Cond.classLink own ik cls :: Cond.initialized cls :: zx_at own ic cls ix rx names, vx_ot w = true)
    (hU : vx_Zq Bundle.tN "UNASSIGNED_STACK" Bundle.steD A s s.heap) (hN : vx_Zq Bundle.tN "SUPPRESSED_SENTINEL" Bundle.listD A s s.heap) (hS : va_S A s.heap H locs) (hsize : ls.size = c.maxLocals)
    (d0 : decode cc pc = .ok (.new ik, 3)) (d3 : decode cc (pc + 3) = .ok (.dup, 1)) (d4 : decode cc (pc + 4) = .ok (.ldc is, 2)) (d6 : decode cc (pc + 6) = .ok (.invokespecial ic, 3)) (d9 : decode cc (pc + 9) = .ok (.athrow, 1))
    (hout : ∀ x ∈ c.exceptionTable.toList, covers x (pc + 9) = false)
    (hRframes : names.length + 3 < R.frames) (hRlocals : (rest.map fun v => v.category).sum + (13 * (names.length + 1) + 43) ≤ R.locals) (hRcells : cells + 1 ≤ R.cells) (hRslots : slots + 6 ≤ R.slots) (hlocks : meth.locks = false)
    (hx : ∀ t : State, s.vm.Alike t.vm → H.size ≤ t.heap.size → (∀ q : Nat, q < H.size → t.heap[q]? = H[q]?) → XC cls s t)
    (hf : ∀ z ∈ locs, free z.base) (hc : cells + 1 ≤ mc) (hs : slots + 6 ≤ ms) :
    W p l e R s m args below meth c H locs cells slots (vx_MQ below Qc XC args s mc ms free) (F0 m pc ls rest) := by
  intro T hT X
  have htr : e.platform.stackTraces = false := (show e.platform.stackTraces = l.stackTraces by rw [X.admits.platform]).trans hl
  have Y := vx_rebase X (R' := { frames := R.frames, locals := R.locals, cells := 1, slots := 6 }) (Nat.le_refl _) (Nat.le_refl _) hRcells hRslots
  obtain ⟨s', hA⟩ : ∃ z, z = (T.setVm s.vm).setFrames (.invoking m args :: below) := ⟨_, rfl⟩
  rw [← hA] at Y
  have hvm : s'.vm = s.vm := by rw [hA]; rfl
  have hhp : s'.heap = H := by rw [hA]; exact hT
  have hW0 : s.WarmedH s'.vm := by rw [hvm]; exact State.WarmedH.refl s
  have hat' : ∀ w ∈ zx_at own ic cls ix rx names, w.before args s' = true := fun w hw => vx_ot_at hW0 hvm.symm (hgood w (List.mem_cons_of_mem _ (List.mem_cons_of_mem _ hw))) (hat w hw)
  have hk' : (Cond.classLink own ik cls).before args s' = true := vx_ot_at hW0 hvm.symm (hgood _ List.mem_cons_self) hk
  have hini' : (Cond.initialized cls).before args s' = true := vx_ot_at hW0 hvm.symm (hgood _ (List.mem_cons_of_mem _ List.mem_cons_self)) hini
  have hU' : vx_Zq Bundle.tN "UNASSIGNED_STACK" Bundle.steD A s' s'.heap := by rw [hhp]; exact vx_Zq.moved hW0.alike (hU.kept hS.2.1)
  have hN' : vx_Zq Bundle.tN "SUPPRESSED_SENTINEL" Bundle.listD A s' s'.heap := by rw [hhp]; exact vx_Zq.moved hW0.alike (hN.kept hS.2.1)
  have h : ∀ w ∈ zx_own own ic cls ix rx names, w.before args s' = true := vx_own hat' (vx_isRefq hU'.1) (vx_isRefq hN'.1) hU'.2.word hN'.2.word
  have hown' : s'.vm.findClass own = some m.cls := by rw [hvm]; exact hown
  have hins : (Cond.instantiable cls 6).before args s' = true := h _ (by simp [zx_own])
  obtain ⟨vm₁, cX, kX, hfX, hkX, -, -, X₁, st1⟩ := Y.newCold hexec (own := own) (C := cls) (index := ik) (n := 6) hown' hk' hins hini'
    (g := F0 m pc ls rest) rfl (by rw [hb]; exact d0) (Nat.le_refl _) (Nat.le_refl _)
  generalize hT1 : (T.setVm vm₁).pushCell { cls := cX, slots := kX.instanceTypes.map defaultValue, vm := .none } = T1 at X₁ st1
  have hcat : (Value.ref T.heap.size).category = 1 := rfl
  have hcellA : T1.heap[T.heap.size]? = some (freshCell cX kX) := by rw [← hT1]; exact State.heap_pushCell_size _ _
  have d3' : decode c.code (pc + 3) = .ok (.dup, 1) := by rw [hb]; exact d3
  have d4' : decode c.code (pc + 4) = .ok (.ldc is, 2) := by rw [hb]; exact d4
  have hstr' : vk_R own is text sa s' := vk_R.warm hW0 hstr
  obtain ⟨U, hsteps, hrun, hend, hW, hsame, ce, hce, hO⟩ := zx_ctorThrow X₁ hexec htr (own := own) (cls := cls) (names := names) (ic := ic) x0 x1 x2 x5 hown' hcls hnames h (fun x hx => nomatch hx) hfX hkX hcellA (by rw [hhp, hT]; exact Nat.le_refl _) (msg := .ref sa) rfl
    (g := { method := m, pc := pc + 6, locals := ls, stack := .ref sa :: .ref T.heap.size :: .ref T.heap.size :: rest, locked := none }) rfl hsize rfl rfl (rest := rest) rfl
    (by rw [hb]; exact d6) (by rw [hb]; exact d9) hout hRframes (by simp only [List.map_cons, List.sum_cons, hcat]; omega) hlocks
  obtain ⟨f1, f2⟩ := vx_frame hsame
  rw [hhp] at f1 f2
  have hWs : s.WarmedH U.vm := State.WarmedH.trans hW0 hW
  have hcl : s.vm.findClass cls = some ce.cls := by
    have h9 := hO.cls
    rw [hvm] at h9
    exact h9
  have hall : s.sameButNew ({ U with vm := s.vm } : State) locs mc ms := by
    subst hA
    obtain ⟨e1, e2⟩ := hsame
    rw [State.setFrames_setFrames] at e1
    have h2 : (T.setVm s.vm).sameButNew ({ U with vm := s.vm } : State) [] (0 + 1) (0 + 6) := ⟨e1, e2⟩
    have h3 := X.same.trans h2
    rw [List.append_nil] at h3
    exact h3.mono hc hs
  refine ⟨U, ?_, .threw T.heap.size, hrun, hend, Or.inr ⟨T.heap.size, rfl, cls, ce, locs, hx U hWs.alike f1 (fun q hq => f2 q hq (fun z hz => nomatch hz)), hce, hO.vm, hcl, hWs, hall, hf⟩⟩
  refine st1 _ ?_
  show Steps p.tables e below (T1.setTop { method := m, pc := pc + 3, locals := ls, stack := .ref T.heap.size :: rest, locked := none }) _
  jvm_step X₁.here [X₁.here.top, hexec, d3', Value.category]
  exact X₁.ldcString hexec (own := own) (text := text) (index := is) (a := sa) hown' hstr'.1 hstr'.2
    (g := { method := m, pc := pc + 4, locals := ls, stack := .ref T.heap.size :: .ref T.heap.size :: rest, locked := none }) rfl d4' _ hsteps
end ZXE
section ZXE
variable {p : Program} {l : Launch} {e : Env} {R : Room} {s : State} {m : MethodId} {args : Array Value} {below : List Frame} {meth : Method} {c : Code} {H : Heap} {locs : List Loc} {cells slots : Nat} {Q : State → Prop}
variable {mc ms : Nat} {free : Addr → Prop} {A0 A1 : Nat → Prop} {H0 : Heap} {a : Array Value} {ls : Array Slot} {st0 rest : List Value}
variable {Qc : Array Value → State → Outcome → State → Prop} {XC : String → State → State → Prop}
set_option maxHeartbeats 4000000 in
theorem zx_throwSW {cc : ByteArray} {pc : Nat} (hexec : p.tables.exec = Jvm.exec) (hb : c.code = cc) (hl : l.stackTraces = false) {own cls text : String} {names : List String} {ik is ic mc ms sa : Nat} {ix : Nat} {rx : ByteArray} {A : Nat → Prop}
    (x0 : decode rx 0 = .ok (.aload_n 0, 1)) (x1 : decode rx 1 = .ok (.aload_n 1, 1)) (x2 : decode rx 2 = .ok (.invokespecial ix, 3)) (x5 : decode rx 5 = .ok (.return_, 1)) (hown : s.vm.findClass own = some m.cls) (hcls : Bundle.fit cls = true) (hnames : ∀ n ∈ names, Bundle.fit n = true)
    (hk : (Cond.classLink own ik cls).before args s = true) (hini : (Cond.initialized cls).before args s = true) (hstr : vk_R own is text sa s) (hat : ∀ w ∈ zx_at own ic cls ix rx names, w.before args s = true)
    (hgood : ∀ w ∈ Cond.classLink own ik cls :: Cond.initialized cls :: zx_at own ic cls ix rx names, vx_ot w = true)
    (hU : vx_Zq Bundle.tN "UNASSIGNED_STACK" Bundle.steD A s s.heap) (hN : vx_Zq Bundle.tN "SUPPRESSED_SENTINEL" Bundle.listD A s s.heap) (hS : va_S A s.heap H locs) (hsize : ls.size = c.maxLocals)
    (d0 : decode cc pc = .ok (.new ik, 3)) (d3 : decode cc (pc + 3) = .ok (.dup, 1)) (d4 : decode cc (pc + 4) = .ok (.ldc_w is, 3)) (d7 : decode cc (pc + 7) = .ok (.invokespecial ic, 3)) (d10 : decode cc (pc + 10) = .ok (.athrow, 1))
    (hout : ∀ x ∈ c.exceptionTable.toList, covers x (pc + 10) = false)
    (hRframes : names.length + 3 < R.frames) (hRlocals : (rest.map fun v => v.category).sum + (13 * (names.length + 1) + 43) ≤ R.locals) (hRcells : cells + 1 ≤ R.cells) (hRslots : slots + 6 ≤ R.slots) (hlocks : meth.locks = false)
    (hx : ∀ t : State, s.vm.Alike t.vm → H.size ≤ t.heap.size → (∀ q : Nat, q < H.size → t.heap[q]? = H[q]?) → XC cls s t)
    (hf : ∀ z ∈ locs, free z.base) (hc : cells + 1 ≤ mc) (hs : slots + 6 ≤ ms) :
    W p l e R s m args below meth c H locs cells slots (vx_MQ below Qc XC args s mc ms free) (F0 m pc ls rest) := by
  intro T hT X
  have htr : e.platform.stackTraces = false := (show e.platform.stackTraces = l.stackTraces by rw [X.admits.platform]).trans hl
  have Y := vx_rebase X (R' := { frames := R.frames, locals := R.locals, cells := 1, slots := 6 }) (Nat.le_refl _) (Nat.le_refl _) hRcells hRslots
  obtain ⟨s', hA⟩ : ∃ z, z = (T.setVm s.vm).setFrames (.invoking m args :: below) := ⟨_, rfl⟩
  rw [← hA] at Y
  have hvm : s'.vm = s.vm := by rw [hA]; rfl
  have hhp : s'.heap = H := by rw [hA]; exact hT
  have hW0 : s.WarmedH s'.vm := by rw [hvm]; exact State.WarmedH.refl s
  have hat' : ∀ w ∈ zx_at own ic cls ix rx names, w.before args s' = true := fun w hw => vx_ot_at hW0 hvm.symm (hgood w (List.mem_cons_of_mem _ (List.mem_cons_of_mem _ hw))) (hat w hw)
  have hk' : (Cond.classLink own ik cls).before args s' = true := vx_ot_at hW0 hvm.symm (hgood _ List.mem_cons_self) hk
  have hini' : (Cond.initialized cls).before args s' = true := vx_ot_at hW0 hvm.symm (hgood _ (List.mem_cons_of_mem _ List.mem_cons_self)) hini
  have hU' : vx_Zq Bundle.tN "UNASSIGNED_STACK" Bundle.steD A s' s'.heap := by rw [hhp]; exact vx_Zq.moved hW0.alike (hU.kept hS.2.1)
  have hN' : vx_Zq Bundle.tN "SUPPRESSED_SENTINEL" Bundle.listD A s' s'.heap := by rw [hhp]; exact vx_Zq.moved hW0.alike (hN.kept hS.2.1)
  have h : ∀ w ∈ zx_own own ic cls ix rx names, w.before args s' = true := vx_own hat' (vx_isRefq hU'.1) (vx_isRefq hN'.1) hU'.2.word hN'.2.word
  have hown' : s'.vm.findClass own = some m.cls := by rw [hvm]; exact hown
  have hins : (Cond.instantiable cls 6).before args s' = true := h _ (by simp [zx_own])
  obtain ⟨vm₁, cX, kX, hfX, hkX, -, -, X₁, st1⟩ := Y.newCold hexec (own := own) (C := cls) (index := ik) (n := 6) hown' hk' hins hini'
    (g := F0 m pc ls rest) rfl (by rw [hb]; exact d0) (Nat.le_refl _) (Nat.le_refl _)
  generalize hT1 : (T.setVm vm₁).pushCell { cls := cX, slots := kX.instanceTypes.map defaultValue, vm := .none } = T1 at X₁ st1
  have hcat : (Value.ref T.heap.size).category = 1 := rfl
  have hcellA : T1.heap[T.heap.size]? = some (freshCell cX kX) := by rw [← hT1]; exact State.heap_pushCell_size _ _
  have d3' : decode c.code (pc + 3) = .ok (.dup, 1) := by rw [hb]; exact d3
  have d4' : decode c.code (pc + 4) = .ok (.ldc_w is, 3) := by rw [hb]; exact d4
  have hstr' : vk_R own is text sa s' := vk_R.warm hW0 hstr
  obtain ⟨U, hsteps, hrun, hend, hW, hsame, ce, hce, hO⟩ := zx_ctorThrow X₁ hexec htr (own := own) (cls := cls) (names := names) (ic := ic) x0 x1 x2 x5 hown' hcls hnames h (fun x hx => nomatch hx) hfX hkX hcellA (by rw [hhp, hT]; exact Nat.le_refl _) (msg := .ref sa) rfl
    (g := { method := m, pc := pc + 7, locals := ls, stack := .ref sa :: .ref T.heap.size :: .ref T.heap.size :: rest, locked := none }) rfl hsize rfl rfl (rest := rest) rfl
    (by rw [hb]; exact d7) (by rw [hb]; exact d10) hout hRframes (by simp only [List.map_cons, List.sum_cons, hcat]; omega) hlocks
  obtain ⟨f1, f2⟩ := vx_frame hsame
  rw [hhp] at f1 f2
  have hWs : s.WarmedH U.vm := State.WarmedH.trans hW0 hW
  have hcl : s.vm.findClass cls = some ce.cls := by
    have h9 := hO.cls
    rw [hvm] at h9
    exact h9
  have hall : s.sameButNew ({ U with vm := s.vm } : State) locs mc ms := by
    subst hA
    obtain ⟨e1, e2⟩ := hsame
    rw [State.setFrames_setFrames] at e1
    have h2 : (T.setVm s.vm).sameButNew ({ U with vm := s.vm } : State) [] (0 + 1) (0 + 6) := ⟨e1, e2⟩
    have h3 := X.same.trans h2
    rw [List.append_nil] at h3
    exact h3.mono hc hs
  refine ⟨U, ?_, .threw T.heap.size, hrun, hend, Or.inr ⟨T.heap.size, rfl, cls, ce, locs, hx U hWs.alike f1 (fun q hq => f2 q hq (fun z hz => nomatch hz)), hce, hO.vm, hcl, hWs, hall, hf⟩⟩
  refine st1 _ ?_
  show Steps p.tables e below (T1.setTop { method := m, pc := pc + 3, locals := ls, stack := .ref T.heap.size :: rest, locked := none }) _
  jvm_step X₁.here [X₁.here.top, hexec, d3', Value.category]
  exact X₁.ldcStringW hexec (own := own) (text := text) (index := is) (a := sa) hown' hstr'.1 hstr'.2
    (g := { method := m, pc := pc + 4, locals := ls, stack := .ref T.heap.size :: .ref T.heap.size :: rest, locked := none }) rfl d4' _ hsteps
end ZXE
end
