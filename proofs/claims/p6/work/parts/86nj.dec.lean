-- decode rows of yhour
theorem dX10_hour1_0 : decode cX10_hour1 0 = .ok (.aload_n 0, 1) := by decide +kernel
theorem dX10_hour1_1 : decode cX10_hour1 1 = .ok (.aload_n 0, 1) := by decide +kernel
theorem dX10_hour1_2 : decode cX10_hour1 2 = .ok (.getfield 305, 3) := by decide +kernel
theorem dX10_hour1_5 : decode cX10_hour1 5 = .ok (.bipush 24, 2) := by decide +kernel
theorem dX10_hour1_7 : decode cX10_hour1 7 = .ok (.if_icmp .ge 7, 3) := by decide +kernel
theorem dX10_hour1_14 : decode cX10_hour1 14 = .ok (.iconst 0, 1) := by decide +kernel
theorem dX10_hour1_15 : decode cX10_hour1 15 = .ok (.iconst 2, 1) := by decide +kernel
theorem dX10_hour1_16 : decode cX10_hour1 16 = .ok (.invokevirtual 277, 3) := by decide +kernel
theorem dX10_hour1_19 : decode cX10_hour1 19 = .ok (.ifCond .ne 4, 3) := by decide +kernel
theorem dX10_hour1_22 : decode cX10_hour1 22 = .ok (.return_, 1) := by decide +kernel
theorem dX10_hour1_10 : decode cX10_hour1 10 = .ok (.iconst 1, 1) := by decide +kernel
theorem dX10_hour1_11 : decode cX10_hour1 11 = .ok (.goto 4, 3) := by decide +kernel
theorem dX10_hour1_23 : decode cX10_hour1 23 = .ok (.aload_n 0, 1) := by decide +kernel
theorem dX10_hour1_24 : decode cX10_hour1 24 = .ok (.invokevirtual 285, 3) := by decide +kernel
theorem dX10_hour1_27 : decode cX10_hour1 27 = .ok (.aload_n 0, 1) := by decide +kernel
theorem dX10_hour1_28 : decode cX10_hour1 28 = .ok (.getfield 263, 3) := by decide +kernel
theorem dX10_hour1_31 : decode cX10_hour1 31 = .ok (.iconst 3, 1) := by decide +kernel
theorem dX10_hour1_32 : decode cX10_hour1 32 = .ok (.if_icmp .ne 16, 3) := by decide +kernel
theorem dX10_hour1_35 : decode cX10_hour1 35 = .ok (.aload_n 0, 1) := by decide +kernel
theorem dX10_hour1_36 : decode cX10_hour1 36 = .ok (.getfield 260, 3) := by decide +kernel
theorem dX10_hour1_39 : decode cX10_hour1 39 = .ok (.bipush 45, 2) := by decide +kernel
theorem dX10_hour1_41 : decode cX10_hour1 41 = .ok (.if_icmp .ne 7, 3) := by decide +kernel
theorem dX10_hour1_44 : decode cX10_hour1 44 = .ok (.iconst 1, 1) := by decide +kernel
theorem dX10_hour1_45 : decode cX10_hour1 45 = .ok (.goto 4, 3) := by decide +kernel
theorem dX10_hour1_49 : decode cX10_hour1 49 = .ok (.istore_n 1, 1) := by decide +kernel
theorem dX10_hour1_50 : decode cX10_hour1 50 = .ok (.iload_n 1, 1) := by decide +kernel
theorem dX10_hour1_51 : decode cX10_hour1 51 = .ok (.ifCond .eq 7, 3) := by decide +kernel
theorem dX10_hour1_54 : decode cX10_hour1 54 = .ok (.aload_n 0, 1) := by decide +kernel
theorem dX10_hour1_55 : decode cX10_hour1 55 = .ok (.invokevirtual 285, 3) := by decide +kernel
theorem dX10_hour1_58 : decode cX10_hour1 58 = .ok (.aload_n 0, 1) := by decide +kernel
theorem dX10_hour1_59 : decode cX10_hour1 59 = .ok (.iconst 0, 1) := by decide +kernel
theorem dX10_hour1_60 : decode cX10_hour1 60 = .ok (.iload_n 1, 1) := by decide +kernel
theorem dX10_hour1_61 : decode cX10_hour1 61 = .ok (.ifCond .eq 9, 3) := by decide +kernel
theorem dX10_hour1_64 : decode cX10_hour1 64 = .ok (.sipush 300, 3) := by decide +kernel
theorem dX10_hour1_67 : decode cX10_hour1 67 = .ok (.goto 5, 3) := by decide +kernel
theorem dX10_hour1_72 : decode cX10_hour1 72 = .ok (.invokevirtual 291, 3) := by decide +kernel
theorem dX10_hour1_75 : decode cX10_hour1 75 = .ok (.istore_n 2, 1) := by decide +kernel
theorem dX10_hour1_76 : decode cX10_hour1 76 = .ok (.aload_n 0, 1) := by decide +kernel
theorem dX10_hour1_77 : decode cX10_hour1 77 = .ok (.getfield 274, 3) := by decide +kernel
theorem dX10_hour1_80 : decode cX10_hour1 80 = .ok (.ifCond .eq 4, 3) := by decide +kernel
theorem dX10_hour1_84 : decode cX10_hour1 84 = .ok (.aload_n 0, 1) := by decide +kernel
theorem dX10_hour1_85 : decode cX10_hour1 85 = .ok (.getfield 74, 3) := by decide +kernel
theorem dX10_hour1_88 : decode cX10_hour1 88 = .ok (.aload_n 0, 1) := by decide +kernel
theorem dX10_hour1_89 : decode cX10_hour1 89 = .ok (.getfield 305, 3) := by decide +kernel
theorem dX10_hour1_92 : decode cX10_hour1 92 = .ok (.iload_n 1, 1) := by decide +kernel
theorem dX10_hour1_93 : decode cX10_hour1 93 = .ok (.ifCond .eq 8, 3) := by decide +kernel
theorem dX10_hour1_96 : decode cX10_hour1 96 = .ok (.iload_n 2, 1) := by decide +kernel
theorem dX10_hour1_97 : decode cX10_hour1 97 = .ok (.ineg, 1) := by decide +kernel
theorem dX10_hour1_98 : decode cX10_hour1 98 = .ok (.goto 4, 3) := by decide +kernel
theorem dX10_hour1_102 : decode cX10_hour1 102 = .ok (.iastore, 1) := by decide +kernel
theorem dX10_hour1_103 : decode cX10_hour1 103 = .ok (.aload_n 0, 1) := by decide +kernel
theorem dX10_hour1_104 : decode cX10_hour1 104 = .ok (.getfield 77, 3) := by decide +kernel
theorem dX10_hour1_107 : decode cX10_hour1 107 = .ok (.aload_n 0, 1) := by decide +kernel
theorem dX10_hour1_108 : decode cX10_hour1 108 = .ok (.getfield 305, 3) := by decide +kernel
theorem dX10_hour1_111 : decode cX10_hour1 111 = .ok (.iconst 0, 1) := by decide +kernel
theorem dX10_hour1_112 : decode cX10_hour1 112 = .ok (.iastore, 1) := by decide +kernel
theorem dX10_hour1_113 : decode cX10_hour1 113 = .ok (.aload_n 0, 1) := by decide +kernel
theorem dX10_hour1_114 : decode cX10_hour1 114 = .ok (.getfield 80, 3) := by decide +kernel
theorem dX10_hour1_117 : decode cX10_hour1 117 = .ok (.aload_n 0, 1) := by decide +kernel
theorem dX10_hour1_118 : decode cX10_hour1 118 = .ok (.getfield 305, 3) := by decide +kernel
theorem dX10_hour1_121 : decode cX10_hour1 121 = .ok (.iconst 0, 1) := by decide +kernel
theorem dX10_hour1_122 : decode cX10_hour1 122 = .ok (.iastore, 1) := by decide +kernel
theorem dX10_hour1_123 : decode cX10_hour1 123 = .ok (.aload_n 0, 1) := by decide +kernel
theorem dX10_hour1_124 : decode cX10_hour1 124 = .ok (.iconst 3, 1) := by decide +kernel
theorem dX10_hour1_125 : decode cX10_hour1 125 = .ok (.invokevirtual 308, 3) := by decide +kernel
theorem dX10_hour1_128 : decode cX10_hour1 128 = .ok (.ifCond .ne 19, 3) := by decide +kernel
theorem dX10_hour1_147 : decode cX10_hour1 147 = .ok (.aload_n 0, 1) := by decide +kernel
theorem dX10_hour1_148 : decode cX10_hour1 148 = .ok (.getfield 77, 3) := by decide +kernel
theorem dX10_hour1_151 : decode cX10_hour1 151 = .ok (.aload_n 0, 1) := by decide +kernel
theorem dX10_hour1_152 : decode cX10_hour1 152 = .ok (.getfield 305, 3) := by decide +kernel
theorem dX10_hour1_155 : decode cX10_hour1 155 = .ok (.aload_n 0, 1) := by decide +kernel
theorem dX10_hour1_156 : decode cX10_hour1 156 = .ok (.getfield 257, 3) := by decide +kernel
theorem dX10_hour1_159 : decode cX10_hour1 159 = .ok (.iconst 3, 1) := by decide +kernel
theorem dX10_hour1_160 : decode cX10_hour1 160 = .ok (.isub, 1) := by decide +kernel
theorem dX10_hour1_161 : decode cX10_hour1 161 = .ok (.iconst 1, 1) := by decide +kernel
theorem dX10_hour1_162 : decode cX10_hour1 162 = .ok (.iadd, 1) := by decide +kernel
theorem dX10_hour1_163 : decode cX10_hour1 163 = .ok (.iastore, 1) := by decide +kernel
theorem dX10_hour1_164 : decode cX10_hour1 164 = .ok (.aload_n 0, 1) := by decide +kernel
theorem dX10_hour1_165 : decode cX10_hour1 165 = .ok (.invokevirtual 285, 3) := by decide +kernel
theorem dX10_hour1_168 : decode cX10_hour1 168 = .ok (.aload_n 0, 1) := by decide +kernel
theorem dX10_hour1_169 : decode cX10_hour1 169 = .ok (.getfield 77, 3) := by decide +kernel
theorem dX10_hour1_172 : decode cX10_hour1 172 = .ok (.aload_n 0, 1) := by decide +kernel
theorem dX10_hour1_173 : decode cX10_hour1 173 = .ok (.getfield 305, 3) := by decide +kernel
theorem dX10_hour1_176 : decode cX10_hour1 176 = .ok (.iaload, 1) := by decide +kernel
theorem dX10_hour1_177 : decode cX10_hour1 177 = .ok (.iconst 3, 1) := by decide +kernel
theorem dX10_hour1_178 : decode cX10_hour1 178 = .ok (.if_icmp .ge 19, 3) := by decide +kernel
theorem dX10_hour1_181 : decode cX10_hour1 181 = .ok (.aload_n 0, 1) := by decide +kernel
theorem dX10_hour1_182 : decode cX10_hour1 182 = .ok (.getfield 80, 3) := by decide +kernel
theorem dX10_hour1_185 : decode cX10_hour1 185 = .ok (.aload_n 0, 1) := by decide +kernel
theorem dX10_hour1_186 : decode cX10_hour1 186 = .ok (.getfield 305, 3) := by decide +kernel
theorem dX10_hour1_189 : decode cX10_hour1 189 = .ok (.aload_n 0, 1) := by decide +kernel
theorem dX10_hour1_190 : decode cX10_hour1 190 = .ok (.iconst 1, 1) := by decide +kernel
theorem dX10_hour1_191 : decode cX10_hour1 191 = .ok (.bipush 50, 2) := by decide +kernel
theorem dX10_hour1_193 : decode cX10_hour1 193 = .ok (.invokevirtual 291, 3) := by decide +kernel
theorem dX10_hour1_196 : decode cX10_hour1 196 = .ok (.iastore, 1) := by decide +kernel
theorem dX10_hour1_197 : decode cX10_hour1 197 = .ok (.aload_n 0, 1) := by decide +kernel
theorem dX10_hour1_198 : decode cX10_hour1 198 = .ok (.dup, 1) := by decide +kernel
theorem dX10_hour1_199 : decode cX10_hour1 199 = .ok (.getfield 305, 3) := by decide +kernel
theorem dX10_hour1_202 : decode cX10_hour1 202 = .ok (.iconst 1, 1) := by decide +kernel
theorem dX10_hour1_203 : decode cX10_hour1 203 = .ok (.iadd, 1) := by decide +kernel
theorem dX10_hour1_204 : decode cX10_hour1 204 = .ok (.putfield 305, 3) := by decide +kernel
theorem dX10_hour1_207 : decode cX10_hour1 207 = .ok (.return_, 1) := by decide +kernel
theorem dX10_hour1_131 : decode cX10_hour1 131 = .ok (.aload_n 0, 1) := by decide +kernel
theorem dX10_hour1_132 : decode cX10_hour1 132 = .ok (.iconst 4, 1) := by decide +kernel
theorem dX10_hour1_133 : decode cX10_hour1 133 = .ok (.invokevirtual 308, 3) := by decide +kernel
theorem dX10_hour1_136 : decode cX10_hour1 136 = .ok (.ifCond .ne 11, 3) := by decide +kernel
theorem dX10_hour1_139 : decode cX10_hour1 139 = .ok (.aload_n 0, 1) := by decide +kernel
theorem dX10_hour1_140 : decode cX10_hour1 140 = .ok (.iconst 5, 1) := by decide +kernel
theorem dX10_hour1_141 : decode cX10_hour1 141 = .ok (.invokevirtual 308, 3) := by decide +kernel
theorem dX10_hour1_144 : decode cX10_hour1 144 = .ok (.ifCond .eq 53, 3) := by decide +kernel
theorem dX10_hour1_83 : decode cX10_hour1 83 = .ok (.return_, 1) := by decide +kernel
theorem dX10_hour1_70 : decode cX10_hour1 70 = .ok (.bipush 100, 2) := by decide +kernel
theorem dX10_hour1_101 : decode cX10_hour1 101 = .ok (.iload_n 2, 1) := by decide +kernel
theorem dX10_hour1_48 : decode cX10_hour1 48 = .ok (.iconst 0, 1) := by decide +kernel
