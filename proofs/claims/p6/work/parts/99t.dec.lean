-- decode rows of refsnow
theorem dX10_snow_0 : decode cX10_snow 0 = .ok (.aload_n 0, 1) := by decide +kernel
theorem dX10_snow_1 : decode cX10_snow 1 = .ok (.iconst 0, 1) := by decide +kernel
theorem dX10_snow_2 : decode cX10_snow 2 = .ok (.putfield 110, 3) := by decide +kernel
theorem dX10_snow_5 : decode cX10_snow 5 = .ok (.aload_n 0, 1) := by decide +kernel
theorem dX10_snow_6 : decode cX10_snow 6 = .ok (.iload_n 1, 1) := by decide +kernel
theorem dX10_snow_7 : decode cX10_snow 7 = .ok (.ifCond .lt 15, 3) := by decide +kernel
theorem dX10_snow_22 : decode cX10_snow 22 = .ok (.iconst 0, 1) := by decide +kernel
theorem dX10_snow_23 : decode cX10_snow 23 = .ok (.iconst 1, 1) := by decide +kernel
theorem dX10_snow_24 : decode cX10_snow 24 = .ok (.invokevirtual 324, 3) := by decide +kernel
theorem dX10_snow_27 : decode cX10_snow 27 = .ok (.ifCond .ne 5, 3) := by decide +kernel
theorem dX10_snow_30 : decode cX10_snow 30 = .ok (.iconst 0, 1) := by decide +kernel
theorem dX10_snow_31 : decode cX10_snow 31 = .ok (.ireturn, 1) := by decide +kernel
theorem dX10_snow_10 : decode cX10_snow 10 = .ok (.iload_n 1, 1) := by decide +kernel
theorem dX10_snow_11 : decode cX10_snow 11 = .ok (.aload_n 0, 1) := by decide +kernel
theorem dX10_snow_12 : decode cX10_snow 12 = .ok (.getfield 321, 3) := by decide +kernel
theorem dX10_snow_15 : decode cX10_snow 15 = .ok (.if_icmp .gt 7, 3) := by decide +kernel
theorem dX10_snow_18 : decode cX10_snow 18 = .ok (.iconst 1, 1) := by decide +kernel
theorem dX10_snow_19 : decode cX10_snow 19 = .ok (.goto 4, 3) := by decide +kernel
theorem dX10_snow_32 : decode cX10_snow 32 = .ok (.aload_n 0, 1) := by decide +kernel
theorem dX10_snow_33 : decode cX10_snow 33 = .ok (.iconst 0, 1) := by decide +kernel
theorem dX10_snow_34 : decode cX10_snow 34 = .ok (.putfield 321, 3) := by decide +kernel
theorem dX10_snow_37 : decode cX10_snow 37 = .ok (.aload_n 0, 1) := by decide +kernel
theorem dX10_snow_38 : decode cX10_snow 38 = .ok (.iload_n 1, 1) := by decide +kernel
theorem dX10_snow_39 : decode cX10_snow 39 = .ok (.putfield 241, 3) := by decide +kernel
theorem dX10_snow_42 : decode cX10_snow 42 = .ok (.aload_n 0, 1) := by decide +kernel
theorem dX10_snow_43 : decode cX10_snow 43 = .ok (.iconst 0, 1) := by decide +kernel
theorem dX10_snow_44 : decode cX10_snow 44 = .ok (.putfield 251, 3) := by decide +kernel
theorem dX10_snow_47 : decode cX10_snow 47 = .ok (.aload_n 0, 1) := by decide +kernel
theorem dX10_snow_48 : decode cX10_snow 48 = .ok (.iconst 0, 1) := by decide +kernel
theorem dX10_snow_49 : decode cX10_snow 49 = .ok (.putfield 274, 3) := by decide +kernel
theorem dX10_snow_52 : decode cX10_snow 52 = .ok (.aload_n 0, 1) := by decide +kernel
theorem dX10_snow_53 : decode cX10_snow 53 = .ok (.iconst (-1), 1) := by decide +kernel
theorem dX10_snow_54 : decode cX10_snow 54 = .ok (.putfield 49, 3) := by decide +kernel
theorem dX10_snow_57 : decode cX10_snow 57 = .ok (.aload_n 0, 1) := by decide +kernel
theorem dX10_snow_58 : decode cX10_snow 58 = .ok (.aload_n 0, 1) := by decide +kernel
theorem dX10_snow_59 : decode cX10_snow 59 = .ok (.aload_n 0, 1) := by decide +kernel
theorem dX10_snow_60 : decode cX10_snow 60 = .ok (.iconst 0, 1) := by decide +kernel
theorem dX10_snow_61 : decode cX10_snow 61 = .ok (.dup_x1, 1) := by decide +kernel
theorem dX10_snow_62 : decode cX10_snow 62 = .ok (.putfield 302, 3) := by decide +kernel
theorem dX10_snow_65 : decode cX10_snow 65 = .ok (.dup_x1, 1) := by decide +kernel
theorem dX10_snow_66 : decode cX10_snow 66 = .ok (.putfield 305, 3) := by decide +kernel
theorem dX10_snow_69 : decode cX10_snow 69 = .ok (.putfield 288, 3) := by decide +kernel
theorem dX10_snow_72 : decode cX10_snow 72 = .ok (.iconst 0, 1) := by decide +kernel
theorem dX10_snow_73 : decode cX10_snow 73 = .ok (.istore_n 2, 1) := by decide +kernel
theorem dX10_snow_74 : decode cX10_snow 74 = .ok (.iload_n 2, 1) := by decide +kernel
theorem dX10_snow_75 : decode cX10_snow 75 = .ok (.bipush 15, 2) := by decide +kernel
theorem dX10_snow_77 : decode cX10_snow 77 = .ok (.if_icmp .ge 16, 3) := by decide +kernel
theorem dX10_snow_93 : decode cX10_snow 93 = .ok (.aload_n 0, 1) := by decide +kernel
theorem dX10_snow_94 : decode cX10_snow 94 = .ok (.invokevirtual 285, 3) := by decide +kernel
theorem dX10_snow_97 : decode cX10_snow 97 = .ok (.aload_n 0, 1) := by decide +kernel
theorem dX10_snow_98 : decode cX10_snow 98 = .ok (.getfield 274, 3) := by decide +kernel
theorem dX10_snow_101 : decode cX10_snow 101 = .ok (.ifCond .ne 58, 3) := by decide +kernel
theorem dX10_snow_104 : decode cX10_snow 104 = .ok (.aload_n 0, 1) := by decide +kernel
theorem dX10_snow_105 : decode cX10_snow 105 = .ok (.getfield 263, 3) := by decide +kernel
theorem dX10_snow_108 : decode cX10_snow 108 = .ok (.ifCond .eq 51, 3) := by decide +kernel
theorem dX10_snow_159 : decode cX10_snow 159 = .ok (.aload_n 0, 1) := by decide +kernel
theorem dX10_snow_160 : decode cX10_snow 160 = .ok (.getfield 274, 3) := by decide +kernel
theorem dX10_snow_163 : decode cX10_snow 163 = .ok (.ifCond .eq 18, 3) := by decide +kernel
theorem dX10_snow_181 : decode cX10_snow 181 = .ok (.aload_n 0, 1) := by decide +kernel
theorem dX10_snow_182 : decode cX10_snow 182 = .ok (.invokevirtual 330, 3) := by decide +kernel
theorem dX10_snow_185 : decode cX10_snow 185 = .ok (.iconst 0, 1) := by decide +kernel
theorem dX10_snow_186 : decode cX10_snow 186 = .ok (.ireturn, 1) := by decide +kernel
theorem dX10_snow_111 : decode cX10_snow 111 = .ok (.aload_n 0, 1) := by decide +kernel
theorem dX10_snow_112 : decode cX10_snow 112 = .ok (.invokevirtual 327, 3) := by decide +kernel
theorem dX10_snow_115 : decode cX10_snow 115 = .ok (.aload_n 0, 1) := by decide +kernel
theorem dX10_snow_116 : decode cX10_snow 116 = .ok (.getfield 274, 3) := by decide +kernel
theorem dX10_snow_119 : decode cX10_snow 119 = .ok (.ifCond .ne (-22), 3) := by decide +kernel
theorem dX10_snow_122 : decode cX10_snow 122 = .ok (.aload_n 0, 1) := by decide +kernel
theorem dX10_snow_123 : decode cX10_snow 123 = .ok (.aload_n 0, 1) := by decide +kernel
theorem dX10_snow_124 : decode cX10_snow 124 = .ok (.getfield 263, 3) := by decide +kernel
theorem dX10_snow_127 : decode cX10_snow 127 = .ok (.iconst 3, 1) := by decide +kernel
theorem dX10_snow_128 : decode cX10_snow 128 = .ok (.if_icmp .ne 16, 3) := by decide +kernel
theorem dX10_snow_131 : decode cX10_snow 131 = .ok (.aload_n 0, 1) := by decide +kernel
theorem dX10_snow_132 : decode cX10_snow 132 = .ok (.getfield 260, 3) := by decide +kernel
theorem dX10_snow_135 : decode cX10_snow 135 = .ok (.bipush 59, 2) := by decide +kernel
theorem dX10_snow_137 : decode cX10_snow 137 = .ok (.if_icmp .ne 7, 3) := by decide +kernel
theorem dX10_snow_140 : decode cX10_snow 140 = .ok (.iconst 1, 1) := by decide +kernel
theorem dX10_snow_141 : decode cX10_snow 141 = .ok (.goto 4, 3) := by decide +kernel
theorem dX10_snow_145 : decode cX10_snow 145 = .ok (.iconst 1, 1) := by decide +kernel
theorem dX10_snow_146 : decode cX10_snow 146 = .ok (.invokevirtual 277, 3) := by decide +kernel
theorem dX10_snow_149 : decode cX10_snow 149 = .ok (.ifCond .eq (-52), 3) := by decide +kernel
theorem dX10_snow_152 : decode cX10_snow 152 = .ok (.aload_n 0, 1) := by decide +kernel
theorem dX10_snow_153 : decode cX10_snow 153 = .ok (.invokevirtual 285, 3) := by decide +kernel
theorem dX10_snow_156 : decode cX10_snow 156 = .ok (.goto (-59), 3) := by decide +kernel
theorem dX10_snow_144 : decode cX10_snow 144 = .ok (.iconst 0, 1) := by decide +kernel
theorem dX10_snow_166 : decode cX10_snow 166 = .ok (.aload_n 0, 1) := by decide +kernel
theorem dX10_snow_167 : decode cX10_snow 167 = .ok (.getfield 40, 3) := by decide +kernel
theorem dX10_snow_170 : decode cX10_snow 170 = .ok (.iconst 0, 1) := by decide +kernel
theorem dX10_snow_171 : decode cX10_snow 171 = .ok (.dup2, 1) := by decide +kernel
theorem dX10_snow_172 : decode cX10_snow 172 = .ok (.iaload, 1) := by decide +kernel
theorem dX10_snow_173 : decode cX10_snow 173 = .ok (.iconst 1, 1) := by decide +kernel
theorem dX10_snow_174 : decode cX10_snow 174 = .ok (.iadd, 1) := by decide +kernel
theorem dX10_snow_175 : decode cX10_snow 175 = .ok (.iastore, 1) := by decide +kernel
theorem dX10_snow_176 : decode cX10_snow 176 = .ok (.aload_n 0, 1) := by decide +kernel
theorem dX10_snow_177 : decode cX10_snow 177 = .ok (.getfield 274, 3) := by decide +kernel
theorem dX10_snow_180 : decode cX10_snow 180 = .ok (.ireturn, 1) := by decide +kernel
theorem dX10_snow_80 : decode cX10_snow 80 = .ok (.aload_n 0, 1) := by decide +kernel
theorem dX10_snow_81 : decode cX10_snow 81 = .ok (.getfield 83, 3) := by decide +kernel
theorem dX10_snow_84 : decode cX10_snow 84 = .ok (.iload_n 2, 1) := by decide +kernel
theorem dX10_snow_85 : decode cX10_snow 85 = .ok (.iconst (-1), 1) := by decide +kernel
theorem dX10_snow_86 : decode cX10_snow 86 = .ok (.iastore, 1) := by decide +kernel
theorem dX10_snow_87 : decode cX10_snow 87 = .ok (.iinc 2 1, 3) := by decide +kernel
theorem dX10_snow_90 : decode cX10_snow 90 = .ok (.goto (-16), 3) := by decide +kernel
