-- decode rows of mp
theorem dX10_feed_0 : decode cX10_feed 0 = .ok (.aload_n 0, 1) := by decide +kernel
theorem dX10_feed_1 : decode cX10_feed 1 = .ok (.iconst 0, 1) := by decide +kernel
theorem dX10_feed_2 : decode cX10_feed 2 = .ok (.putfield 110, 3) := by decide +kernel
theorem dX10_feed_5 : decode cX10_feed 5 = .ok (.aload_n 0, 1) := by decide +kernel
theorem dX10_feed_6 : decode cX10_feed 6 = .ok (.getfield 321, 3) := by decide +kernel
theorem dX10_feed_9 : decode cX10_feed 9 = .ok (.bipush 20, 2) := by decide +kernel
theorem dX10_feed_11 : decode cX10_feed 11 = .ok (.iadd, 1) := by decide +kernel
theorem dX10_feed_12 : decode cX10_feed 12 = .ok (.sipush 900, 3) := by decide +kernel
theorem dX10_feed_15 : decode cX10_feed 15 = .ok (.if_icmp .le 5, 3) := by decide +kernel
theorem dX10_feed_20 : decode cX10_feed 20 = .ok (.iconst 0, 1) := by decide +kernel
theorem dX10_feed_21 : decode cX10_feed 21 = .ok (.istore 6, 2) := by decide +kernel
theorem dX10_feed_23 : decode cX10_feed 23 = .ok (.iload 6, 2) := by decide +kernel
theorem dX10_feed_25 : decode cX10_feed 25 = .ok (.bipush 20, 2) := by decide +kernel
theorem dX10_feed_27 : decode cX10_feed 27 = .ok (.if_icmp .ge 86, 3) := by decide +kernel
theorem dX10_feed_113 : decode cX10_feed 113 = .ok (.aload_n 0, 1) := by decide +kernel
theorem dX10_feed_114 : decode cX10_feed 114 = .ok (.dup, 1) := by decide +kernel
theorem dX10_feed_115 : decode cX10_feed 115 = .ok (.getfield 321, 3) := by decide +kernel
theorem dX10_feed_118 : decode cX10_feed 118 = .ok (.bipush 20, 2) := by decide +kernel
theorem dX10_feed_120 : decode cX10_feed 120 = .ok (.iadd, 1) := by decide +kernel
theorem dX10_feed_121 : decode cX10_feed 121 = .ok (.putfield 321, 3) := by decide +kernel
theorem dX10_feed_124 : decode cX10_feed 124 = .ok (.aload_n 0, 1) := by decide +kernel
theorem dX10_feed_125 : decode cX10_feed 125 = .ok (.getfield 321, 3) := by decide +kernel
theorem dX10_feed_128 : decode cX10_feed 128 = .ok (.ireturn, 1) := by decide +kernel
theorem dX10_feed_30 : decode cX10_feed 30 = .ok (.iload 6, 2) := by decide +kernel
theorem dX10_feed_32 : decode cX10_feed 32 = .ok (.iconst 4, 1) := by decide +kernel
theorem dX10_feed_33 : decode cX10_feed 33 = .ok (.if_icmp .ge 7, 3) := by decide +kernel
theorem dX10_feed_40 : decode cX10_feed 40 = .ok (.iload 6, 2) := by decide +kernel
theorem dX10_feed_42 : decode cX10_feed 42 = .ok (.bipush 8, 2) := by decide +kernel
theorem dX10_feed_44 : decode cX10_feed 44 = .ok (.if_icmp .ge 7, 3) := by decide +kernel
theorem dX10_feed_51 : decode cX10_feed 51 = .ok (.iload 6, 2) := by decide +kernel
theorem dX10_feed_53 : decode cX10_feed 53 = .ok (.bipush 12, 2) := by decide +kernel
theorem dX10_feed_55 : decode cX10_feed 55 = .ok (.if_icmp .ge 7, 3) := by decide +kernel
theorem dX10_feed_62 : decode cX10_feed 62 = .ok (.iload 6, 2) := by decide +kernel
theorem dX10_feed_64 : decode cX10_feed 64 = .ok (.bipush 16, 2) := by decide +kernel
theorem dX10_feed_66 : decode cX10_feed 66 = .ok (.if_icmp .ge 8, 3) := by decide +kernel
theorem dX10_feed_74 : decode cX10_feed 74 = .ok (.iload 5, 2) := by decide +kernel
theorem dX10_feed_76 : decode cX10_feed 76 = .ok (.istore 7, 2) := by decide +kernel
theorem dX10_feed_78 : decode cX10_feed 78 = .ok (.aload_n 0, 1) := by decide +kernel
theorem dX10_feed_79 : decode cX10_feed 79 = .ok (.getfield 46, 3) := by decide +kernel
theorem dX10_feed_82 : decode cX10_feed 82 = .ok (.aload_n 0, 1) := by decide +kernel
theorem dX10_feed_83 : decode cX10_feed 83 = .ok (.getfield 321, 3) := by decide +kernel
theorem dX10_feed_86 : decode cX10_feed 86 = .ok (.iload 6, 2) := by decide +kernel
theorem dX10_feed_88 : decode cX10_feed 88 = .ok (.iadd, 1) := by decide +kernel
theorem dX10_feed_89 : decode cX10_feed 89 = .ok (.iload 7, 2) := by decide +kernel
theorem dX10_feed_91 : decode cX10_feed 91 = .ok (.bipush 24, 2) := by decide +kernel
theorem dX10_feed_93 : decode cX10_feed 93 = .ok (.bipush 8, 2) := by decide +kernel
theorem dX10_feed_95 : decode cX10_feed 95 = .ok (.iload 6, 2) := by decide +kernel
theorem dX10_feed_97 : decode cX10_feed 97 = .ok (.iconst 4, 1) := by decide +kernel
theorem dX10_feed_98 : decode cX10_feed 98 = .ok (.irem, 1) := by decide +kernel
theorem dX10_feed_99 : decode cX10_feed 99 = .ok (.imul, 1) := by decide +kernel
theorem dX10_feed_100 : decode cX10_feed 100 = .ok (.isub, 1) := by decide +kernel
theorem dX10_feed_101 : decode cX10_feed 101 = .ok (.ishr, 1) := by decide +kernel
theorem dX10_feed_102 : decode cX10_feed 102 = .ok (.sipush 255, 3) := by decide +kernel
theorem dX10_feed_105 : decode cX10_feed 105 = .ok (.iand, 1) := by decide +kernel
theorem dX10_feed_106 : decode cX10_feed 106 = .ok (.iastore, 1) := by decide +kernel
theorem dX10_feed_107 : decode cX10_feed 107 = .ok (.iinc 6 1, 3) := by decide +kernel
theorem dX10_feed_110 : decode cX10_feed 110 = .ok (.goto (-87), 3) := by decide +kernel
theorem dX10_feed_69 : decode cX10_feed 69 = .ok (.iload 4, 2) := by decide +kernel
theorem dX10_feed_71 : decode cX10_feed 71 = .ok (.goto 5, 3) := by decide +kernel
theorem dX10_feed_58 : decode cX10_feed 58 = .ok (.iload_n 3, 1) := by decide +kernel
theorem dX10_feed_59 : decode cX10_feed 59 = .ok (.goto 17, 3) := by decide +kernel
theorem dX10_feed_47 : decode cX10_feed 47 = .ok (.iload_n 2, 1) := by decide +kernel
theorem dX10_feed_48 : decode cX10_feed 48 = .ok (.goto 28, 3) := by decide +kernel
theorem dX10_feed_36 : decode cX10_feed 36 = .ok (.iload_n 1, 1) := by decide +kernel
theorem dX10_feed_37 : decode cX10_feed 37 = .ok (.goto 39, 3) := by decide +kernel
theorem dX10_allLayers_0 : decode cX10_allLayers 0 = .ok (.iconst 0, 1) := by decide +kernel
theorem dX10_allLayers_1 : decode cX10_allLayers 1 = .ok (.istore_n 1, 1) := by decide +kernel
theorem dX10_allLayers_2 : decode cX10_allLayers 2 = .ok (.iconst 0, 1) := by decide +kernel
theorem dX10_allLayers_3 : decode cX10_allLayers 3 = .ok (.istore_n 2, 1) := by decide +kernel
theorem dX10_allLayers_4 : decode cX10_allLayers 4 = .ok (.iload_n 2, 1) := by decide +kernel
theorem dX10_allLayers_5 : decode cX10_allLayers 5 = .ok (.aload_n 0, 1) := by decide +kernel
theorem dX10_allLayers_6 : decode cX10_allLayers 6 = .ok (.getfield 198, 3) := by decide +kernel
theorem dX10_allLayers_9 : decode cX10_allLayers 9 = .ok (.if_icmp .ge 18, 3) := by decide +kernel
theorem dX10_allLayers_27 : decode cX10_allLayers 27 = .ok (.iload_n 1, 1) := by decide +kernel
theorem dX10_allLayers_28 : decode cX10_allLayers 28 = .ok (.ireturn, 1) := by decide +kernel
theorem dX10_allRunoff_0 : decode cX10_allRunoff 0 = .ok (.iconst 0, 1) := by decide +kernel
theorem dX10_allRunoff_1 : decode cX10_allRunoff 1 = .ok (.istore_n 1, 1) := by decide +kernel
theorem dX10_allRunoff_2 : decode cX10_allRunoff 2 = .ok (.iconst 0, 1) := by decide +kernel
theorem dX10_allRunoff_3 : decode cX10_allRunoff 3 = .ok (.istore_n 2, 1) := by decide +kernel
theorem dX10_allRunoff_4 : decode cX10_allRunoff 4 = .ok (.iload_n 2, 1) := by decide +kernel
theorem dX10_allRunoff_5 : decode cX10_allRunoff 5 = .ok (.aload_n 0, 1) := by decide +kernel
theorem dX10_allRunoff_6 : decode cX10_allRunoff 6 = .ok (.getfield 198, 3) := by decide +kernel
theorem dX10_allRunoff_9 : decode cX10_allRunoff 9 = .ok (.if_icmp .ge 26, 3) := by decide +kernel
theorem dX10_allRunoff_35 : decode cX10_allRunoff 35 = .ok (.iload_n 1, 1) := by decide +kernel
theorem dX10_allRunoff_36 : decode cX10_allRunoff 36 = .ok (.ireturn, 1) := by decide +kernel
theorem dX10_allWeight_0 : decode cX10_allWeight 0 = .ok (.iconst 0, 1) := by decide +kernel
theorem dX10_allWeight_1 : decode cX10_allWeight 1 = .ok (.istore_n 1, 1) := by decide +kernel
theorem dX10_allWeight_2 : decode cX10_allWeight 2 = .ok (.iconst 0, 1) := by decide +kernel
theorem dX10_allWeight_3 : decode cX10_allWeight 3 = .ok (.istore_n 2, 1) := by decide +kernel
theorem dX10_allWeight_4 : decode cX10_allWeight 4 = .ok (.iload_n 2, 1) := by decide +kernel
theorem dX10_allWeight_5 : decode cX10_allWeight 5 = .ok (.aload_n 0, 1) := by decide +kernel
theorem dX10_allWeight_6 : decode cX10_allWeight 6 = .ok (.getfield 198, 3) := by decide +kernel
theorem dX10_allWeight_9 : decode cX10_allWeight 9 = .ok (.if_icmp .ge 27, 3) := by decide +kernel
theorem dX10_allWeight_36 : decode cX10_allWeight 36 = .ok (.iload_n 1, 1) := by decide +kernel
theorem dX10_allWeight_37 : decode cX10_allWeight 37 = .ok (.ireturn, 1) := by decide +kernel
theorem dX10_worst_0 : decode cX10_worst 0 = .ok (.iconst (-1), 1) := by decide +kernel
theorem dX10_worst_1 : decode cX10_worst 1 = .ok (.istore_n 1, 1) := by decide +kernel
theorem dX10_worst_2 : decode cX10_worst 2 = .ok (.iconst 0, 1) := by decide +kernel
theorem dX10_worst_3 : decode cX10_worst 3 = .ok (.istore_n 2, 1) := by decide +kernel
theorem dX10_worst_4 : decode cX10_worst 4 = .ok (.iload_n 2, 1) := by decide +kernel
theorem dX10_worst_5 : decode cX10_worst 5 = .ok (.aload_n 0, 1) := by decide +kernel
theorem dX10_worst_6 : decode cX10_worst 6 = .ok (.getfield 198, 3) := by decide +kernel
theorem dX10_worst_9 : decode cX10_worst 9 = .ok (.if_icmp .ge 31, 3) := by decide +kernel
theorem dX10_worst_40 : decode cX10_worst 40 = .ok (.iload_n 1, 1) := by decide +kernel
theorem dX10_worst_41 : decode cX10_worst 41 = .ok (.ireturn, 1) := by decide +kernel
theorem dX10_count_0 : decode cX10_count 0 = .ok (.aload_n 0, 1) := by decide +kernel
theorem dX10_count_1 : decode cX10_count 1 = .ok (.iconst 0, 1) := by decide +kernel
theorem dX10_count_2 : decode cX10_count 2 = .ok (.putfield 110, 3) := by decide +kernel
theorem dX10_count_5 : decode cX10_count 5 = .ok (.aload_n 0, 1) := by decide +kernel
theorem dX10_count_6 : decode cX10_count 6 = .ok (.iload_n 1, 1) := by decide +kernel
theorem dX10_count_7 : decode cX10_count 7 = .ok (.iconst 0, 1) := by decide +kernel
theorem dX10_count_8 : decode cX10_count 8 = .ok (.bipush 17, 2) := by decide +kernel
theorem dX10_count_10 : decode cX10_count 10 = .ok (.invokestatic 281, 3) := by decide +kernel
theorem dX10_count_13 : decode cX10_count 13 = .ok (.iconst 1, 1) := by decide +kernel
theorem dX10_count_14 : decode cX10_count 14 = .ok (.invokevirtual 324, 3) := by decide +kernel
theorem dX10_count_17 : decode cX10_count 17 = .ok (.ifCond .ne 5, 3) := by decide +kernel
theorem dX10_count_20 : decode cX10_count 20 = .ok (.iconst 0, 1) := by decide +kernel
theorem dX10_count_21 : decode cX10_count 21 = .ok (.ireturn, 1) := by decide +kernel
theorem dX10_count_22 : decode cX10_count 22 = .ok (.iload_n 1, 1) := by decide +kernel
theorem dX10_count_23 : decode cX10_count 23 = .ok (.tableswitch 160 0 14 #[73, 78, 83, 90, 95, 102, 107, 114, 121, 128, 133, 138, 145, 150, 155], 73) := by decide +kernel
theorem dX10_count_183 : decode cX10_count 183 = .ok (.aload_n 0, 1) := by decide +kernel
theorem dX10_count_184 : decode cX10_count 184 = .ok (.getfield 40, 3) := by decide +kernel
theorem dX10_count_187 : decode cX10_count 187 = .ok (.iload_n 1, 1) := by decide +kernel
theorem dX10_count_188 : decode cX10_count 188 = .ok (.bipush 15, 2) := by decide +kernel
theorem dX10_count_190 : decode cX10_count 190 = .ok (.isub, 1) := by decide +kernel
theorem dX10_count_191 : decode cX10_count 191 = .ok (.iaload, 1) := by decide +kernel
theorem dX10_count_192 : decode cX10_count 192 = .ok (.ireturn, 1) := by decide +kernel
theorem dX10_count_96 : decode cX10_count 96 = .ok (.aload_n 0, 1) := by decide +kernel
theorem dX10_count_97 : decode cX10_count 97 = .ok (.getfield 198, 3) := by decide +kernel
theorem dX10_count_100 : decode cX10_count 100 = .ok (.ireturn, 1) := by decide +kernel
theorem dX10_count_101 : decode cX10_count 101 = .ok (.aload_n 0, 1) := by decide +kernel
theorem dX10_count_102 : decode cX10_count 102 = .ok (.getfield 153, 3) := by decide +kernel
theorem dX10_count_105 : decode cX10_count 105 = .ok (.ireturn, 1) := by decide +kernel
theorem dX10_count_106 : decode cX10_count 106 = .ok (.aload_n 0, 1) := by decide +kernel
theorem dX10_count_107 : decode cX10_count 107 = .ok (.getfield 9, 3) := by decide +kernel
theorem dX10_count_110 : decode cX10_count 110 = .ok (.iconst 0, 1) := by decide +kernel
theorem dX10_count_111 : decode cX10_count 111 = .ok (.iaload, 1) := by decide +kernel
theorem dX10_count_112 : decode cX10_count 112 = .ok (.ireturn, 1) := by decide +kernel
theorem dX10_count_113 : decode cX10_count 113 = .ok (.aload_n 0, 1) := by decide +kernel
theorem dX10_count_114 : decode cX10_count 114 = .ok (.invokevirtual 348, 3) := by decide +kernel
theorem dX10_count_117 : decode cX10_count 117 = .ok (.ireturn, 1) := by decide +kernel
theorem dX10_count_118 : decode cX10_count 118 = .ok (.aload_n 0, 1) := by decide +kernel
theorem dX10_count_119 : decode cX10_count 119 = .ok (.getfield 9, 3) := by decide +kernel
theorem dX10_count_122 : decode cX10_count 122 = .ok (.iconst 1, 1) := by decide +kernel
theorem dX10_count_123 : decode cX10_count 123 = .ok (.iaload, 1) := by decide +kernel
theorem dX10_count_124 : decode cX10_count 124 = .ok (.ireturn, 1) := by decide +kernel
theorem dX10_count_125 : decode cX10_count 125 = .ok (.aload_n 0, 1) := by decide +kernel
theorem dX10_count_126 : decode cX10_count 126 = .ok (.invokevirtual 351, 3) := by decide +kernel
theorem dX10_count_129 : decode cX10_count 129 = .ok (.ireturn, 1) := by decide +kernel
theorem dX10_count_130 : decode cX10_count 130 = .ok (.aload_n 0, 1) := by decide +kernel
theorem dX10_count_131 : decode cX10_count 131 = .ok (.getfield 9, 3) := by decide +kernel
theorem dX10_count_134 : decode cX10_count 134 = .ok (.iconst 2, 1) := by decide +kernel
theorem dX10_count_135 : decode cX10_count 135 = .ok (.iaload, 1) := by decide +kernel
theorem dX10_count_136 : decode cX10_count 136 = .ok (.ireturn, 1) := by decide +kernel
theorem dX10_count_137 : decode cX10_count 137 = .ok (.aload_n 0, 1) := by decide +kernel
theorem dX10_count_138 : decode cX10_count 138 = .ok (.getfield 9, 3) := by decide +kernel
theorem dX10_count_141 : decode cX10_count 141 = .ok (.iconst 3, 1) := by decide +kernel
theorem dX10_count_142 : decode cX10_count 142 = .ok (.iaload, 1) := by decide +kernel
theorem dX10_count_143 : decode cX10_count 143 = .ok (.ireturn, 1) := by decide +kernel
theorem dX10_count_144 : decode cX10_count 144 = .ok (.aload_n 0, 1) := by decide +kernel
theorem dX10_count_145 : decode cX10_count 145 = .ok (.getfield 9, 3) := by decide +kernel
theorem dX10_count_148 : decode cX10_count 148 = .ok (.iconst 4, 1) := by decide +kernel
theorem dX10_count_149 : decode cX10_count 149 = .ok (.iaload, 1) := by decide +kernel
theorem dX10_count_150 : decode cX10_count 150 = .ok (.ireturn, 1) := by decide +kernel
theorem dX10_count_151 : decode cX10_count 151 = .ok (.aload_n 0, 1) := by decide +kernel
theorem dX10_count_152 : decode cX10_count 152 = .ok (.invokevirtual 354, 3) := by decide +kernel
theorem dX10_count_155 : decode cX10_count 155 = .ok (.ireturn, 1) := by decide +kernel
theorem dX10_count_156 : decode cX10_count 156 = .ok (.aload_n 0, 1) := by decide +kernel
theorem dX10_count_157 : decode cX10_count 157 = .ok (.invokevirtual 357, 3) := by decide +kernel
theorem dX10_count_160 : decode cX10_count 160 = .ok (.ireturn, 1) := by decide +kernel
theorem dX10_count_161 : decode cX10_count 161 = .ok (.aload_n 0, 1) := by decide +kernel
theorem dX10_count_162 : decode cX10_count 162 = .ok (.getfield 9, 3) := by decide +kernel
theorem dX10_count_165 : decode cX10_count 165 = .ok (.iconst 5, 1) := by decide +kernel
theorem dX10_count_166 : decode cX10_count 166 = .ok (.iaload, 1) := by decide +kernel
theorem dX10_count_167 : decode cX10_count 167 = .ok (.ireturn, 1) := by decide +kernel
theorem dX10_count_168 : decode cX10_count 168 = .ok (.aload_n 0, 1) := by decide +kernel
theorem dX10_count_169 : decode cX10_count 169 = .ok (.getfield 342, 3) := by decide +kernel
theorem dX10_count_172 : decode cX10_count 172 = .ok (.ireturn, 1) := by decide +kernel
theorem dX10_count_173 : decode cX10_count 173 = .ok (.aload_n 0, 1) := by decide +kernel
theorem dX10_count_174 : decode cX10_count 174 = .ok (.getfield 336, 3) := by decide +kernel
theorem dX10_count_177 : decode cX10_count 177 = .ok (.ireturn, 1) := by decide +kernel
theorem dX10_count_178 : decode cX10_count 178 = .ok (.aload_n 0, 1) := by decide +kernel
theorem dX10_count_179 : decode cX10_count 179 = .ok (.getfield 321, 3) := by decide +kernel
theorem dX10_count_182 : decode cX10_count 182 = .ok (.ireturn, 1) := by decide +kernel
theorem dX10_byteAt_0 : decode cX10_byteAt 0 = .ok (.iload_n 1, 1) := by decide +kernel
theorem dX10_byteAt_1 : decode cX10_byteAt 1 = .ok (.aload_n 0, 1) := by decide +kernel
theorem dX10_byteAt_2 : decode cX10_byteAt 2 = .ok (.getfield 241, 3) := by decide +kernel
theorem dX10_byteAt_5 : decode cX10_byteAt 5 = .ok (.if_icmp .ge 12, 3) := by decide +kernel
theorem dX10_byteAt_17 : decode cX10_byteAt 17 = .ok (.iconst 0, 1) := by decide +kernel
theorem dX10_byteAt_18 : decode cX10_byteAt 18 = .ok (.ireturn, 1) := by decide +kernel
theorem dX10_go_0 : decode cX10_go 0 = .ok (.aload_n 0, 1) := by decide +kernel
theorem dX10_go_1 : decode cX10_go 1 = .ok (.getfield 251, 3) := by decide +kernel
theorem dX10_go_4 : decode cX10_go 4 = .ok (.aload_n 0, 1) := by decide +kernel
theorem dX10_go_5 : decode cX10_go 5 = .ok (.getfield 241, 3) := by decide +kernel
theorem dX10_go_8 : decode cX10_go 8 = .ok (.if_icmp .ge 42, 3) := by decide +kernel
theorem dX10_go_50 : decode cX10_go 50 = .ok (.aload_n 0, 1) := by decide +kernel
theorem dX10_go_51 : decode cX10_go 51 = .ok (.aload_n 0, 1) := by decide +kernel
theorem dX10_go_52 : decode cX10_go 52 = .ok (.getfield 251, 3) := by decide +kernel
theorem dX10_go_55 : decode cX10_go 55 = .ok (.putfield 254, 3) := by decide +kernel
theorem dX10_go_58 : decode cX10_go 58 = .ok (.aload_n 0, 1) := by decide +kernel
theorem dX10_go_59 : decode cX10_go 59 = .ok (.aload_n 0, 1) := by decide +kernel
theorem dX10_go_60 : decode cX10_go 60 = .ok (.getfield 251, 3) := by decide +kernel
theorem dX10_go_63 : decode cX10_go 63 = .ok (.invokevirtual 248, 3) := by decide +kernel
theorem dX10_go_66 : decode cX10_go 66 = .ok (.istore_n 1, 1) := by decide +kernel
theorem dX10_go_67 : decode cX10_go 67 = .ok (.aload_n 0, 1) := by decide +kernel
theorem dX10_go_68 : decode cX10_go 68 = .ok (.iconst (-1), 1) := by decide +kernel
theorem dX10_go_69 : decode cX10_go 69 = .ok (.putfield 257, 3) := by decide +kernel
theorem dX10_go_72 : decode cX10_go 72 = .ok (.aload_n 0, 1) := by decide +kernel
theorem dX10_go_73 : decode cX10_go 73 = .ok (.iconst 0, 1) := by decide +kernel
theorem dX10_go_74 : decode cX10_go 74 = .ok (.putfield 260, 3) := by decide +kernel
theorem dX10_go_77 : decode cX10_go 77 = .ok (.aload_n 0, 1) := by decide +kernel
theorem dX10_go_78 : decode cX10_go 78 = .ok (.getfield 251, 3) := by decide +kernel
theorem dX10_go_81 : decode cX10_go 81 = .ok (.aload_n 0, 1) := by decide +kernel
theorem dX10_go_82 : decode cX10_go 82 = .ok (.getfield 241, 3) := by decide +kernel
theorem dX10_go_85 : decode cX10_go 85 = .ok (.if_icmp .lt 11, 3) := by decide +kernel
theorem dX10_go_88 : decode cX10_go 88 = .ok (.aload_n 0, 1) := by decide +kernel
theorem dX10_go_89 : decode cX10_go 89 = .ok (.iconst 0, 1) := by decide +kernel
theorem dX10_go_90 : decode cX10_go 90 = .ok (.putfield 263, 3) := by decide +kernel
theorem dX10_go_93 : decode cX10_go 93 = .ok (.goto 198, 3) := by decide +kernel
theorem dX10_go_291 : decode cX10_go 291 = .ok (.return_, 1) := by decide +kernel
theorem dX10_becomes_0 : decode cX10_becomes 0 = .ok (.aload_n 0, 1) := by decide +kernel
theorem dX10_becomes_1 : decode cX10_becomes 1 = .ok (.aload_n 0, 1) := by decide +kernel
theorem dX10_becomes_2 : decode cX10_becomes 2 = .ok (.getfield 288, 3) := by decide +kernel
theorem dX10_becomes_5 : decode cX10_becomes 5 = .ok (.putfield 198, 3) := by decide +kernel
theorem dX10_becomes_8 : decode cX10_becomes 8 = .ok (.aload_n 0, 1) := by decide +kernel
theorem dX10_becomes_9 : decode cX10_becomes 9 = .ok (.aload_n 0, 1) := by decide +kernel
theorem dX10_becomes_10 : decode cX10_becomes 10 = .ok (.getfield 305, 3) := by decide +kernel
theorem dX10_becomes_13 : decode cX10_becomes 13 = .ok (.putfield 153, 3) := by decide +kernel
theorem dX10_becomes_16 : decode cX10_becomes 16 = .ok (.aload_n 0, 1) := by decide +kernel
theorem dX10_becomes_17 : decode cX10_becomes 17 = .ok (.invokevirtual 107, 3) := by decide +kernel
theorem dX10_becomes_20 : decode cX10_becomes 20 = .ok (.iconst 0, 1) := by decide +kernel
theorem dX10_becomes_21 : decode cX10_becomes 21 = .ok (.istore_n 1, 1) := by decide +kernel
theorem dX10_becomes_110 : decode cX10_becomes 110 = .ok (.iload_n 1, 1) := by decide +kernel
theorem dX10_becomes_111 : decode cX10_becomes 111 = .ok (.sipush 350, 3) := by decide +kernel
theorem dX10_becomes_114 : decode cX10_becomes 114 = .ok (.if_icmp .ge 16, 3) := by decide +kernel
theorem dX10_becomes_130 : decode cX10_becomes 130 = .ok (.aload_n 0, 1) := by decide +kernel
theorem dX10_becomes_131 : decode cX10_becomes 131 = .ok (.getfield 9, 3) := by decide +kernel
theorem dX10_becomes_134 : decode cX10_becomes 134 = .ok (.iconst 1, 1) := by decide +kernel
theorem dX10_becomes_135 : decode cX10_becomes 135 = .ok (.aload_n 0, 1) := by decide +kernel
theorem dX10_becomes_136 : decode cX10_becomes 136 = .ok (.getfield 302, 3) := by decide +kernel
theorem dX10_becomes_139 : decode cX10_becomes 139 = .ok (.iastore, 1) := by decide +kernel
theorem dX10_becomes_140 : decode cX10_becomes 140 = .ok (.iconst 0, 1) := by decide +kernel
theorem dX10_becomes_141 : decode cX10_becomes 141 = .ok (.istore_n 1, 1) := by decide +kernel
theorem dX10_becomes_142 : decode cX10_becomes 142 = .ok (.iload_n 1, 1) := by decide +kernel
theorem dX10_becomes_143 : decode cX10_becomes 143 = .ok (.aload_n 0, 1) := by decide +kernel
theorem dX10_becomes_144 : decode cX10_becomes 144 = .ok (.getfield 198, 3) := by decide +kernel
theorem dX10_becomes_147 : decode cX10_becomes 147 = .ok (.if_icmp .ge 86, 3) := by decide +kernel
theorem dX10_becomes_233 : decode cX10_becomes 233 = .ok (.aload_n 0, 1) := by decide +kernel
theorem dX10_becomes_234 : decode cX10_becomes 234 = .ok (.aload_n 0, 1) := by decide +kernel
theorem dX10_becomes_235 : decode cX10_becomes 235 = .ok (.aload_n 0, 1) := by decide +kernel
theorem dX10_becomes_236 : decode cX10_becomes 236 = .ok (.aload_n 0, 1) := by decide +kernel
theorem dX10_becomes_237 : decode cX10_becomes 237 = .ok (.iconst 0, 1) := by decide +kernel
theorem dX10_becomes_238 : decode cX10_becomes 238 = .ok (.dup_x1, 1) := by decide +kernel
theorem dX10_becomes_239 : decode cX10_becomes 239 = .ok (.putfield 333, 3) := by decide +kernel
theorem dX10_becomes_242 : decode cX10_becomes 242 = .ok (.dup_x1, 1) := by decide +kernel
theorem dX10_becomes_243 : decode cX10_becomes 243 = .ok (.putfield 336, 3) := by decide +kernel
theorem dX10_becomes_246 : decode cX10_becomes 246 = .ok (.dup_x1, 1) := by decide +kernel
theorem dX10_becomes_247 : decode cX10_becomes 247 = .ok (.putfield 339, 3) := by decide +kernel
theorem dX10_becomes_250 : decode cX10_becomes 250 = .ok (.putfield 342, 3) := by decide +kernel
theorem dX10_becomes_253 : decode cX10_becomes 253 = .ok (.return_, 1) := by decide +kernel
theorem dX10_becomes_117 : decode cX10_becomes 117 = .ok (.aload_n 0, 1) := by decide +kernel
theorem dX10_becomes_118 : decode cX10_becomes 118 = .ok (.getfield 9, 3) := by decide +kernel
theorem dX10_becomes_121 : decode cX10_becomes 121 = .ok (.iload_n 1, 1) := by decide +kernel
theorem dX10_becomes_122 : decode cX10_becomes 122 = .ok (.iconst 0, 1) := by decide +kernel
theorem dX10_becomes_123 : decode cX10_becomes 123 = .ok (.iastore, 1) := by decide +kernel
theorem dX10_becomes_124 : decode cX10_becomes 124 = .ok (.iinc 1 1, 3) := by decide +kernel
theorem dX10_becomes_127 : decode cX10_becomes 127 = .ok (.goto (-17), 3) := by decide +kernel
theorem dX10_becomes_22 : decode cX10_becomes 22 = .ok (.iload_n 1, 1) := by decide +kernel
theorem dX10_becomes_23 : decode cX10_becomes 23 = .ok (.bipush 15, 2) := by decide +kernel
theorem dX10_becomes_25 : decode cX10_becomes 25 = .ok (.if_icmp .ge 31, 3) := by decide +kernel
theorem dX10_becomes_56 : decode cX10_becomes 56 = .ok (.iconst 0, 1) := by decide +kernel
theorem dX10_becomes_57 : decode cX10_becomes 57 = .ok (.istore_n 1, 1) := by decide +kernel
theorem dX10_becomes_58 : decode cX10_becomes 58 = .ok (.iload_n 1, 1) := by decide +kernel
theorem dX10_becomes_59 : decode cX10_becomes 59 = .ok (.aload_n 0, 1) := by decide +kernel
theorem dX10_becomes_60 : decode cX10_becomes 60 = .ok (.getfield 153, 3) := by decide +kernel
theorem dX10_becomes_63 : decode cX10_becomes 63 = .ok (.if_icmp .ge 45, 3) := by decide +kernel
theorem dX10_becomes_108 : decode cX10_becomes 108 = .ok (.iconst 0, 1) := by decide +kernel
theorem dX10_becomes_109 : decode cX10_becomes 109 = .ok (.istore_n 1, 1) := by decide +kernel
theorem dX10_becomes_28 : decode cX10_becomes 28 = .ok (.aload_n 0, 1) := by decide +kernel
theorem dX10_becomes_29 : decode cX10_becomes 29 = .ok (.getfield 83, 3) := by decide +kernel
theorem dX10_becomes_32 : decode cX10_becomes 32 = .ok (.iload_n 1, 1) := by decide +kernel
theorem dX10_becomes_33 : decode cX10_becomes 33 = .ok (.iaload, 1) := by decide +kernel
theorem dX10_becomes_34 : decode cX10_becomes 34 = .ok (.iconst (-1), 1) := by decide +kernel
theorem dX10_becomes_35 : decode cX10_becomes 35 = .ok (.if_icmp .eq 15, 3) := by decide +kernel
theorem dX10_becomes_50 : decode cX10_becomes 50 = .ok (.iinc 1 1, 3) := by decide +kernel
theorem dX10_becomes_53 : decode cX10_becomes 53 = .ok (.goto (-31), 3) := by decide +kernel
theorem dX10_snow_0 : decode cX10_snow 0 = .ok (.aload_n 0, 1) := by decide +kernel
theorem dX10_snow_1 : decode cX10_snow 1 = .ok (.iconst 0, 1) := by decide +kernel
theorem dX10_snow_2 : decode cX10_snow 2 = .ok (.putfield 110, 3) := by decide +kernel
theorem dX10_snow_5 : decode cX10_snow 5 = .ok (.aload_n 0, 1) := by decide +kernel
theorem dX10_snow_6 : decode cX10_snow 6 = .ok (.iload_n 1, 1) := by decide +kernel
theorem dX10_snow_7 : decode cX10_snow 7 = .ok (.ifCond .lt 15, 3) := by decide +kernel
theorem dX10_snow_22 : decode cX10_snow 22 = .ok (.iconst 0, 1) := by decide +kernel
theorem dX10_snow_23 : decode cX10_snow 23 = .ok (.iconst 1, 1) := by decide +kernel
theorem dX10_snow_24 : decode cX10_snow 24 = .ok (.invokevirtual 324, 3) := by decide +kernel
theorem dX10_snow_27 : decode cX10_snow 27 = .ok (.ifCond .ne 5, 3) := by decide +kernel
theorem dX10_snow_30 : decode cX10_snow 30 = .ok (.iconst 0, 1) := by decide +kernel
theorem dX10_snow_31 : decode cX10_snow 31 = .ok (.ireturn, 1) := by decide +kernel
theorem dX10_snow_10 : decode cX10_snow 10 = .ok (.iload_n 1, 1) := by decide +kernel
theorem dX10_snow_11 : decode cX10_snow 11 = .ok (.aload_n 0, 1) := by decide +kernel
theorem dX10_snow_12 : decode cX10_snow 12 = .ok (.getfield 321, 3) := by decide +kernel
theorem dX10_snow_15 : decode cX10_snow 15 = .ok (.if_icmp .gt 7, 3) := by decide +kernel
theorem dX10_snow_18 : decode cX10_snow 18 = .ok (.iconst 1, 1) := by decide +kernel
theorem dX10_snow_19 : decode cX10_snow 19 = .ok (.goto 4, 3) := by decide +kernel
theorem dX10_snow_32 : decode cX10_snow 32 = .ok (.aload_n 0, 1) := by decide +kernel
theorem dX10_snow_33 : decode cX10_snow 33 = .ok (.iconst 0, 1) := by decide +kernel
theorem dX10_snow_34 : decode cX10_snow 34 = .ok (.putfield 321, 3) := by decide +kernel
theorem dX10_snow_37 : decode cX10_snow 37 = .ok (.aload_n 0, 1) := by decide +kernel
theorem dX10_snow_38 : decode cX10_snow 38 = .ok (.iload_n 1, 1) := by decide +kernel
theorem dX10_snow_39 : decode cX10_snow 39 = .ok (.putfield 241, 3) := by decide +kernel
theorem dX10_snow_42 : decode cX10_snow 42 = .ok (.aload_n 0, 1) := by decide +kernel
theorem dX10_snow_43 : decode cX10_snow 43 = .ok (.iconst 0, 1) := by decide +kernel
theorem dX10_snow_44 : decode cX10_snow 44 = .ok (.putfield 251, 3) := by decide +kernel
theorem dX10_snow_47 : decode cX10_snow 47 = .ok (.aload_n 0, 1) := by decide +kernel
theorem dX10_snow_48 : decode cX10_snow 48 = .ok (.iconst 0, 1) := by decide +kernel
theorem dX10_snow_49 : decode cX10_snow 49 = .ok (.putfield 274, 3) := by decide +kernel
theorem dX10_snow_52 : decode cX10_snow 52 = .ok (.aload_n 0, 1) := by decide +kernel
theorem dX10_snow_53 : decode cX10_snow 53 = .ok (.iconst (-1), 1) := by decide +kernel
theorem dX10_snow_54 : decode cX10_snow 54 = .ok (.putfield 49, 3) := by decide +kernel
theorem dX10_snow_57 : decode cX10_snow 57 = .ok (.aload_n 0, 1) := by decide +kernel
theorem dX10_snow_58 : decode cX10_snow 58 = .ok (.aload_n 0, 1) := by decide +kernel
theorem dX10_snow_59 : decode cX10_snow 59 = .ok (.aload_n 0, 1) := by decide +kernel
theorem dX10_snow_60 : decode cX10_snow 60 = .ok (.iconst 0, 1) := by decide +kernel
theorem dX10_snow_61 : decode cX10_snow 61 = .ok (.dup_x1, 1) := by decide +kernel
theorem dX10_snow_62 : decode cX10_snow 62 = .ok (.putfield 302, 3) := by decide +kernel
theorem dX10_snow_65 : decode cX10_snow 65 = .ok (.dup_x1, 1) := by decide +kernel
theorem dX10_snow_66 : decode cX10_snow 66 = .ok (.putfield 305, 3) := by decide +kernel
theorem dX10_snow_69 : decode cX10_snow 69 = .ok (.putfield 288, 3) := by decide +kernel
theorem dX10_snow_72 : decode cX10_snow 72 = .ok (.iconst 0, 1) := by decide +kernel
theorem dX10_snow_73 : decode cX10_snow 73 = .ok (.istore_n 2, 1) := by decide +kernel
theorem dX10_snow_74 : decode cX10_snow 74 = .ok (.iload_n 2, 1) := by decide +kernel
theorem dX10_snow_75 : decode cX10_snow 75 = .ok (.bipush 15, 2) := by decide +kernel
theorem dX10_snow_77 : decode cX10_snow 77 = .ok (.if_icmp .ge 16, 3) := by decide +kernel
theorem dX10_snow_93 : decode cX10_snow 93 = .ok (.aload_n 0, 1) := by decide +kernel
theorem dX10_snow_94 : decode cX10_snow 94 = .ok (.invokevirtual 285, 3) := by decide +kernel
theorem dX10_snow_97 : decode cX10_snow 97 = .ok (.aload_n 0, 1) := by decide +kernel
theorem dX10_snow_98 : decode cX10_snow 98 = .ok (.getfield 274, 3) := by decide +kernel
theorem dX10_snow_101 : decode cX10_snow 101 = .ok (.ifCond .ne 58, 3) := by decide +kernel
theorem dX10_snow_104 : decode cX10_snow 104 = .ok (.aload_n 0, 1) := by decide +kernel
theorem dX10_snow_105 : decode cX10_snow 105 = .ok (.getfield 263, 3) := by decide +kernel
theorem dX10_snow_108 : decode cX10_snow 108 = .ok (.ifCond .eq 51, 3) := by decide +kernel
theorem dX10_snow_159 : decode cX10_snow 159 = .ok (.aload_n 0, 1) := by decide +kernel
theorem dX10_snow_160 : decode cX10_snow 160 = .ok (.getfield 274, 3) := by decide +kernel
theorem dX10_snow_163 : decode cX10_snow 163 = .ok (.ifCond .eq 18, 3) := by decide +kernel
theorem dX10_snow_181 : decode cX10_snow 181 = .ok (.aload_n 0, 1) := by decide +kernel
theorem dX10_snow_182 : decode cX10_snow 182 = .ok (.invokevirtual 330, 3) := by decide +kernel
theorem dX10_snow_185 : decode cX10_snow 185 = .ok (.iconst 0, 1) := by decide +kernel
theorem dX10_snow_186 : decode cX10_snow 186 = .ok (.ireturn, 1) := by decide +kernel
theorem dX10_snow_80 : decode cX10_snow 80 = .ok (.aload_n 0, 1) := by decide +kernel
theorem dX10_snow_81 : decode cX10_snow 81 = .ok (.getfield 83, 3) := by decide +kernel
theorem dX10_snow_84 : decode cX10_snow 84 = .ok (.iload_n 2, 1) := by decide +kernel
theorem dX10_snow_85 : decode cX10_snow 85 = .ok (.iconst (-1), 1) := by decide +kernel
theorem dX10_snow_86 : decode cX10_snow 86 = .ok (.iastore, 1) := by decide +kernel
theorem dX10_snow_87 : decode cX10_snow 87 = .ok (.iinc 2 1, 3) := by decide +kernel
theorem dX10_snow_90 : decode cX10_snow 90 = .ok (.goto (-16), 3) := by decide +kernel
theorem dX10_isNoted_0 : decode cX10_isNoted 0 = .ok (.iconst 1, 1) := by decide +kernel
theorem dX10_isNoted_1 : decode cX10_isNoted 1 = .ok (.istore_n 1, 1) := by decide +kernel
theorem dX10_isNoted_2 : decode cX10_isNoted 2 = .ok (.aload_n 0, 1) := by decide +kernel
theorem dX10_isNoted_3 : decode cX10_isNoted 3 = .ok (.invokevirtual 409, 3) := by decide +kernel
theorem dX10_isNoted_6 : decode cX10_isNoted 6 = .ok (.iconst 0, 1) := by decide +kernel
theorem dX10_isNoted_7 : decode cX10_isNoted 7 = .ok (.istore_n 2, 1) := by decide +kernel
theorem dX10_isNoted_8 : decode cX10_isNoted 8 = .ok (.iload_n 2, 1) := by decide +kernel
theorem dX10_isNoted_9 : decode cX10_isNoted 9 = .ok (.bipush 48, 2) := by decide +kernel
theorem dX10_isNoted_11 : decode cX10_isNoted 11 = .ok (.if_icmp .gt 112, 3) := by decide +kernel
theorem dX10_isNoted_123 : decode cX10_isNoted 123 = .ok (.iload_n 1, 1) := by decide +kernel
theorem dX10_isNoted_124 : decode cX10_isNoted 124 = .ok (.ireturn, 1) := by decide +kernel
theorem dX10_isNoted_14 : decode cX10_isNoted 14 = .ok (.iconst 0, 1) := by decide +kernel
theorem dX10_isNoted_15 : decode cX10_isNoted 15 = .ok (.istore_n 3, 1) := by decide +kernel
theorem dX10_isNoted_16 : decode cX10_isNoted 16 = .ok (.iload_n 3, 1) := by decide +kernel
theorem dX10_isNoted_17 : decode cX10_isNoted 17 = .ok (.aload_n 0, 1) := by decide +kernel
theorem dX10_isNoted_18 : decode cX10_isNoted 18 = .ok (.getfield 336, 3) := by decide +kernel
theorem dX10_isNoted_21 : decode cX10_isNoted 21 = .ok (.if_icmp .ge 52, 3) := by decide +kernel
theorem dX10_isNoted_73 : decode cX10_isNoted 73 = .ok (.iload_n 2, 1) := by decide +kernel
theorem dX10_isNoted_74 : decode cX10_isNoted 74 = .ok (.bipush 24, 2) := by decide +kernel
theorem dX10_isNoted_76 : decode cX10_isNoted 76 = .ok (.if_icmp .ne 34, 3) := by decide +kernel
theorem dX10_isNoted_110 : decode cX10_isNoted 110 = .ok (.aload_n 0, 1) := by decide +kernel
theorem dX10_isNoted_111 : decode cX10_isNoted 111 = .ok (.sipush 350, 3) := by decide +kernel
theorem dX10_isNoted_114 : decode cX10_isNoted 114 = .ok (.invokevirtual 219, 3) := by decide +kernel
theorem dX10_isNoted_117 : decode cX10_isNoted 117 = .ok (.iinc 2 1, 3) := by decide +kernel
theorem dX10_isNoted_120 : decode cX10_isNoted 120 = .ok (.goto (-112), 3) := by decide +kernel
theorem dX10_isNoted_79 : decode cX10_isNoted 79 = .ok (.iconst 0, 1) := by decide +kernel
theorem dX10_isNoted_80 : decode cX10_isNoted 80 = .ok (.istore_n 3, 1) := by decide +kernel
theorem dX10_isNoted_81 : decode cX10_isNoted 81 = .ok (.iload_n 3, 1) := by decide +kernel
theorem dX10_isNoted_82 : decode cX10_isNoted 82 = .ok (.aload_n 0, 1) := by decide +kernel
theorem dX10_isNoted_83 : decode cX10_isNoted 83 = .ok (.getfield 198, 3) := by decide +kernel
theorem dX10_isNoted_86 : decode cX10_isNoted 86 = .ok (.if_icmp .ge 24, 3) := by decide +kernel
theorem dX10_falls_0 : decode cX10_falls 0 = .ok (.aload_n 0, 1) := by decide +kernel
theorem dX10_falls_1 : decode cX10_falls 1 = .ok (.iconst 0, 1) := by decide +kernel
theorem dX10_falls_2 : decode cX10_falls 2 = .ok (.putfield 110, 3) := by decide +kernel
theorem dX10_falls_5 : decode cX10_falls 5 = .ok (.aload_n 0, 1) := by decide +kernel
theorem dX10_falls_6 : decode cX10_falls 6 = .ok (.iload_n 1, 1) := by decide +kernel
theorem dX10_falls_7 : decode cX10_falls 7 = .ok (.iconst 0, 1) := by decide +kernel
theorem dX10_falls_8 : decode cX10_falls 8 = .ok (.iconst 2, 1) := by decide +kernel
theorem dX10_falls_9 : decode cX10_falls 9 = .ok (.invokestatic 281, 3) := by decide +kernel
theorem dX10_falls_12 : decode cX10_falls 12 = .ok (.iconst 1, 1) := by decide +kernel
theorem dX10_falls_13 : decode cX10_falls 13 = .ok (.invokevirtual 324, 3) := by decide +kernel
theorem dX10_falls_16 : decode cX10_falls 16 = .ok (.ifCond .ne 5, 3) := by decide +kernel
theorem dX10_falls_19 : decode cX10_falls 19 = .ok (.iconst 0, 1) := by decide +kernel
theorem dX10_falls_20 : decode cX10_falls 20 = .ok (.ireturn, 1) := by decide +kernel
theorem dX10_falls_21 : decode cX10_falls 21 = .ok (.iload_n 1, 1) := by decide +kernel
theorem dX10_falls_22 : decode cX10_falls 22 = .ok (.iconst 2, 1) := by decide +kernel
theorem dX10_falls_23 : decode cX10_falls 23 = .ok (.if_icmp .ne 16, 3) := by decide +kernel
theorem dX10_falls_39 : decode cX10_falls 39 = .ok (.iconst 0, 1) := by decide +kernel
theorem dX10_falls_40 : decode cX10_falls 40 = .ok (.istore_n 2, 1) := by decide +kernel
theorem dX10_falls_41 : decode cX10_falls 41 = .ok (.iconst (-1), 1) := by decide +kernel
theorem dX10_falls_42 : decode cX10_falls 42 = .ok (.istore_n 3, 1) := by decide +kernel
theorem dX10_falls_43 : decode cX10_falls 43 = .ok (.iconst 0, 1) := by decide +kernel
theorem dX10_falls_44 : decode cX10_falls 44 = .ok (.istore 4, 2) := by decide +kernel
theorem dX10_falls_46 : decode cX10_falls 46 = .ok (.iload 4, 2) := by decide +kernel
theorem dX10_falls_48 : decode cX10_falls 48 = .ok (.aload_n 0, 1) := by decide +kernel
theorem dX10_falls_49 : decode cX10_falls 49 = .ok (.getfield 153, 3) := by decide +kernel
theorem dX10_falls_52 : decode cX10_falls 52 = .ok (.if_icmp .ge 55, 3) := by decide +kernel
theorem dX10_falls_107 : decode cX10_falls 107 = .ok (.iload_n 1, 1) := by decide +kernel
theorem dX10_falls_108 : decode cX10_falls 108 = .ok (.ifCond .ne 7, 3) := by decide +kernel
theorem dX10_falls_115 : decode cX10_falls 115 = .ok (.iload_n 3, 1) := by decide +kernel
theorem dX10_falls_116 : decode cX10_falls 116 = .ok (.ireturn, 1) := by decide +kernel
theorem dX10_falls_111 : decode cX10_falls 111 = .ok (.iload_n 2, 1) := by decide +kernel
theorem dX10_falls_112 : decode cX10_falls 112 = .ok (.goto 4, 3) := by decide +kernel
theorem dX10_falls_26 : decode cX10_falls 26 = .ok (.aload_n 0, 1) := by decide +kernel
theorem dX10_falls_27 : decode cX10_falls 27 = .ok (.invokevirtual 450, 3) := by decide +kernel
theorem dX10_falls_30 : decode cX10_falls 30 = .ok (.ifCond .eq 7, 3) := by decide +kernel
theorem dX10_falls_33 : decode cX10_falls 33 = .ok (.iconst 1, 1) := by decide +kernel
theorem dX10_falls_34 : decode cX10_falls 34 = .ok (.goto 4, 3) := by decide +kernel
theorem dX10_falls_38 : decode cX10_falls 38 = .ok (.ireturn, 1) := by decide +kernel
theorem dX10_look_0 : decode cX10_look 0 = .ok (.aload_n 0, 1) := by decide +kernel
theorem dX10_look_1 : decode cX10_look 1 = .ok (.iconst 0, 1) := by decide +kernel
theorem dX10_look_2 : decode cX10_look 2 = .ok (.putfield 110, 3) := by decide +kernel
theorem dX10_look_5 : decode cX10_look 5 = .ok (.aload_n 0, 1) := by decide +kernel
theorem dX10_look_6 : decode cX10_look 6 = .ok (.iload_n 1, 1) := by decide +kernel
theorem dX10_look_7 : decode cX10_look 7 = .ok (.iconst 0, 1) := by decide +kernel
theorem dX10_look_8 : decode cX10_look 8 = .ok (.iconst 1, 1) := by decide +kernel
theorem dX10_look_9 : decode cX10_look 9 = .ok (.invokestatic 281, 3) := by decide +kernel
theorem dX10_look_12 : decode cX10_look 12 = .ok (.iconst 1, 1) := by decide +kernel
theorem dX10_look_13 : decode cX10_look 13 = .ok (.invokevirtual 324, 3) := by decide +kernel
theorem dX10_look_16 : decode cX10_look 16 = .ok (.ifCond .ne 5, 3) := by decide +kernel
theorem dX10_look_19 : decode cX10_look 19 = .ok (.iconst 0, 1) := by decide +kernel
theorem dX10_look_20 : decode cX10_look 20 = .ok (.ireturn, 1) := by decide +kernel
theorem dX10_look_21 : decode cX10_look 21 = .ok (.iconst 0, 1) := by decide +kernel
theorem dX10_look_22 : decode cX10_look 22 = .ok (.istore_n 2, 1) := by decide +kernel
theorem dX10_look_23 : decode cX10_look 23 = .ok (.iconst 0, 1) := by decide +kernel
theorem dX10_look_24 : decode cX10_look 24 = .ok (.istore_n 3, 1) := by decide +kernel
theorem dX10_look_25 : decode cX10_look 25 = .ok (.iload_n 3, 1) := by decide +kernel
theorem dX10_look_26 : decode cX10_look 26 = .ok (.aload_n 0, 1) := by decide +kernel
theorem dX10_look_27 : decode cX10_look 27 = .ok (.getfield 153, 3) := by decide +kernel
theorem dX10_look_30 : decode cX10_look 30 = .ok (.if_icmp .ge 77, 3) := by decide +kernel
theorem dX10_look_107 : decode cX10_look 107 = .ok (.iconst (-1), 1) := by decide +kernel
theorem dX10_look_108 : decode cX10_look 108 = .ok (.istore_n 3, 1) := by decide +kernel
theorem dX10_look_109 : decode cX10_look 109 = .ok (.iconst 0, 1) := by decide +kernel
theorem dX10_look_110 : decode cX10_look 110 = .ok (.istore 4, 2) := by decide +kernel
theorem dX10_look_112 : decode cX10_look 112 = .ok (.iconst 0, 1) := by decide +kernel
theorem dX10_look_113 : decode cX10_look 113 = .ok (.istore 5, 2) := by decide +kernel
theorem dX10_look_115 : decode cX10_look 115 = .ok (.iload 5, 2) := by decide +kernel
theorem dX10_look_117 : decode cX10_look 117 = .ok (.aload_n 0, 1) := by decide +kernel
theorem dX10_look_118 : decode cX10_look 118 = .ok (.getfield 198, 3) := by decide +kernel
theorem dX10_look_121 : decode cX10_look 121 = .ok (.if_icmp .ge 35, 3) := by decide +kernel
theorem dX10_look_156 : decode cX10_look 156 = .ok (.iload_n 1, 1) := by decide +kernel
theorem dX10_look_157 : decode cX10_look 157 = .ok (.ifCond .ne 7, 3) := by decide +kernel
theorem dX10_look_164 : decode cX10_look 164 = .ok (.iload 4, 2) := by decide +kernel
theorem dX10_look_166 : decode cX10_look 166 = .ok (.ireturn, 1) := by decide +kernel
theorem dX10_look_160 : decode cX10_look 160 = .ok (.iload_n 3, 1) := by decide +kernel
theorem dX10_look_161 : decode cX10_look 161 = .ok (.goto 5, 3) := by decide +kernel
theorem dX10_draw_0 : decode cX10_draw 0 = .ok (.aload_n 0, 1) := by decide +kernel
theorem dX10_draw_1 : decode cX10_draw 1 = .ok (.aload_n 0, 1) := by decide +kernel
theorem dX10_draw_2 : decode cX10_draw 2 = .ok (.getfield 459, 3) := by decide +kernel
theorem dX10_draw_5 : decode cX10_draw 5 = .ok (.ldc_w 462, 3) := by decide +kernel
theorem dX10_draw_8 : decode cX10_draw 8 = .ok (.imul, 1) := by decide +kernel
theorem dX10_draw_9 : decode cX10_draw 9 = .ok (.sipush 12345, 3) := by decide +kernel
theorem dX10_draw_12 : decode cX10_draw 12 = .ok (.iadd, 1) := by decide +kernel
theorem dX10_draw_13 : decode cX10_draw 13 = .ok (.putfield 459, 3) := by decide +kernel
theorem dX10_draw_16 : decode cX10_draw 16 = .ok (.aload_n 0, 1) := by decide +kernel
theorem dX10_draw_17 : decode cX10_draw 17 = .ok (.getfield 459, 3) := by decide +kernel
theorem dX10_draw_20 : decode cX10_draw 20 = .ok (.bipush 16, 2) := by decide +kernel
theorem dX10_draw_22 : decode cX10_draw 22 = .ok (.ishr, 1) := by decide +kernel
theorem dX10_draw_23 : decode cX10_draw 23 = .ok (.sipush 32767, 3) := by decide +kernel
theorem dX10_draw_26 : decode cX10_draw 26 = .ok (.iand, 1) := by decide +kernel
theorem dX10_draw_27 : decode cX10_draw 27 = .ok (.iload_n 1, 1) := by decide +kernel
theorem dX10_draw_28 : decode cX10_draw 28 = .ok (.irem, 1) := by decide +kernel
theorem dX10_draw_29 : decode cX10_draw 29 = .ok (.ireturn, 1) := by decide +kernel
theorem dX10_year_0 : decode cX10_year 0 = .ok (.aload_n 0, 1) := by decide +kernel
theorem dX10_year_1 : decode cX10_year 1 = .ok (.bipush 6, 2) := by decide +kernel
theorem dX10_year_3 : decode cX10_year 3 = .ok (.invokevirtual 463, 3) := by decide +kernel
theorem dX10_year_6 : decode cX10_year 6 = .ok (.istore_n 1, 1) := by decide +kernel
theorem dX10_year_7 : decode cX10_year 7 = .ok (.iload_n 1, 1) := by decide +kernel
theorem dX10_year_8 : decode cX10_year 8 = .ok (.iconst 2, 1) := by decide +kernel
theorem dX10_year_9 : decode cX10_year 9 = .ok (.if_icmp .ge 21, 3) := by decide +kernel
theorem dX10_year_30 : decode cX10_year 30 = .ok (.iload_n 1, 1) := by decide +kernel
theorem dX10_year_31 : decode cX10_year 31 = .ok (.iconst 5, 1) := by decide +kernel
theorem dX10_year_32 : decode cX10_year 32 = .ok (.if_icmp .ne 42, 3) := by decide +kernel
theorem dX10_year_74 : decode cX10_year 74 = .ok (.aload_n 0, 1) := by decide +kernel
theorem dX10_year_75 : decode cX10_year 75 = .ok (.getfield 198, 3) := by decide +kernel
theorem dX10_year_78 : decode cX10_year 78 = .ok (.ifCond .le 65, 3) := by decide +kernel
theorem dX10_year_143 : decode cX10_year 143 = .ok (.return_, 1) := by decide +kernel
theorem dX10_year_35 : decode cX10_year 35 = .ok (.iconst 0, 1) := by decide +kernel
theorem dX10_year_36 : decode cX10_year 36 = .ok (.istore_n 2, 1) := by decide +kernel
theorem dX10_year_37 : decode cX10_year 37 = .ok (.iload_n 2, 1) := by decide +kernel
theorem dX10_year_38 : decode cX10_year 38 = .ok (.aload_n 0, 1) := by decide +kernel
theorem dX10_year_39 : decode cX10_year 39 = .ok (.getfield 198, 3) := by decide +kernel
theorem dX10_year_42 : decode cX10_year 42 = .ok (.if_icmp .ge 29, 3) := by decide +kernel
theorem dX10_year_71 : decode cX10_year 71 = .ok (.goto 72, 3) := by decide +kernel
theorem dX10_year_12 : decode cX10_year 12 = .ok (.aload_n 0, 1) := by decide +kernel
theorem dX10_year_13 : decode cX10_year 13 = .ok (.sipush 350, 3) := by decide +kernel
theorem dX10_year_16 : decode cX10_year 16 = .ok (.aload_n 0, 1) := by decide +kernel
theorem dX10_year_17 : decode cX10_year 17 = .ok (.bipush 6, 2) := by decide +kernel
theorem dX10_year_19 : decode cX10_year 19 = .ok (.invokevirtual 463, 3) := by decide +kernel
theorem dX10_year_22 : decode cX10_year 22 = .ok (.iconst 1, 1) := by decide +kernel
theorem dX10_year_23 : decode cX10_year 23 = .ok (.iadd, 1) := by decide +kernel
theorem dX10_year_24 : decode cX10_year 24 = .ok (.invokevirtual 400, 3) := by decide +kernel
theorem dX10_year_27 : decode cX10_year 27 = .ok (.goto 116, 3) := by decide +kernel
theorem dX10_years_0 : decode cX10_years 0 = .ok (.aload_n 0, 1) := by decide +kernel
theorem dX10_years_1 : decode cX10_years 1 = .ok (.iconst 0, 1) := by decide +kernel
theorem dX10_years_2 : decode cX10_years 2 = .ok (.putfield 110, 3) := by decide +kernel
theorem dX10_years_5 : decode cX10_years 5 = .ok (.aload_n 0, 1) := by decide +kernel
theorem dX10_years_6 : decode cX10_years 6 = .ok (.iload_n 3, 1) := by decide +kernel
theorem dX10_years_7 : decode cX10_years 7 = .ok (.iconst 0, 1) := by decide +kernel
theorem dX10_years_8 : decode cX10_years 8 = .ok (.iconst 2, 1) := by decide +kernel
theorem dX10_years_9 : decode cX10_years 9 = .ok (.invokestatic 281, 3) := by decide +kernel
theorem dX10_years_12 : decode cX10_years 12 = .ok (.iconst 1, 1) := by decide +kernel
theorem dX10_years_13 : decode cX10_years 13 = .ok (.invokevirtual 324, 3) := by decide +kernel
theorem dX10_years_16 : decode cX10_years 16 = .ok (.ifCond .eq 18, 3) := by decide +kernel
theorem dX10_years_34 : decode cX10_years 34 = .ok (.iconst 0, 1) := by decide +kernel
theorem dX10_years_35 : decode cX10_years 35 = .ok (.ireturn, 1) := by decide +kernel
theorem dX10_years_19 : decode cX10_years 19 = .ok (.aload_n 0, 1) := by decide +kernel
theorem dX10_years_20 : decode cX10_years 20 = .ok (.iload_n 2, 1) := by decide +kernel
theorem dX10_years_21 : decode cX10_years 21 = .ok (.iconst 0, 1) := by decide +kernel
theorem dX10_years_22 : decode cX10_years 22 = .ok (.bipush 30, 2) := by decide +kernel
theorem dX10_years_24 : decode cX10_years 24 = .ok (.invokestatic 281, 3) := by decide +kernel
theorem dX10_years_27 : decode cX10_years 27 = .ok (.iconst 2, 1) := by decide +kernel
theorem dX10_years_28 : decode cX10_years 28 = .ok (.invokevirtual 324, 3) := by decide +kernel
theorem dX10_years_31 : decode cX10_years 31 = .ok (.ifCond .ne 5, 3) := by decide +kernel
theorem dX10_years_36 : decode cX10_years 36 = .ok (.aload_n 0, 1) := by decide +kernel
theorem dX10_years_37 : decode cX10_years 37 = .ok (.invokevirtual 409, 3) := by decide +kernel
theorem dX10_years_40 : decode cX10_years 40 = .ok (.aload_n 0, 1) := by decide +kernel
theorem dX10_years_41 : decode cX10_years 41 = .ok (.iload_n 1, 1) := by decide +kernel
theorem dX10_years_42 : decode cX10_years 42 = .ok (.putfield 459, 3) := by decide +kernel
theorem dX10_years_45 : decode cX10_years 45 = .ok (.iconst 0, 1) := by decide +kernel
theorem dX10_years_46 : decode cX10_years 46 = .ok (.istore 4, 2) := by decide +kernel
theorem dX10_years_48 : decode cX10_years 48 = .ok (.iload 4, 2) := by decide +kernel
theorem dX10_years_50 : decode cX10_years 50 = .ok (.iload_n 2, 1) := by decide +kernel
theorem dX10_years_51 : decode cX10_years 51 = .ok (.if_icmp .ge 13, 3) := by decide +kernel
theorem dX10_years_64 : decode cX10_years 64 = .ok (.iload_n 3, 1) := by decide +kernel
theorem dX10_years_65 : decode cX10_years 65 = .ok (.iconst 2, 1) := by decide +kernel
theorem dX10_years_66 : decode cX10_years 66 = .ok (.if_icmp .ge 41, 3) := by decide +kernel
theorem dX10_years_107 : decode cX10_years 107 = .ok (.iconst 0, 1) := by decide +kernel
theorem dX10_years_108 : decode cX10_years 108 = .ok (.istore 4, 2) := by decide +kernel
theorem dX10_years_110 : decode cX10_years 110 = .ok (.iconst 0, 1) := by decide +kernel
theorem dX10_years_111 : decode cX10_years 111 = .ok (.istore 5, 2) := by decide +kernel
theorem dX10_years_113 : decode cX10_years 113 = .ok (.iload 5, 2) := by decide +kernel
theorem dX10_years_115 : decode cX10_years 115 = .ok (.aload_n 0, 1) := by decide +kernel
theorem dX10_years_116 : decode cX10_years 116 = .ok (.getfield 198, 3) := by decide +kernel
theorem dX10_years_119 : decode cX10_years 119 = .ok (.if_icmp .ge 24, 3) := by decide +kernel
theorem dX10_years_143 : decode cX10_years 143 = .ok (.iload 4, 2) := by decide +kernel
theorem dX10_years_145 : decode cX10_years 145 = .ok (.ireturn, 1) := by decide +kernel
theorem dX10_years_69 : decode cX10_years 69 = .ok (.iload_n 3, 1) := by decide +kernel
theorem dX10_years_70 : decode cX10_years 70 = .ok (.ifCond .ne 21, 3) := by decide +kernel
theorem dX10_years_91 : decode cX10_years 91 = .ok (.aload_n 0, 1) := by decide +kernel
theorem dX10_years_92 : decode cX10_years 92 = .ok (.getfield 9, 3) := by decide +kernel
theorem dX10_years_95 : decode cX10_years 95 = .ok (.sipush 353, 3) := by decide +kernel
theorem dX10_years_98 : decode cX10_years 98 = .ok (.iaload, 1) := by decide +kernel
theorem dX10_years_99 : decode cX10_years 99 = .ok (.aload_n 0, 1) := by decide +kernel
theorem dX10_years_100 : decode cX10_years 100 = .ok (.getfield 9, 3) := by decide +kernel
theorem dX10_years_103 : decode cX10_years 103 = .ok (.iconst 3, 1) := by decide +kernel
theorem dX10_years_104 : decode cX10_years 104 = .ok (.iaload, 1) := by decide +kernel
theorem dX10_years_105 : decode cX10_years 105 = .ok (.isub, 1) := by decide +kernel
theorem dX10_years_106 : decode cX10_years 106 = .ok (.ireturn, 1) := by decide +kernel
theorem dX10_years_73 : decode cX10_years 73 = .ok (.aload_n 0, 1) := by decide +kernel
theorem dX10_years_74 : decode cX10_years 74 = .ok (.getfield 9, 3) := by decide +kernel
theorem dX10_years_77 : decode cX10_years 77 = .ok (.sipush 354, 3) := by decide +kernel
theorem dX10_years_80 : decode cX10_years 80 = .ok (.iaload, 1) := by decide +kernel
theorem dX10_years_81 : decode cX10_years 81 = .ok (.aload_n 0, 1) := by decide +kernel
theorem dX10_years_82 : decode cX10_years 82 = .ok (.getfield 9, 3) := by decide +kernel
theorem dX10_years_85 : decode cX10_years 85 = .ok (.iconst 4, 1) := by decide +kernel
theorem dX10_years_86 : decode cX10_years 86 = .ok (.iaload, 1) := by decide +kernel
theorem dX10_years_87 : decode cX10_years 87 = .ok (.isub, 1) := by decide +kernel
theorem dX10_years_88 : decode cX10_years 88 = .ok (.goto 18, 3) := by decide +kernel
theorem dX10_years_54 : decode cX10_years 54 = .ok (.aload_n 0, 1) := by decide +kernel
theorem dX10_years_55 : decode cX10_years 55 = .ok (.invokevirtual 466, 3) := by decide +kernel
theorem dX10_years_58 : decode cX10_years 58 = .ok (.iinc 4 1, 3) := by decide +kernel
theorem dX10_years_61 : decode cX10_years 61 = .ok (.goto (-13), 3) := by decide +kernel
theorem dX10_image_0 : decode cX10_image 0 = .ok (.aload_n 0, 1) := by decide +kernel
theorem dX10_image_1 : decode cX10_image 1 = .ok (.iconst 0, 1) := by decide +kernel
theorem dX10_image_2 : decode cX10_image 2 = .ok (.putfield 110, 3) := by decide +kernel
theorem dX10_image_5 : decode cX10_image 5 = .ok (.aload_n 0, 1) := by decide +kernel
theorem dX10_image_6 : decode cX10_image 6 = .ok (.iconst 0, 1) := by decide +kernel
theorem dX10_image_7 : decode cX10_image 7 = .ok (.sipush 14700, 3) := by decide +kernel
theorem dX10_image_10 : decode cX10_image 10 = .ok (.sipush 350, 3) := by decide +kernel
theorem dX10_image_13 : decode cX10_image 13 = .ok (.invokevirtual 391, 3) := by decide +kernel
theorem dX10_image_16 : decode cX10_image 16 = .ok (.aload_n 0, 1) := by decide +kernel
theorem dX10_image_17 : decode cX10_image 17 = .ok (.sipush 700, 3) := by decide +kernel
theorem dX10_image_20 : decode cX10_image 20 = .ok (.sipush 15050, 3) := by decide +kernel
theorem dX10_image_23 : decode cX10_image 23 = .ok (.sipush 14000, 3) := by decide +kernel
theorem dX10_image_26 : decode cX10_image 26 = .ok (.invokevirtual 391, 3) := by decide +kernel
theorem dX10_image_29 : decode cX10_image 29 = .ok (.aload_n 0, 1) := by decide +kernel
theorem dX10_image_30 : decode cX10_image 30 = .ok (.aload_n 0, 1) := by decide +kernel
theorem dX10_image_31 : decode cX10_image 31 = .ok (.getfield 342, 3) := by decide +kernel
theorem dX10_image_34 : decode cX10_image 34 = .ok (.putfield 469, 3) := by decide +kernel
theorem dX10_image_37 : decode cX10_image 37 = .ok (.aload_n 0, 1) := by decide +kernel
theorem dX10_image_38 : decode cX10_image 38 = .ok (.aload_n 0, 1) := by decide +kernel
theorem dX10_image_39 : decode cX10_image 39 = .ok (.getfield 339, 3) := by decide +kernel
theorem dX10_image_42 : decode cX10_image 42 = .ok (.putfield 472, 3) := by decide +kernel
theorem dX10_image_45 : decode cX10_image 45 = .ok (.aload_n 0, 1) := by decide +kernel
theorem dX10_image_46 : decode cX10_image 46 = .ok (.aload_n 0, 1) := by decide +kernel
theorem dX10_image_47 : decode cX10_image 47 = .ok (.getfield 336, 3) := by decide +kernel
theorem dX10_image_50 : decode cX10_image 50 = .ok (.putfield 475, 3) := by decide +kernel
theorem dX10_image_53 : decode cX10_image 53 = .ok (.iconst 0, 1) := by decide +kernel
theorem dX10_image_54 : decode cX10_image 54 = .ok (.istore_n 1, 1) := by decide +kernel
theorem dX10_image_145 : decode cX10_image 145 = .ok (.iload_n 1, 1) := by decide +kernel
theorem dX10_image_146 : decode cX10_image 146 = .ok (.iconst 3, 1) := by decide +kernel
theorem dX10_image_147 : decode cX10_image 147 = .ok (.if_icmp .ge 23, 3) := by decide +kernel
theorem dX10_image_170 : decode cX10_image 170 = .ok (.aload_n 0, 1) := by decide +kernel
theorem dX10_image_171 : decode cX10_image 171 = .ok (.iconst 1, 1) := by decide +kernel
theorem dX10_image_172 : decode cX10_image 172 = .ok (.putfield 333, 3) := by decide +kernel
theorem dX10_image_175 : decode cX10_image 175 = .ok (.return_, 1) := by decide +kernel
theorem dX10_image_150 : decode cX10_image 150 = .ok (.aload_n 0, 1) := by decide +kernel
theorem dX10_image_151 : decode cX10_image 151 = .ok (.getfield 40, 3) := by decide +kernel
theorem dX10_image_154 : decode cX10_image 154 = .ok (.iconst 3, 1) := by decide +kernel
theorem dX10_image_155 : decode cX10_image 155 = .ok (.iload_n 1, 1) := by decide +kernel
theorem dX10_image_156 : decode cX10_image 156 = .ok (.iadd, 1) := by decide +kernel
theorem dX10_image_157 : decode cX10_image 157 = .ok (.aload_n 0, 1) := by decide +kernel
theorem dX10_image_158 : decode cX10_image 158 = .ok (.getfield 40, 3) := by decide +kernel
theorem dX10_image_161 : decode cX10_image 161 = .ok (.iload_n 1, 1) := by decide +kernel
theorem dX10_image_162 : decode cX10_image 162 = .ok (.iaload, 1) := by decide +kernel
theorem dX10_image_163 : decode cX10_image 163 = .ok (.iastore, 1) := by decide +kernel
theorem dX10_image_164 : decode cX10_image 164 = .ok (.iinc 1 1, 3) := by decide +kernel
theorem dX10_image_167 : decode cX10_image 167 = .ok (.goto (-22), 3) := by decide +kernel
theorem dX10_image_86 : decode cX10_image 86 = .ok (.iload_n 1, 1) := by decide +kernel
theorem dX10_image_87 : decode cX10_image 87 = .ok (.bipush 8, 2) := by decide +kernel
theorem dX10_image_89 : decode cX10_image 89 = .ok (.if_icmp .ge 54, 3) := by decide +kernel
theorem dX10_image_143 : decode cX10_image 143 = .ok (.iconst 0, 1) := by decide +kernel
theorem dX10_image_144 : decode cX10_image 144 = .ok (.istore_n 1, 1) := by decide +kernel
theorem dX10_image_92 : decode cX10_image 92 = .ok (.aload_n 0, 1) := by decide +kernel
theorem dX10_image_93 : decode cX10_image 93 = .ok (.getfield 31, 3) := by decide +kernel
theorem dX10_image_96 : decode cX10_image 96 = .ok (.bipush 8, 2) := by decide +kernel
theorem dX10_image_98 : decode cX10_image 98 = .ok (.iload_n 1, 1) := by decide +kernel
theorem dX10_image_99 : decode cX10_image 99 = .ok (.iadd, 1) := by decide +kernel
theorem dX10_image_100 : decode cX10_image 100 = .ok (.aload_n 0, 1) := by decide +kernel
theorem dX10_image_101 : decode cX10_image 101 = .ok (.getfield 31, 3) := by decide +kernel
theorem dX10_image_104 : decode cX10_image 104 = .ok (.iload_n 1, 1) := by decide +kernel
theorem dX10_image_105 : decode cX10_image 105 = .ok (.iaload, 1) := by decide +kernel
theorem dX10_image_106 : decode cX10_image 106 = .ok (.iastore, 1) := by decide +kernel
theorem dX10_image_107 : decode cX10_image 107 = .ok (.aload_n 0, 1) := by decide +kernel
theorem dX10_image_108 : decode cX10_image 108 = .ok (.getfield 34, 3) := by decide +kernel
theorem dX10_image_111 : decode cX10_image 111 = .ok (.bipush 8, 2) := by decide +kernel
theorem dX10_image_113 : decode cX10_image 113 = .ok (.iload_n 1, 1) := by decide +kernel
theorem dX10_image_114 : decode cX10_image 114 = .ok (.iadd, 1) := by decide +kernel
theorem dX10_image_115 : decode cX10_image 115 = .ok (.aload_n 0, 1) := by decide +kernel
theorem dX10_image_116 : decode cX10_image 116 = .ok (.getfield 34, 3) := by decide +kernel
theorem dX10_image_119 : decode cX10_image 119 = .ok (.iload_n 1, 1) := by decide +kernel
theorem dX10_image_120 : decode cX10_image 120 = .ok (.iaload, 1) := by decide +kernel
theorem dX10_image_121 : decode cX10_image 121 = .ok (.iastore, 1) := by decide +kernel
theorem dX10_image_122 : decode cX10_image 122 = .ok (.aload_n 0, 1) := by decide +kernel
theorem dX10_image_123 : decode cX10_image 123 = .ok (.getfield 37, 3) := by decide +kernel
theorem dX10_image_126 : decode cX10_image 126 = .ok (.bipush 8, 2) := by decide +kernel
theorem dX10_image_128 : decode cX10_image 128 = .ok (.iload_n 1, 1) := by decide +kernel
theorem dX10_image_129 : decode cX10_image 129 = .ok (.iadd, 1) := by decide +kernel
theorem dX10_image_130 : decode cX10_image 130 = .ok (.aload_n 0, 1) := by decide +kernel
theorem dX10_image_131 : decode cX10_image 131 = .ok (.getfield 37, 3) := by decide +kernel
theorem dX10_image_134 : decode cX10_image 134 = .ok (.iload_n 1, 1) := by decide +kernel
theorem dX10_image_135 : decode cX10_image 135 = .ok (.iaload, 1) := by decide +kernel
theorem dX10_image_136 : decode cX10_image 136 = .ok (.iastore, 1) := by decide +kernel
theorem dX10_image_137 : decode cX10_image 137 = .ok (.iinc 1 1, 3) := by decide +kernel
theorem dX10_image_140 : decode cX10_image 140 = .ok (.goto (-54), 3) := by decide +kernel
theorem dX10_image_55 : decode cX10_image 55 = .ok (.iload_n 1, 1) := by decide +kernel
theorem dX10_image_56 : decode cX10_image 56 = .ok (.sipush 540, 3) := by decide +kernel
theorem dX10_image_59 : decode cX10_image 59 = .ok (.if_icmp .ge 25, 3) := by decide +kernel
theorem dX10_image_84 : decode cX10_image 84 = .ok (.iconst 0, 1) := by decide +kernel
theorem dX10_image_85 : decode cX10_image 85 = .ok (.istore_n 1, 1) := by decide +kernel
theorem dX10_image_62 : decode cX10_image 62 = .ok (.aload_n 0, 1) := by decide +kernel
theorem dX10_image_63 : decode cX10_image 63 = .ok (.getfield 43, 3) := by decide +kernel
theorem dX10_image_66 : decode cX10_image 66 = .ok (.sipush 540, 3) := by decide +kernel
theorem dX10_image_69 : decode cX10_image 69 = .ok (.iload_n 1, 1) := by decide +kernel
theorem dX10_image_70 : decode cX10_image 70 = .ok (.iadd, 1) := by decide +kernel
theorem dX10_image_71 : decode cX10_image 71 = .ok (.aload_n 0, 1) := by decide +kernel
theorem dX10_image_72 : decode cX10_image 72 = .ok (.getfield 43, 3) := by decide +kernel
theorem dX10_image_75 : decode cX10_image 75 = .ok (.iload_n 1, 1) := by decide +kernel
theorem dX10_image_76 : decode cX10_image 76 = .ok (.iaload, 1) := by decide +kernel
theorem dX10_image_77 : decode cX10_image 77 = .ok (.iastore, 1) := by decide +kernel
theorem dX10_image_78 : decode cX10_image 78 = .ok (.iinc 1 1, 3) := by decide +kernel
theorem dX10_image_81 : decode cX10_image 81 = .ok (.goto (-26), 3) := by decide +kernel
