-- decode rows of refimg
theorem dX10_pit_0 : decode cX10_pit 0 = .ok (.aload_n 0, 1) := by decide +kernel
theorem dX10_pit_1 : decode cX10_pit 1 = .ok (.iconst 0, 1) := by decide +kernel
theorem dX10_pit_2 : decode cX10_pit 2 = .ok (.putfield 110, 3) := by decide +kernel
theorem dX10_pit_5 : decode cX10_pit 5 = .ok (.iload_n 1, 1) := by decide +kernel
theorem dX10_pit_6 : decode cX10_pit 6 = .ok (.iconst 0, 1) := by decide +kernel
theorem dX10_pit_7 : decode cX10_pit 7 = .ok (.aload_n 0, 1) := by decide +kernel
theorem dX10_pit_8 : decode cX10_pit 8 = .ok (.getfield 198, 3) := by decide +kernel
theorem dX10_pit_11 : decode cX10_pit 11 = .ok (.iconst 1, 1) := by decide +kernel
theorem dX10_pit_12 : decode cX10_pit 12 = .ok (.isub, 1) := by decide +kernel
theorem dX10_pit_13 : decode cX10_pit 13 = .ok (.invokestatic 281, 3) := by decide +kernel
theorem dX10_pit_16 : decode cX10_pit 16 = .ok (.ifCond .eq 14, 3) := by decide +kernel
theorem dX10_pit_19 : decode cX10_pit 19 = .ok (.aload_n 0, 1) := by decide +kernel
theorem dX10_pit_20 : decode cX10_pit 20 = .ok (.getfield 9, 3) := by decide +kernel
theorem dX10_pit_23 : decode cX10_pit 23 = .ok (.iconst 5, 1) := by decide +kernel
theorem dX10_pit_24 : decode cX10_pit 24 = .ok (.iaload, 1) := by decide +kernel
theorem dX10_pit_25 : decode cX10_pit 25 = .ok (.bipush 6, 2) := by decide +kernel
theorem dX10_pit_27 : decode cX10_pit 27 = .ok (.if_icmp .ne 9, 3) := by decide +kernel
theorem dX10_pit_36 : decode cX10_pit 36 = .ok (.aload_n 0, 1) := by decide +kernel
theorem dX10_pit_37 : decode cX10_pit 37 = .ok (.invokevirtual 397, 3) := by decide +kernel
theorem dX10_pit_40 : decode cX10_pit 40 = .ok (.bipush 90, 2) := by decide +kernel
theorem dX10_pit_42 : decode cX10_pit 42 = .ok (.aload_n 0, 1) := by decide +kernel
theorem dX10_pit_43 : decode cX10_pit 43 = .ok (.getfield 9, 3) := by decide +kernel
theorem dX10_pit_46 : decode cX10_pit 46 = .ok (.iconst 5, 1) := by decide +kernel
theorem dX10_pit_47 : decode cX10_pit 47 = .ok (.iaload, 1) := by decide +kernel
theorem dX10_pit_48 : decode cX10_pit 48 = .ok (.imul, 1) := by decide +kernel
theorem dX10_pit_49 : decode cX10_pit 49 = .ok (.istore_n 2, 1) := by decide +kernel
theorem dX10_pit_50 : decode cX10_pit 50 = .ok (.aload_n 0, 1) := by decide +kernel
theorem dX10_pit_51 : decode cX10_pit 51 = .ok (.getfield 43, 3) := by decide +kernel
theorem dX10_pit_54 : decode cX10_pit 54 = .ok (.iload_n 2, 1) := by decide +kernel
theorem dX10_pit_55 : decode cX10_pit 55 = .ok (.iload_n 1, 1) := by decide +kernel
theorem dX10_pit_56 : decode cX10_pit 56 = .ok (.iastore, 1) := by decide +kernel
theorem dX10_pit_57 : decode cX10_pit 57 = .ok (.aload_n 0, 1) := by decide +kernel
theorem dX10_pit_58 : decode cX10_pit 58 = .ok (.getfield 43, 3) := by decide +kernel
theorem dX10_pit_61 : decode cX10_pit 61 = .ok (.iload_n 2, 1) := by decide +kernel
theorem dX10_pit_62 : decode cX10_pit 62 = .ok (.iconst 1, 1) := by decide +kernel
theorem dX10_pit_63 : decode cX10_pit 63 = .ok (.iadd, 1) := by decide +kernel
theorem dX10_pit_64 : decode cX10_pit 64 = .ok (.aload_n 0, 1) := by decide +kernel
theorem dX10_pit_65 : decode cX10_pit 65 = .ok (.getfield 9, 3) := by decide +kernel
theorem dX10_pit_68 : decode cX10_pit 68 = .ok (.iconst 0, 1) := by decide +kernel
theorem dX10_pit_69 : decode cX10_pit 69 = .ok (.iaload, 1) := by decide +kernel
theorem dX10_pit_70 : decode cX10_pit 70 = .ok (.iastore, 1) := by decide +kernel
theorem dX10_pit_71 : decode cX10_pit 71 = .ok (.aload_n 0, 1) := by decide +kernel
theorem dX10_pit_72 : decode cX10_pit 72 = .ok (.getfield 43, 3) := by decide +kernel
theorem dX10_pit_75 : decode cX10_pit 75 = .ok (.iload_n 2, 1) := by decide +kernel
theorem dX10_pit_76 : decode cX10_pit 76 = .ok (.iconst 2, 1) := by decide +kernel
theorem dX10_pit_77 : decode cX10_pit 77 = .ok (.iadd, 1) := by decide +kernel
theorem dX10_pit_78 : decode cX10_pit 78 = .ok (.aload_n 0, 1) := by decide +kernel
theorem dX10_pit_79 : decode cX10_pit 79 = .ok (.iconst 0, 1) := by decide +kernel
theorem dX10_pit_80 : decode cX10_pit 80 = .ok (.iload_n 1, 1) := by decide +kernel
theorem dX10_pit_81 : decode cX10_pit 81 = .ok (.invokevirtual 121, 3) := by decide +kernel
theorem dX10_pit_84 : decode cX10_pit 84 = .ok (.iastore, 1) := by decide +kernel
theorem dX10_pit_85 : decode cX10_pit 85 = .ok (.iconst 0, 1) := by decide +kernel
theorem dX10_pit_86 : decode cX10_pit 86 = .ok (.istore_n 3, 1) := by decide +kernel
theorem dX10_pit_87 : decode cX10_pit 87 = .ok (.iload_n 3, 1) := by decide +kernel
theorem dX10_pit_88 : decode cX10_pit 88 = .ok (.bipush 84, 2) := by decide +kernel
theorem dX10_pit_90 : decode cX10_pit 90 = .ok (.if_icmp .ge 35, 3) := by decide +kernel
theorem dX10_pit_125 : decode cX10_pit 125 = .ok (.aload_n 0, 1) := by decide +kernel
theorem dX10_pit_126 : decode cX10_pit 126 = .ok (.getfield 9, 3) := by decide +kernel
theorem dX10_pit_129 : decode cX10_pit 129 = .ok (.iconst 5, 1) := by decide +kernel
theorem dX10_pit_130 : decode cX10_pit 130 = .ok (.dup2, 1) := by decide +kernel
theorem dX10_pit_131 : decode cX10_pit 131 = .ok (.iaload, 1) := by decide +kernel
theorem dX10_pit_132 : decode cX10_pit 132 = .ok (.iconst 1, 1) := by decide +kernel
theorem dX10_pit_133 : decode cX10_pit 133 = .ok (.iadd, 1) := by decide +kernel
theorem dX10_pit_134 : decode cX10_pit 134 = .ok (.iastore, 1) := by decide +kernel
theorem dX10_pit_135 : decode cX10_pit 135 = .ok (.aload_n 0, 1) := by decide +kernel
theorem dX10_pit_136 : decode cX10_pit 136 = .ok (.getfield 9, 3) := by decide +kernel
theorem dX10_pit_139 : decode cX10_pit 139 = .ok (.iconst 5, 1) := by decide +kernel
theorem dX10_pit_140 : decode cX10_pit 140 = .ok (.iaload, 1) := by decide +kernel
theorem dX10_pit_141 : decode cX10_pit 141 = .ok (.ireturn, 1) := by decide +kernel
theorem dX10_pit_93 : decode cX10_pit 93 = .ok (.aload_n 0, 1) := by decide +kernel
theorem dX10_pit_94 : decode cX10_pit 94 = .ok (.getfield 43, 3) := by decide +kernel
theorem dX10_pit_97 : decode cX10_pit 97 = .ok (.iload_n 2, 1) := by decide +kernel
theorem dX10_pit_98 : decode cX10_pit 98 = .ok (.iconst 3, 1) := by decide +kernel
theorem dX10_pit_99 : decode cX10_pit 99 = .ok (.iadd, 1) := by decide +kernel
theorem dX10_pit_100 : decode cX10_pit 100 = .ok (.iload_n 3, 1) := by decide +kernel
theorem dX10_pit_101 : decode cX10_pit 101 = .ok (.iadd, 1) := by decide +kernel
theorem dX10_pit_102 : decode cX10_pit 102 = .ok (.aload_n 0, 1) := by decide +kernel
theorem dX10_pit_103 : decode cX10_pit 103 = .ok (.getfield 9, 3) := by decide +kernel
theorem dX10_pit_106 : decode cX10_pit 106 = .ok (.bipush 6, 2) := by decide +kernel
theorem dX10_pit_108 : decode cX10_pit 108 = .ok (.bipush 86, 2) := by decide +kernel
theorem dX10_pit_110 : decode cX10_pit 110 = .ok (.iload_n 1, 1) := by decide +kernel
theorem dX10_pit_111 : decode cX10_pit 111 = .ok (.imul, 1) := by decide +kernel
theorem dX10_pit_112 : decode cX10_pit 112 = .ok (.iadd, 1) := by decide +kernel
theorem dX10_pit_113 : decode cX10_pit 113 = .ok (.iconst 2, 1) := by decide +kernel
theorem dX10_pit_114 : decode cX10_pit 114 = .ok (.iadd, 1) := by decide +kernel
theorem dX10_pit_115 : decode cX10_pit 115 = .ok (.iload_n 3, 1) := by decide +kernel
theorem dX10_pit_116 : decode cX10_pit 116 = .ok (.iadd, 1) := by decide +kernel
theorem dX10_pit_117 : decode cX10_pit 117 = .ok (.iaload, 1) := by decide +kernel
theorem dX10_pit_118 : decode cX10_pit 118 = .ok (.iastore, 1) := by decide +kernel
theorem dX10_pit_119 : decode cX10_pit 119 = .ok (.iinc 3 1, 3) := by decide +kernel
theorem dX10_pit_122 : decode cX10_pit 122 = .ok (.goto (-35), 3) := by decide +kernel
theorem dX10_pit_30 : decode cX10_pit 30 = .ok (.aload_n 0, 1) := by decide +kernel
theorem dX10_pit_31 : decode cX10_pit 31 = .ok (.iconst 1, 1) := by decide +kernel
theorem dX10_pit_32 : decode cX10_pit 32 = .ok (.invokevirtual 394, 3) := by decide +kernel
theorem dX10_pit_35 : decode cX10_pit 35 = .ok (.ireturn, 1) := by decide +kernel
theorem dX10_image_0 : decode cX10_image 0 = .ok (.aload_n 0, 1) := by decide +kernel
theorem dX10_image_1 : decode cX10_image 1 = .ok (.iconst 0, 1) := by decide +kernel
theorem dX10_image_2 : decode cX10_image 2 = .ok (.putfield 110, 3) := by decide +kernel
theorem dX10_image_5 : decode cX10_image 5 = .ok (.aload_n 0, 1) := by decide +kernel
theorem dX10_image_6 : decode cX10_image 6 = .ok (.iconst 0, 1) := by decide +kernel
theorem dX10_image_7 : decode cX10_image 7 = .ok (.sipush 14700, 3) := by decide +kernel
theorem dX10_image_10 : decode cX10_image 10 = .ok (.sipush 350, 3) := by decide +kernel
theorem dX10_image_13 : decode cX10_image 13 = .ok (.invokevirtual 391, 3) := by decide +kernel
theorem dX10_image_16 : decode cX10_image 16 = .ok (.aload_n 0, 1) := by decide +kernel
theorem dX10_image_17 : decode cX10_image 17 = .ok (.sipush 700, 3) := by decide +kernel
theorem dX10_image_20 : decode cX10_image 20 = .ok (.sipush 15050, 3) := by decide +kernel
theorem dX10_image_23 : decode cX10_image 23 = .ok (.sipush 14000, 3) := by decide +kernel
theorem dX10_image_26 : decode cX10_image 26 = .ok (.invokevirtual 391, 3) := by decide +kernel
theorem dX10_image_29 : decode cX10_image 29 = .ok (.aload_n 0, 1) := by decide +kernel
theorem dX10_image_30 : decode cX10_image 30 = .ok (.aload_n 0, 1) := by decide +kernel
theorem dX10_image_31 : decode cX10_image 31 = .ok (.getfield 342, 3) := by decide +kernel
theorem dX10_image_34 : decode cX10_image 34 = .ok (.putfield 469, 3) := by decide +kernel
theorem dX10_image_37 : decode cX10_image 37 = .ok (.aload_n 0, 1) := by decide +kernel
theorem dX10_image_38 : decode cX10_image 38 = .ok (.aload_n 0, 1) := by decide +kernel
theorem dX10_image_39 : decode cX10_image 39 = .ok (.getfield 339, 3) := by decide +kernel
theorem dX10_image_42 : decode cX10_image 42 = .ok (.putfield 472, 3) := by decide +kernel
theorem dX10_image_45 : decode cX10_image 45 = .ok (.aload_n 0, 1) := by decide +kernel
theorem dX10_image_46 : decode cX10_image 46 = .ok (.aload_n 0, 1) := by decide +kernel
theorem dX10_image_47 : decode cX10_image 47 = .ok (.getfield 336, 3) := by decide +kernel
theorem dX10_image_50 : decode cX10_image 50 = .ok (.putfield 475, 3) := by decide +kernel
theorem dX10_image_53 : decode cX10_image 53 = .ok (.iconst 0, 1) := by decide +kernel
theorem dX10_image_54 : decode cX10_image 54 = .ok (.istore_n 1, 1) := by decide +kernel
theorem dX10_image_55 : decode cX10_image 55 = .ok (.iload_n 1, 1) := by decide +kernel
theorem dX10_image_56 : decode cX10_image 56 = .ok (.sipush 540, 3) := by decide +kernel
theorem dX10_image_59 : decode cX10_image 59 = .ok (.if_icmp .ge 25, 3) := by decide +kernel
theorem dX10_image_84 : decode cX10_image 84 = .ok (.iconst 0, 1) := by decide +kernel
theorem dX10_image_85 : decode cX10_image 85 = .ok (.istore_n 1, 1) := by decide +kernel
theorem dX10_image_86 : decode cX10_image 86 = .ok (.iload_n 1, 1) := by decide +kernel
theorem dX10_image_87 : decode cX10_image 87 = .ok (.bipush 8, 2) := by decide +kernel
theorem dX10_image_89 : decode cX10_image 89 = .ok (.if_icmp .ge 54, 3) := by decide +kernel
theorem dX10_image_143 : decode cX10_image 143 = .ok (.iconst 0, 1) := by decide +kernel
theorem dX10_image_144 : decode cX10_image 144 = .ok (.istore_n 1, 1) := by decide +kernel
theorem dX10_image_145 : decode cX10_image 145 = .ok (.iload_n 1, 1) := by decide +kernel
theorem dX10_image_146 : decode cX10_image 146 = .ok (.iconst 3, 1) := by decide +kernel
theorem dX10_image_147 : decode cX10_image 147 = .ok (.if_icmp .ge 23, 3) := by decide +kernel
theorem dX10_image_170 : decode cX10_image 170 = .ok (.aload_n 0, 1) := by decide +kernel
theorem dX10_image_171 : decode cX10_image 171 = .ok (.iconst 1, 1) := by decide +kernel
theorem dX10_image_172 : decode cX10_image 172 = .ok (.putfield 333, 3) := by decide +kernel
theorem dX10_image_175 : decode cX10_image 175 = .ok (.return_, 1) := by decide +kernel
theorem dX10_image_150 : decode cX10_image 150 = .ok (.aload_n 0, 1) := by decide +kernel
theorem dX10_image_151 : decode cX10_image 151 = .ok (.getfield 40, 3) := by decide +kernel
theorem dX10_image_154 : decode cX10_image 154 = .ok (.iconst 3, 1) := by decide +kernel
theorem dX10_image_155 : decode cX10_image 155 = .ok (.iload_n 1, 1) := by decide +kernel
theorem dX10_image_156 : decode cX10_image 156 = .ok (.iadd, 1) := by decide +kernel
theorem dX10_image_157 : decode cX10_image 157 = .ok (.aload_n 0, 1) := by decide +kernel
theorem dX10_image_158 : decode cX10_image 158 = .ok (.getfield 40, 3) := by decide +kernel
theorem dX10_image_161 : decode cX10_image 161 = .ok (.iload_n 1, 1) := by decide +kernel
theorem dX10_image_162 : decode cX10_image 162 = .ok (.iaload, 1) := by decide +kernel
theorem dX10_image_163 : decode cX10_image 163 = .ok (.iastore, 1) := by decide +kernel
theorem dX10_image_164 : decode cX10_image 164 = .ok (.iinc 1 1, 3) := by decide +kernel
theorem dX10_image_167 : decode cX10_image 167 = .ok (.goto (-22), 3) := by decide +kernel
theorem dX10_image_92 : decode cX10_image 92 = .ok (.aload_n 0, 1) := by decide +kernel
theorem dX10_image_93 : decode cX10_image 93 = .ok (.getfield 31, 3) := by decide +kernel
theorem dX10_image_96 : decode cX10_image 96 = .ok (.bipush 8, 2) := by decide +kernel
theorem dX10_image_98 : decode cX10_image 98 = .ok (.iload_n 1, 1) := by decide +kernel
theorem dX10_image_99 : decode cX10_image 99 = .ok (.iadd, 1) := by decide +kernel
theorem dX10_image_100 : decode cX10_image 100 = .ok (.aload_n 0, 1) := by decide +kernel
theorem dX10_image_101 : decode cX10_image 101 = .ok (.getfield 31, 3) := by decide +kernel
theorem dX10_image_104 : decode cX10_image 104 = .ok (.iload_n 1, 1) := by decide +kernel
theorem dX10_image_105 : decode cX10_image 105 = .ok (.iaload, 1) := by decide +kernel
theorem dX10_image_106 : decode cX10_image 106 = .ok (.iastore, 1) := by decide +kernel
theorem dX10_image_107 : decode cX10_image 107 = .ok (.aload_n 0, 1) := by decide +kernel
theorem dX10_image_108 : decode cX10_image 108 = .ok (.getfield 34, 3) := by decide +kernel
theorem dX10_image_111 : decode cX10_image 111 = .ok (.bipush 8, 2) := by decide +kernel
theorem dX10_image_113 : decode cX10_image 113 = .ok (.iload_n 1, 1) := by decide +kernel
theorem dX10_image_114 : decode cX10_image 114 = .ok (.iadd, 1) := by decide +kernel
theorem dX10_image_115 : decode cX10_image 115 = .ok (.aload_n 0, 1) := by decide +kernel
theorem dX10_image_116 : decode cX10_image 116 = .ok (.getfield 34, 3) := by decide +kernel
theorem dX10_image_119 : decode cX10_image 119 = .ok (.iload_n 1, 1) := by decide +kernel
theorem dX10_image_120 : decode cX10_image 120 = .ok (.iaload, 1) := by decide +kernel
theorem dX10_image_121 : decode cX10_image 121 = .ok (.iastore, 1) := by decide +kernel
theorem dX10_image_122 : decode cX10_image 122 = .ok (.aload_n 0, 1) := by decide +kernel
theorem dX10_image_123 : decode cX10_image 123 = .ok (.getfield 37, 3) := by decide +kernel
theorem dX10_image_126 : decode cX10_image 126 = .ok (.bipush 8, 2) := by decide +kernel
theorem dX10_image_128 : decode cX10_image 128 = .ok (.iload_n 1, 1) := by decide +kernel
theorem dX10_image_129 : decode cX10_image 129 = .ok (.iadd, 1) := by decide +kernel
theorem dX10_image_130 : decode cX10_image 130 = .ok (.aload_n 0, 1) := by decide +kernel
theorem dX10_image_131 : decode cX10_image 131 = .ok (.getfield 37, 3) := by decide +kernel
theorem dX10_image_134 : decode cX10_image 134 = .ok (.iload_n 1, 1) := by decide +kernel
theorem dX10_image_135 : decode cX10_image 135 = .ok (.iaload, 1) := by decide +kernel
theorem dX10_image_136 : decode cX10_image 136 = .ok (.iastore, 1) := by decide +kernel
theorem dX10_image_137 : decode cX10_image 137 = .ok (.iinc 1 1, 3) := by decide +kernel
theorem dX10_image_140 : decode cX10_image 140 = .ok (.goto (-54), 3) := by decide +kernel
theorem dX10_image_62 : decode cX10_image 62 = .ok (.aload_n 0, 1) := by decide +kernel
theorem dX10_image_63 : decode cX10_image 63 = .ok (.getfield 43, 3) := by decide +kernel
theorem dX10_image_66 : decode cX10_image 66 = .ok (.sipush 540, 3) := by decide +kernel
theorem dX10_image_69 : decode cX10_image 69 = .ok (.iload_n 1, 1) := by decide +kernel
theorem dX10_image_70 : decode cX10_image 70 = .ok (.iadd, 1) := by decide +kernel
theorem dX10_image_71 : decode cX10_image 71 = .ok (.aload_n 0, 1) := by decide +kernel
theorem dX10_image_72 : decode cX10_image 72 = .ok (.getfield 43, 3) := by decide +kernel
theorem dX10_image_75 : decode cX10_image 75 = .ok (.iload_n 1, 1) := by decide +kernel
theorem dX10_image_76 : decode cX10_image 76 = .ok (.iaload, 1) := by decide +kernel
theorem dX10_image_77 : decode cX10_image 77 = .ok (.iastore, 1) := by decide +kernel
theorem dX10_image_78 : decode cX10_image 78 = .ok (.iinc 1 1, 3) := by decide +kernel
theorem dX10_image_81 : decode cX10_image 81 = .ok (.goto (-26), 3) := by decide +kernel
theorem dX10_restore_0 : decode cX10_restore 0 = .ok (.aload_n 0, 1) := by decide +kernel
theorem dX10_restore_1 : decode cX10_restore 1 = .ok (.iconst 0, 1) := by decide +kernel
theorem dX10_restore_2 : decode cX10_restore 2 = .ok (.putfield 110, 3) := by decide +kernel
theorem dX10_restore_5 : decode cX10_restore 5 = .ok (.aload_n 0, 1) := by decide +kernel
theorem dX10_restore_6 : decode cX10_restore 6 = .ok (.getfield 333, 3) := by decide +kernel
theorem dX10_restore_9 : decode cX10_restore 9 = .ok (.ifCond .ne 5, 3) := by decide +kernel
theorem dX10_restore_14 : decode cX10_restore 14 = .ok (.aload_n 0, 1) := by decide +kernel
theorem dX10_restore_15 : decode cX10_restore 15 = .ok (.sipush 14700, 3) := by decide +kernel
theorem dX10_restore_18 : decode cX10_restore 18 = .ok (.iconst 0, 1) := by decide +kernel
theorem dX10_restore_19 : decode cX10_restore 19 = .ok (.sipush 350, 3) := by decide +kernel
theorem dX10_restore_22 : decode cX10_restore 22 = .ok (.invokevirtual 391, 3) := by decide +kernel
theorem dX10_restore_25 : decode cX10_restore 25 = .ok (.aload_n 0, 1) := by decide +kernel
theorem dX10_restore_26 : decode cX10_restore 26 = .ok (.sipush 15050, 3) := by decide +kernel
theorem dX10_restore_29 : decode cX10_restore 29 = .ok (.sipush 700, 3) := by decide +kernel
theorem dX10_restore_32 : decode cX10_restore 32 = .ok (.sipush 14000, 3) := by decide +kernel
theorem dX10_restore_35 : decode cX10_restore 35 = .ok (.invokevirtual 391, 3) := by decide +kernel
theorem dX10_restore_38 : decode cX10_restore 38 = .ok (.aload_n 0, 1) := by decide +kernel
theorem dX10_restore_39 : decode cX10_restore 39 = .ok (.aload_n 0, 1) := by decide +kernel
theorem dX10_restore_40 : decode cX10_restore 40 = .ok (.getfield 469, 3) := by decide +kernel
theorem dX10_restore_43 : decode cX10_restore 43 = .ok (.putfield 342, 3) := by decide +kernel
theorem dX10_restore_46 : decode cX10_restore 46 = .ok (.aload_n 0, 1) := by decide +kernel
theorem dX10_restore_47 : decode cX10_restore 47 = .ok (.aload_n 0, 1) := by decide +kernel
theorem dX10_restore_48 : decode cX10_restore 48 = .ok (.getfield 472, 3) := by decide +kernel
theorem dX10_restore_51 : decode cX10_restore 51 = .ok (.putfield 339, 3) := by decide +kernel
theorem dX10_restore_54 : decode cX10_restore 54 = .ok (.aload_n 0, 1) := by decide +kernel
theorem dX10_restore_55 : decode cX10_restore 55 = .ok (.aload_n 0, 1) := by decide +kernel
theorem dX10_restore_56 : decode cX10_restore 56 = .ok (.getfield 475, 3) := by decide +kernel
theorem dX10_restore_59 : decode cX10_restore 59 = .ok (.putfield 336, 3) := by decide +kernel
theorem dX10_restore_62 : decode cX10_restore 62 = .ok (.iconst 0, 1) := by decide +kernel
theorem dX10_restore_63 : decode cX10_restore 63 = .ok (.istore_n 1, 1) := by decide +kernel
theorem dX10_restore_64 : decode cX10_restore 64 = .ok (.iload_n 1, 1) := by decide +kernel
theorem dX10_restore_65 : decode cX10_restore 65 = .ok (.sipush 540, 3) := by decide +kernel
theorem dX10_restore_68 : decode cX10_restore 68 = .ok (.if_icmp .ge 25, 3) := by decide +kernel
theorem dX10_restore_93 : decode cX10_restore 93 = .ok (.iconst 0, 1) := by decide +kernel
theorem dX10_restore_94 : decode cX10_restore 94 = .ok (.istore_n 1, 1) := by decide +kernel
theorem dX10_restore_95 : decode cX10_restore 95 = .ok (.iload_n 1, 1) := by decide +kernel
theorem dX10_restore_96 : decode cX10_restore 96 = .ok (.bipush 8, 2) := by decide +kernel
theorem dX10_restore_98 : decode cX10_restore 98 = .ok (.if_icmp .ge 54, 3) := by decide +kernel
theorem dX10_restore_152 : decode cX10_restore 152 = .ok (.iconst 0, 1) := by decide +kernel
theorem dX10_restore_153 : decode cX10_restore 153 = .ok (.istore_n 1, 1) := by decide +kernel
theorem dX10_restore_154 : decode cX10_restore 154 = .ok (.iload_n 1, 1) := by decide +kernel
theorem dX10_restore_155 : decode cX10_restore 155 = .ok (.iconst 3, 1) := by decide +kernel
theorem dX10_restore_156 : decode cX10_restore 156 = .ok (.if_icmp .ge 23, 3) := by decide +kernel
theorem dX10_restore_179 : decode cX10_restore 179 = .ok (.iconst 1, 1) := by decide +kernel
theorem dX10_restore_180 : decode cX10_restore 180 = .ok (.ireturn, 1) := by decide +kernel
theorem dX10_restore_159 : decode cX10_restore 159 = .ok (.aload_n 0, 1) := by decide +kernel
theorem dX10_restore_160 : decode cX10_restore 160 = .ok (.getfield 40, 3) := by decide +kernel
theorem dX10_restore_163 : decode cX10_restore 163 = .ok (.iload_n 1, 1) := by decide +kernel
theorem dX10_restore_164 : decode cX10_restore 164 = .ok (.aload_n 0, 1) := by decide +kernel
theorem dX10_restore_165 : decode cX10_restore 165 = .ok (.getfield 40, 3) := by decide +kernel
theorem dX10_restore_168 : decode cX10_restore 168 = .ok (.iconst 3, 1) := by decide +kernel
theorem dX10_restore_169 : decode cX10_restore 169 = .ok (.iload_n 1, 1) := by decide +kernel
theorem dX10_restore_170 : decode cX10_restore 170 = .ok (.iadd, 1) := by decide +kernel
theorem dX10_restore_171 : decode cX10_restore 171 = .ok (.iaload, 1) := by decide +kernel
theorem dX10_restore_172 : decode cX10_restore 172 = .ok (.iastore, 1) := by decide +kernel
theorem dX10_restore_173 : decode cX10_restore 173 = .ok (.iinc 1 1, 3) := by decide +kernel
theorem dX10_restore_176 : decode cX10_restore 176 = .ok (.goto (-22), 3) := by decide +kernel
theorem dX10_restore_101 : decode cX10_restore 101 = .ok (.aload_n 0, 1) := by decide +kernel
theorem dX10_restore_102 : decode cX10_restore 102 = .ok (.getfield 31, 3) := by decide +kernel
theorem dX10_restore_105 : decode cX10_restore 105 = .ok (.iload_n 1, 1) := by decide +kernel
theorem dX10_restore_106 : decode cX10_restore 106 = .ok (.aload_n 0, 1) := by decide +kernel
theorem dX10_restore_107 : decode cX10_restore 107 = .ok (.getfield 31, 3) := by decide +kernel
theorem dX10_restore_110 : decode cX10_restore 110 = .ok (.bipush 8, 2) := by decide +kernel
theorem dX10_restore_112 : decode cX10_restore 112 = .ok (.iload_n 1, 1) := by decide +kernel
theorem dX10_restore_113 : decode cX10_restore 113 = .ok (.iadd, 1) := by decide +kernel
theorem dX10_restore_114 : decode cX10_restore 114 = .ok (.iaload, 1) := by decide +kernel
theorem dX10_restore_115 : decode cX10_restore 115 = .ok (.iastore, 1) := by decide +kernel
theorem dX10_restore_116 : decode cX10_restore 116 = .ok (.aload_n 0, 1) := by decide +kernel
theorem dX10_restore_117 : decode cX10_restore 117 = .ok (.getfield 34, 3) := by decide +kernel
theorem dX10_restore_120 : decode cX10_restore 120 = .ok (.iload_n 1, 1) := by decide +kernel
theorem dX10_restore_121 : decode cX10_restore 121 = .ok (.aload_n 0, 1) := by decide +kernel
theorem dX10_restore_122 : decode cX10_restore 122 = .ok (.getfield 34, 3) := by decide +kernel
theorem dX10_restore_125 : decode cX10_restore 125 = .ok (.bipush 8, 2) := by decide +kernel
theorem dX10_restore_127 : decode cX10_restore 127 = .ok (.iload_n 1, 1) := by decide +kernel
theorem dX10_restore_128 : decode cX10_restore 128 = .ok (.iadd, 1) := by decide +kernel
theorem dX10_restore_129 : decode cX10_restore 129 = .ok (.iaload, 1) := by decide +kernel
theorem dX10_restore_130 : decode cX10_restore 130 = .ok (.iastore, 1) := by decide +kernel
theorem dX10_restore_131 : decode cX10_restore 131 = .ok (.aload_n 0, 1) := by decide +kernel
theorem dX10_restore_132 : decode cX10_restore 132 = .ok (.getfield 37, 3) := by decide +kernel
theorem dX10_restore_135 : decode cX10_restore 135 = .ok (.iload_n 1, 1) := by decide +kernel
theorem dX10_restore_136 : decode cX10_restore 136 = .ok (.aload_n 0, 1) := by decide +kernel
theorem dX10_restore_137 : decode cX10_restore 137 = .ok (.getfield 37, 3) := by decide +kernel
theorem dX10_restore_140 : decode cX10_restore 140 = .ok (.bipush 8, 2) := by decide +kernel
theorem dX10_restore_142 : decode cX10_restore 142 = .ok (.iload_n 1, 1) := by decide +kernel
theorem dX10_restore_143 : decode cX10_restore 143 = .ok (.iadd, 1) := by decide +kernel
theorem dX10_restore_144 : decode cX10_restore 144 = .ok (.iaload, 1) := by decide +kernel
theorem dX10_restore_145 : decode cX10_restore 145 = .ok (.iastore, 1) := by decide +kernel
theorem dX10_restore_146 : decode cX10_restore 146 = .ok (.iinc 1 1, 3) := by decide +kernel
theorem dX10_restore_149 : decode cX10_restore 149 = .ok (.goto (-54), 3) := by decide +kernel
theorem dX10_restore_71 : decode cX10_restore 71 = .ok (.aload_n 0, 1) := by decide +kernel
theorem dX10_restore_72 : decode cX10_restore 72 = .ok (.getfield 43, 3) := by decide +kernel
theorem dX10_restore_75 : decode cX10_restore 75 = .ok (.iload_n 1, 1) := by decide +kernel
theorem dX10_restore_76 : decode cX10_restore 76 = .ok (.aload_n 0, 1) := by decide +kernel
theorem dX10_restore_77 : decode cX10_restore 77 = .ok (.getfield 43, 3) := by decide +kernel
theorem dX10_restore_80 : decode cX10_restore 80 = .ok (.sipush 540, 3) := by decide +kernel
theorem dX10_restore_83 : decode cX10_restore 83 = .ok (.iload_n 1, 1) := by decide +kernel
theorem dX10_restore_84 : decode cX10_restore 84 = .ok (.iadd, 1) := by decide +kernel
theorem dX10_restore_85 : decode cX10_restore 85 = .ok (.iaload, 1) := by decide +kernel
theorem dX10_restore_86 : decode cX10_restore 86 = .ok (.iastore, 1) := by decide +kernel
theorem dX10_restore_87 : decode cX10_restore 87 = .ok (.iinc 1 1, 3) := by decide +kernel
theorem dX10_restore_90 : decode cX10_restore 90 = .ok (.goto (-26), 3) := by decide +kernel
theorem dX10_restore_12 : decode cX10_restore 12 = .ok (.iconst 0, 1) := by decide +kernel
theorem dX10_restore_13 : decode cX10_restore 13 = .ok (.ireturn, 1) := by decide +kernel
