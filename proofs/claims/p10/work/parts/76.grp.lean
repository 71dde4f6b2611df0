section
-- 76.dec.lean.txt
-- decode rows of refp
theorem dX10_freezes_0 : decode cX10_freezes 0 = .ok (.aload_n 0, 1) := by decide +kernel
theorem dX10_freezes_1 : decode cX10_freezes 1 = .ok (.getfield 9, 3) := by decide +kernel
theorem dX10_freezes_4 : decode cX10_freezes 4 = .ok (.iload_n 1, 1) := by decide +kernel
theorem dX10_freezes_5 : decode cX10_freezes 5 = .ok (.iconst 2, 1) := by decide +kernel
theorem dX10_freezes_6 : decode cX10_freezes 6 = .ok (.iadd, 1) := by decide +kernel
theorem dX10_freezes_7 : decode cX10_freezes 7 = .ok (.iaload, 1) := by decide +kernel
theorem dX10_freezes_8 : decode cX10_freezes 8 = .ok (.aload_n 0, 1) := by decide +kernel
theorem dX10_freezes_9 : decode cX10_freezes 9 = .ok (.getfield 9, 3) := by decide +kernel
theorem dX10_freezes_12 : decode cX10_freezes 12 = .ok (.iload_n 1, 1) := by decide +kernel
theorem dX10_freezes_13 : decode cX10_freezes 13 = .ok (.iconst 1, 1) := by decide +kernel
theorem dX10_freezes_14 : decode cX10_freezes 14 = .ok (.iadd, 1) := by decide +kernel
theorem dX10_freezes_15 : decode cX10_freezes 15 = .ok (.iaload, 1) := by decide +kernel
theorem dX10_freezes_16 : decode cX10_freezes 16 = .ok (.aload_n 0, 1) := by decide +kernel
theorem dX10_freezes_17 : decode cX10_freezes 17 = .ok (.getfield 9, 3) := by decide +kernel
theorem dX10_freezes_20 : decode cX10_freezes 20 = .ok (.iload_n 1, 1) := by decide +kernel
theorem dX10_freezes_21 : decode cX10_freezes 21 = .ok (.iconst 4, 1) := by decide +kernel
theorem dX10_freezes_22 : decode cX10_freezes 22 = .ok (.iadd, 1) := by decide +kernel
theorem dX10_freezes_23 : decode cX10_freezes 23 = .ok (.iaload, 1) := by decide +kernel
theorem dX10_freezes_24 : decode cX10_freezes 24 = .ok (.ineg, 1) := by decide +kernel
theorem dX10_freezes_25 : decode cX10_freezes 25 = .ok (.imul, 1) := by decide +kernel
theorem dX10_freezes_26 : decode cX10_freezes 26 = .ok (.bipush 100, 2) := by decide +kernel
theorem dX10_freezes_28 : decode cX10_freezes 28 = .ok (.idiv, 1) := by decide +kernel
theorem dX10_freezes_29 : decode cX10_freezes 29 = .ok (.invokestatic 143, 3) := by decide +kernel
theorem dX10_freezes_32 : decode cX10_freezes 32 = .ok (.istore_n 2, 1) := by decide +kernel
theorem dX10_freezes_33 : decode cX10_freezes 33 = .ok (.aload_n 0, 1) := by decide +kernel
theorem dX10_freezes_34 : decode cX10_freezes 34 = .ok (.getfield 9, 3) := by decide +kernel
theorem dX10_freezes_37 : decode cX10_freezes 37 = .ok (.iload_n 1, 1) := by decide +kernel
theorem dX10_freezes_38 : decode cX10_freezes 38 = .ok (.iconst 4, 1) := by decide +kernel
theorem dX10_freezes_39 : decode cX10_freezes 39 = .ok (.iadd, 1) := by decide +kernel
theorem dX10_freezes_40 : decode cX10_freezes 40 = .ok (.aload_n 0, 1) := by decide +kernel
theorem dX10_freezes_41 : decode cX10_freezes 41 = .ok (.getfield 9, 3) := by decide +kernel
theorem dX10_freezes_44 : decode cX10_freezes 44 = .ok (.iload_n 1, 1) := by decide +kernel
theorem dX10_freezes_45 : decode cX10_freezes 45 = .ok (.iconst 2, 1) := by decide +kernel
theorem dX10_freezes_46 : decode cX10_freezes 46 = .ok (.iadd, 1) := by decide +kernel
theorem dX10_freezes_47 : decode cX10_freezes 47 = .ok (.iaload, 1) := by decide +kernel
theorem dX10_freezes_48 : decode cX10_freezes 48 = .ok (.iload_n 2, 1) := by decide +kernel
theorem dX10_freezes_49 : decode cX10_freezes 49 = .ok (.if_icmp .le 7, 3) := by decide +kernel
theorem dX10_freezes_56 : decode cX10_freezes 56 = .ok (.iconst 0, 1) := by decide +kernel
theorem dX10_freezes_57 : decode cX10_freezes 57 = .ok (.aload_n 0, 1) := by decide +kernel
theorem dX10_freezes_58 : decode cX10_freezes 58 = .ok (.getfield 9, 3) := by decide +kernel
theorem dX10_freezes_61 : decode cX10_freezes 61 = .ok (.iload_n 1, 1) := by decide +kernel
theorem dX10_freezes_62 : decode cX10_freezes 62 = .ok (.iconst 4, 1) := by decide +kernel
theorem dX10_freezes_63 : decode cX10_freezes 63 = .ok (.iadd, 1) := by decide +kernel
theorem dX10_freezes_64 : decode cX10_freezes 64 = .ok (.iaload, 1) := by decide +kernel
theorem dX10_freezes_65 : decode cX10_freezes 65 = .ok (.bipush 100, 2) := by decide +kernel
theorem dX10_freezes_67 : decode cX10_freezes 67 = .ok (.iload_n 2, 1) := by decide +kernel
theorem dX10_freezes_68 : decode cX10_freezes 68 = .ok (.imul, 1) := by decide +kernel
theorem dX10_freezes_69 : decode cX10_freezes 69 = .ok (.aload_n 0, 1) := by decide +kernel
theorem dX10_freezes_70 : decode cX10_freezes 70 = .ok (.getfield 9, 3) := by decide +kernel
theorem dX10_freezes_73 : decode cX10_freezes 73 = .ok (.iload_n 1, 1) := by decide +kernel
theorem dX10_freezes_74 : decode cX10_freezes 74 = .ok (.iconst 1, 1) := by decide +kernel
theorem dX10_freezes_75 : decode cX10_freezes 75 = .ok (.iadd, 1) := by decide +kernel
theorem dX10_freezes_76 : decode cX10_freezes 76 = .ok (.iaload, 1) := by decide +kernel
theorem dX10_freezes_77 : decode cX10_freezes 77 = .ok (.idiv, 1) := by decide +kernel
theorem dX10_freezes_78 : decode cX10_freezes 78 = .ok (.iadd, 1) := by decide +kernel
theorem dX10_freezes_79 : decode cX10_freezes 79 = .ok (.invokestatic 143, 3) := by decide +kernel
theorem dX10_freezes_82 : decode cX10_freezes 82 = .ok (.iastore, 1) := by decide +kernel
theorem dX10_freezes_83 : decode cX10_freezes 83 = .ok (.aload_n 0, 1) := by decide +kernel
theorem dX10_freezes_84 : decode cX10_freezes 84 = .ok (.getfield 9, 3) := by decide +kernel
theorem dX10_freezes_87 : decode cX10_freezes 87 = .ok (.iload_n 1, 1) := by decide +kernel
theorem dX10_freezes_88 : decode cX10_freezes 88 = .ok (.iconst 1, 1) := by decide +kernel
theorem dX10_freezes_89 : decode cX10_freezes 89 = .ok (.iadd, 1) := by decide +kernel
theorem dX10_freezes_90 : decode cX10_freezes 90 = .ok (.dup2, 1) := by decide +kernel
theorem dX10_freezes_91 : decode cX10_freezes 91 = .ok (.iaload, 1) := by decide +kernel
theorem dX10_freezes_92 : decode cX10_freezes 92 = .ok (.iload_n 2, 1) := by decide +kernel
theorem dX10_freezes_93 : decode cX10_freezes 93 = .ok (.iadd, 1) := by decide +kernel
theorem dX10_freezes_94 : decode cX10_freezes 94 = .ok (.iastore, 1) := by decide +kernel
theorem dX10_freezes_95 : decode cX10_freezes 95 = .ok (.aload_n 0, 1) := by decide +kernel
theorem dX10_freezes_96 : decode cX10_freezes 96 = .ok (.getfield 9, 3) := by decide +kernel
theorem dX10_freezes_99 : decode cX10_freezes 99 = .ok (.iload_n 1, 1) := by decide +kernel
theorem dX10_freezes_100 : decode cX10_freezes 100 = .ok (.iconst 2, 1) := by decide +kernel
theorem dX10_freezes_101 : decode cX10_freezes 101 = .ok (.iadd, 1) := by decide +kernel
theorem dX10_freezes_102 : decode cX10_freezes 102 = .ok (.dup2, 1) := by decide +kernel
theorem dX10_freezes_103 : decode cX10_freezes 103 = .ok (.iaload, 1) := by decide +kernel
theorem dX10_freezes_104 : decode cX10_freezes 104 = .ok (.iload_n 2, 1) := by decide +kernel
theorem dX10_freezes_105 : decode cX10_freezes 105 = .ok (.isub, 1) := by decide +kernel
theorem dX10_freezes_106 : decode cX10_freezes 106 = .ok (.iastore, 1) := by decide +kernel
theorem dX10_freezes_107 : decode cX10_freezes 107 = .ok (.iload_n 2, 1) := by decide +kernel
theorem dX10_freezes_108 : decode cX10_freezes 108 = .ok (.ifCond .le 12, 3) := by decide +kernel
theorem dX10_freezes_120 : decode cX10_freezes 120 = .ok (.return_, 1) := by decide +kernel
theorem dX10_freezes_111 : decode cX10_freezes 111 = .ok (.aload_n 0, 1) := by decide +kernel
theorem dX10_freezes_112 : decode cX10_freezes 112 = .ok (.getfield 9, 3) := by decide +kernel
theorem dX10_freezes_115 : decode cX10_freezes 115 = .ok (.iload_n 1, 1) := by decide +kernel
theorem dX10_freezes_116 : decode cX10_freezes 116 = .ok (.iconst 0, 1) := by decide +kernel
theorem dX10_freezes_117 : decode cX10_freezes 117 = .ok (.iadd, 1) := by decide +kernel
theorem dX10_freezes_118 : decode cX10_freezes 118 = .ok (.iconst 3, 1) := by decide +kernel
theorem dX10_freezes_119 : decode cX10_freezes 119 = .ok (.iastore, 1) := by decide +kernel
theorem dX10_freezes_52 : decode cX10_freezes 52 = .ok (.iconst 0, 1) := by decide +kernel
theorem dX10_freezes_53 : decode cX10_freezes 53 = .ok (.goto 29, 3) := by decide +kernel
theorem dX10_sinks_9 : decode cX10_sinks 9 = .ok (.iload_n 3, 1) := by decide +kernel
theorem dX10_sinks_10 : decode cX10_sinks 10 = .ok (.ifCond .lt 145, 3) := by decide +kernel
theorem dX10_sinks_155 : decode cX10_sinks 155 = .ok (.return_, 1) := by decide +kernel
theorem dX10_sinks_13 : decode cX10_sinks 13 = .ok (.iload_n 1, 1) := by decide +kernel
theorem dX10_sinks_14 : decode cX10_sinks 14 = .ok (.iload_n 2, 1) := by decide +kernel
theorem dX10_sinks_15 : decode cX10_sinks 15 = .ok (.iload_n 3, 1) := by decide +kernel
theorem dX10_sinks_16 : decode cX10_sinks 16 = .ok (.invokestatic 113, 3) := by decide +kernel
theorem dX10_sinks_19 : decode cX10_sinks 19 = .ok (.istore 4, 2) := by decide +kernel
theorem dX10_sinks_21 : decode cX10_sinks 21 = .ok (.aload_n 0, 1) := by decide +kernel
theorem dX10_sinks_22 : decode cX10_sinks 22 = .ok (.getfield 9, 3) := by decide +kernel
theorem dX10_sinks_25 : decode cX10_sinks 25 = .ok (.iload 4, 2) := by decide +kernel
theorem dX10_sinks_27 : decode cX10_sinks 27 = .ok (.iconst 2, 1) := by decide +kernel
theorem dX10_sinks_28 : decode cX10_sinks 28 = .ok (.iadd, 1) := by decide +kernel
theorem dX10_sinks_29 : decode cX10_sinks 29 = .ok (.iaload, 1) := by decide +kernel
theorem dX10_sinks_30 : decode cX10_sinks 30 = .ok (.ifCond .le 21, 3) := by decide +kernel
theorem dX10_sinks_51 : decode cX10_sinks 51 = .ok (.aload_n 0, 1) := by decide +kernel
theorem dX10_sinks_52 : decode cX10_sinks 52 = .ok (.getfield 9, 3) := by decide +kernel
theorem dX10_sinks_55 : decode cX10_sinks 55 = .ok (.iload 4, 2) := by decide +kernel
theorem dX10_sinks_57 : decode cX10_sinks 57 = .ok (.iconst 2, 1) := by decide +kernel
theorem dX10_sinks_58 : decode cX10_sinks 58 = .ok (.iadd, 1) := by decide +kernel
theorem dX10_sinks_59 : decode cX10_sinks 59 = .ok (.iaload, 1) := by decide +kernel
theorem dX10_sinks_60 : decode cX10_sinks 60 = .ok (.aload_n 0, 1) := by decide +kernel
theorem dX10_sinks_61 : decode cX10_sinks 61 = .ok (.getfield 9, 3) := by decide +kernel
theorem dX10_sinks_64 : decode cX10_sinks 64 = .ok (.iload 4, 2) := by decide +kernel
theorem dX10_sinks_66 : decode cX10_sinks 66 = .ok (.iconst 1, 1) := by decide +kernel
theorem dX10_sinks_67 : decode cX10_sinks 67 = .ok (.iadd, 1) := by decide +kernel
theorem dX10_sinks_68 : decode cX10_sinks 68 = .ok (.iaload, 1) := by decide +kernel
theorem dX10_sinks_69 : decode cX10_sinks 69 = .ok (.aload_n 0, 1) := by decide +kernel
theorem dX10_sinks_70 : decode cX10_sinks 70 = .ok (.getfield 28, 3) := by decide +kernel
theorem dX10_sinks_73 : decode cX10_sinks 73 = .ok (.iconst 5, 1) := by decide +kernel
theorem dX10_sinks_74 : decode cX10_sinks 74 = .ok (.aload_n 0, 1) := by decide +kernel
theorem dX10_sinks_75 : decode cX10_sinks 75 = .ok (.getfield 9, 3) := by decide +kernel
theorem dX10_sinks_78 : decode cX10_sinks 78 = .ok (.iload 4, 2) := by decide +kernel
theorem dX10_sinks_80 : decode cX10_sinks 80 = .ok (.iconst 0, 1) := by decide +kernel
theorem dX10_sinks_81 : decode cX10_sinks 81 = .ok (.iadd, 1) := by decide +kernel
theorem dX10_sinks_82 : decode cX10_sinks 82 = .ok (.iaload, 1) := by decide +kernel
theorem dX10_sinks_83 : decode cX10_sinks 83 = .ok (.iadd, 1) := by decide +kernel
theorem dX10_sinks_84 : decode cX10_sinks 84 = .ok (.iaload, 1) := by decide +kernel
theorem dX10_sinks_85 : decode cX10_sinks 85 = .ok (.imul, 1) := by decide +kernel
theorem dX10_sinks_86 : decode cX10_sinks 86 = .ok (.bipush 100, 2) := by decide +kernel
theorem dX10_sinks_88 : decode cX10_sinks 88 = .ok (.idiv, 1) := by decide +kernel
theorem dX10_sinks_89 : decode cX10_sinks 89 = .ok (.isub, 1) := by decide +kernel
theorem dX10_sinks_90 : decode cX10_sinks 90 = .ok (.istore 5, 2) := by decide +kernel
theorem dX10_sinks_92 : decode cX10_sinks 92 = .ok (.iload 5, 2) := by decide +kernel
theorem dX10_sinks_94 : decode cX10_sinks 94 = .ok (.ifCond .gt 6, 3) := by decide +kernel
theorem dX10_sinks_100 : decode cX10_sinks 100 = .ok (.aload_n 0, 1) := by decide +kernel
theorem dX10_sinks_101 : decode cX10_sinks 101 = .ok (.getfield 9, 3) := by decide +kernel
theorem dX10_sinks_104 : decode cX10_sinks 104 = .ok (.iload 4, 2) := by decide +kernel
theorem dX10_sinks_106 : decode cX10_sinks 106 = .ok (.iconst 2, 1) := by decide +kernel
theorem dX10_sinks_107 : decode cX10_sinks 107 = .ok (.iadd, 1) := by decide +kernel
theorem dX10_sinks_108 : decode cX10_sinks 108 = .ok (.dup2, 1) := by decide +kernel
theorem dX10_sinks_109 : decode cX10_sinks 109 = .ok (.iaload, 1) := by decide +kernel
theorem dX10_sinks_110 : decode cX10_sinks 110 = .ok (.iload 5, 2) := by decide +kernel
theorem dX10_sinks_112 : decode cX10_sinks 112 = .ok (.isub, 1) := by decide +kernel
theorem dX10_sinks_113 : decode cX10_sinks 113 = .ok (.iastore, 1) := by decide +kernel
theorem dX10_sinks_114 : decode cX10_sinks 114 = .ok (.iload_n 3, 1) := by decide +kernel
theorem dX10_sinks_115 : decode cX10_sinks 115 = .ok (.ifCond .ne 14, 3) := by decide +kernel
theorem dX10_sinks_129 : decode cX10_sinks 129 = .ok (.aload_n 0, 1) := by decide +kernel
theorem dX10_sinks_130 : decode cX10_sinks 130 = .ok (.getfield 9, 3) := by decide +kernel
theorem dX10_sinks_133 : decode cX10_sinks 133 = .ok (.iload_n 1, 1) := by decide +kernel
theorem dX10_sinks_134 : decode cX10_sinks 134 = .ok (.iload_n 2, 1) := by decide +kernel
theorem dX10_sinks_135 : decode cX10_sinks 135 = .ok (.iload_n 3, 1) := by decide +kernel
theorem dX10_sinks_136 : decode cX10_sinks 136 = .ok (.iconst 1, 1) := by decide +kernel
theorem dX10_sinks_137 : decode cX10_sinks 137 = .ok (.isub, 1) := by decide +kernel
theorem dX10_sinks_138 : decode cX10_sinks 138 = .ok (.invokestatic 113, 3) := by decide +kernel
theorem dX10_sinks_141 : decode cX10_sinks 141 = .ok (.iconst 2, 1) := by decide +kernel
theorem dX10_sinks_142 : decode cX10_sinks 142 = .ok (.iadd, 1) := by decide +kernel
theorem dX10_sinks_143 : decode cX10_sinks 143 = .ok (.dup2, 1) := by decide +kernel
theorem dX10_sinks_144 : decode cX10_sinks 144 = .ok (.iaload, 1) := by decide +kernel
theorem dX10_sinks_145 : decode cX10_sinks 145 = .ok (.iload 5, 2) := by decide +kernel
theorem dX10_sinks_147 : decode cX10_sinks 147 = .ok (.iadd, 1) := by decide +kernel
theorem dX10_sinks_148 : decode cX10_sinks 148 = .ok (.iastore, 1) := by decide +kernel
theorem dX10_sinks_149 : decode cX10_sinks 149 = .ok (.iinc 3 (-1), 3) := by decide +kernel
theorem dX10_sinks_152 : decode cX10_sinks 152 = .ok (.goto (-143), 3) := by decide +kernel
theorem dX10_sinks_118 : decode cX10_sinks 118 = .ok (.aload_n 0, 1) := by decide +kernel
theorem dX10_sinks_119 : decode cX10_sinks 119 = .ok (.iload_n 1, 1) := by decide +kernel
theorem dX10_sinks_120 : decode cX10_sinks 120 = .ok (.iload_n 2, 1) := by decide +kernel
theorem dX10_sinks_121 : decode cX10_sinks 121 = .ok (.iload 5, 2) := by decide +kernel
theorem dX10_sinks_123 : decode cX10_sinks 123 = .ok (.invokevirtual 150, 3) := by decide +kernel
theorem dX10_sinks_126 : decode cX10_sinks 126 = .ok (.goto 23, 3) := by decide +kernel
theorem dX10_sinks_97 : decode cX10_sinks 97 = .ok (.goto 52, 3) := by decide +kernel
theorem dX10_sinks_33 : decode cX10_sinks 33 = .ok (.aload_n 0, 1) := by decide +kernel
theorem dX10_sinks_34 : decode cX10_sinks 34 = .ok (.getfield 9, 3) := by decide +kernel
theorem dX10_sinks_37 : decode cX10_sinks 37 = .ok (.iload 4, 2) := by decide +kernel
theorem dX10_sinks_39 : decode cX10_sinks 39 = .ok (.iconst 4, 1) := by decide +kernel
theorem dX10_sinks_40 : decode cX10_sinks 40 = .ok (.iadd, 1) := by decide +kernel
theorem dX10_sinks_41 : decode cX10_sinks 41 = .ok (.iaload, 1) := by decide +kernel
theorem dX10_sinks_42 : decode cX10_sinks 42 = .ok (.ifCond .ge 9, 3) := by decide +kernel
theorem dX10_sinks_45 : decode cX10_sinks 45 = .ok (.aload_n 0, 1) := by decide +kernel
theorem dX10_sinks_46 : decode cX10_sinks 46 = .ok (.iload 4, 2) := by decide +kernel
theorem dX10_sinks_48 : decode cX10_sinks 48 = .ok (.invokevirtual 176, 3) := by decide +kernel
theorem dX10_sinks_0 : decode cX10_sinks 0 = .ok (.aload_n 0, 1) := by decide +kernel
theorem dX10_sinks_1 : decode cX10_sinks 1 = .ok (.iload_n 1, 1) := by decide +kernel
theorem dX10_sinks_2 : decode cX10_sinks 2 = .ok (.iload_n 2, 1) := by decide +kernel
theorem dX10_sinks_3 : decode cX10_sinks 3 = .ok (.invokevirtual 121, 3) := by decide +kernel
theorem dX10_sinks_6 : decode cX10_sinks 6 = .ok (.iconst 1, 1) := by decide +kernel
theorem dX10_sinks_7 : decode cX10_sinks 7 = .ok (.isub, 1) := by decide +kernel
theorem dX10_sinks_8 : decode cX10_sinks 8 = .ok (.istore_n 3, 1) := by decide +kernel
theorem dX10_load_0 : decode cX10_load 0 = .ok (.aload_n 0, 1) := by decide +kernel
theorem dX10_load_1 : decode cX10_load 1 = .ok (.iload_n 1, 1) := by decide +kernel
theorem dX10_load_2 : decode cX10_load 2 = .ok (.iload_n 2, 1) := by decide +kernel
theorem dX10_load_3 : decode cX10_load 3 = .ok (.iload_n 3, 1) := by decide +kernel
theorem dX10_load_4 : decode cX10_load 4 = .ok (.invokevirtual 180, 3) := by decide +kernel
theorem dX10_load_7 : decode cX10_load 7 = .ok (.aload_n 0, 1) := by decide +kernel
theorem dX10_load_8 : decode cX10_load 8 = .ok (.iload_n 1, 1) := by decide +kernel
theorem dX10_load_9 : decode cX10_load 9 = .ok (.iload_n 2, 1) := by decide +kernel
theorem dX10_load_10 : decode cX10_load 10 = .ok (.iload_n 3, 1) := by decide +kernel
theorem dX10_load_11 : decode cX10_load 11 = .ok (.invokevirtual 125, 3) := by decide +kernel
theorem dX10_load_14 : decode cX10_load 14 = .ok (.iconst 2, 1) := by decide +kernel
theorem dX10_load_15 : decode cX10_load 15 = .ok (.idiv, 1) := by decide +kernel
theorem dX10_load_16 : decode cX10_load 16 = .ok (.iadd, 1) := by decide +kernel
theorem dX10_load_17 : decode cX10_load 17 = .ok (.ireturn, 1) := by decide +kernel
theorem dX10_presses_2 : decode cX10_presses 2 = .ok (.iload_n 3, 1) := by decide +kernel
theorem dX10_presses_3 : decode cX10_presses 3 = .ok (.aload_n 0, 1) := by decide +kernel
theorem dX10_presses_4 : decode cX10_presses 4 = .ok (.iload_n 1, 1) := by decide +kernel
theorem dX10_presses_5 : decode cX10_presses 5 = .ok (.iload_n 2, 1) := by decide +kernel
theorem dX10_presses_6 : decode cX10_presses 6 = .ok (.invokevirtual 121, 3) := by decide +kernel
theorem dX10_presses_9 : decode cX10_presses 9 = .ok (.if_icmp .ge 93, 3) := by decide +kernel
theorem dX10_presses_102 : decode cX10_presses 102 = .ok (.return_, 1) := by decide +kernel
theorem dX10_presses_12 : decode cX10_presses 12 = .ok (.aload_n 0, 1) := by decide +kernel
theorem dX10_presses_13 : decode cX10_presses 13 = .ok (.iload_n 1, 1) := by decide +kernel
theorem dX10_presses_14 : decode cX10_presses 14 = .ok (.iload_n 2, 1) := by decide +kernel
theorem dX10_presses_15 : decode cX10_presses 15 = .ok (.iload_n 3, 1) := by decide +kernel
theorem dX10_presses_16 : decode cX10_presses 16 = .ok (.iconst 3, 1) := by decide +kernel
theorem dX10_presses_17 : decode cX10_presses 17 = .ok (.invokevirtual 117, 3) := by decide +kernel
theorem dX10_presses_20 : decode cX10_presses 20 = .ok (.istore 4, 2) := by decide +kernel
theorem dX10_presses_22 : decode cX10_presses 22 = .ok (.iload 4, 2) := by decide +kernel
theorem dX10_presses_24 : decode cX10_presses 24 = .ok (.i2l, 1) := by decide +kernel
theorem dX10_presses_25 : decode cX10_presses 25 = .ok (.aload_n 0, 1) := by decide +kernel
theorem dX10_presses_26 : decode cX10_presses 26 = .ok (.iload_n 1, 1) := by decide +kernel
theorem dX10_presses_27 : decode cX10_presses 27 = .ok (.iload_n 2, 1) := by decide +kernel
theorem dX10_presses_28 : decode cX10_presses 28 = .ok (.iload_n 3, 1) := by decide +kernel
theorem dX10_presses_29 : decode cX10_presses 29 = .ok (.invokevirtual 183, 3) := by decide +kernel
theorem dX10_presses_32 : decode cX10_presses 32 = .ok (.i2l, 1) := by decide +kernel
theorem dX10_presses_33 : decode cX10_presses 33 = .ok (.lmul, 1) := by decide +kernel
theorem dX10_presses_34 : decode cX10_presses 34 = .ok (.aload_n 0, 1) := by decide +kernel
theorem dX10_presses_35 : decode cX10_presses 35 = .ok (.getfield 28, 3) := by decide +kernel
theorem dX10_presses_38 : decode cX10_presses 38 = .ok (.bipush 10, 2) := by decide +kernel
theorem dX10_presses_40 : decode cX10_presses 40 = .ok (.aload_n 0, 1) := by decide +kernel
theorem dX10_presses_41 : decode cX10_presses 41 = .ok (.iload_n 1, 1) := by decide +kernel
theorem dX10_presses_42 : decode cX10_presses 42 = .ok (.iload_n 2, 1) := by decide +kernel
theorem dX10_presses_43 : decode cX10_presses 43 = .ok (.iload_n 3, 1) := by decide +kernel
theorem dX10_presses_44 : decode cX10_presses 44 = .ok (.iconst 0, 1) := by decide +kernel
theorem dX10_presses_45 : decode cX10_presses 45 = .ok (.invokevirtual 117, 3) := by decide +kernel
theorem dX10_presses_48 : decode cX10_presses 48 = .ok (.iadd, 1) := by decide +kernel
theorem dX10_presses_49 : decode cX10_presses 49 = .ok (.iaload, 1) := by decide +kernel
theorem dX10_presses_50 : decode cX10_presses 50 = .ok (.i2l, 1) := by decide +kernel
theorem dX10_presses_51 : decode cX10_presses 51 = .ok (.ldiv, 1) := by decide +kernel
theorem dX10_presses_52 : decode cX10_presses 52 = .ok (.lstore 5, 2) := by decide +kernel
theorem dX10_presses_54 : decode cX10_presses 54 = .ok (.iload 4, 2) := by decide +kernel
theorem dX10_presses_56 : decode cX10_presses 56 = .ok (.i2l, 1) := by decide +kernel
theorem dX10_presses_57 : decode cX10_presses 57 = .ok (.lload 5, 2) := by decide +kernel
theorem dX10_presses_59 : decode cX10_presses 59 = .ok (.lsub, 1) := by decide +kernel
theorem dX10_presses_60 : decode cX10_presses 60 = .ok (.lstore 7, 2) := by decide +kernel
theorem dX10_presses_62 : decode cX10_presses 62 = .ok (.aload_n 0, 1) := by decide +kernel
theorem dX10_presses_63 : decode cX10_presses 63 = .ok (.iload_n 1, 1) := by decide +kernel
theorem dX10_presses_64 : decode cX10_presses 64 = .ok (.iload_n 2, 1) := by decide +kernel
theorem dX10_presses_65 : decode cX10_presses 65 = .ok (.iload_n 3, 1) := by decide +kernel
theorem dX10_presses_66 : decode cX10_presses 66 = .ok (.invokevirtual 125, 3) := by decide +kernel
theorem dX10_presses_69 : decode cX10_presses 69 = .ok (.istore 9, 2) := by decide +kernel
theorem dX10_presses_71 : decode cX10_presses 71 = .ok (.aload_n 0, 1) := by decide +kernel
theorem dX10_presses_72 : decode cX10_presses 72 = .ok (.iload_n 1, 1) := by decide +kernel
theorem dX10_presses_73 : decode cX10_presses 73 = .ok (.iload_n 2, 1) := by decide +kernel
theorem dX10_presses_74 : decode cX10_presses 74 = .ok (.iload_n 3, 1) := by decide +kernel
theorem dX10_presses_75 : decode cX10_presses 75 = .ok (.iconst 3, 1) := by decide +kernel
theorem dX10_presses_76 : decode cX10_presses 76 = .ok (.lload 7, 2) := by decide +kernel
theorem dX10_presses_78 : decode cX10_presses 78 = .ok (.iload 9, 2) := by decide +kernel
theorem dX10_presses_80 : decode cX10_presses 80 = .ok (.i2l, 1) := by decide +kernel
theorem dX10_presses_81 : decode cX10_presses 81 = .ok (.lcmp, 1) := by decide +kernel
theorem dX10_presses_82 : decode cX10_presses 82 = .ok (.ifCond .ge 8, 3) := by decide +kernel
theorem dX10_presses_90 : decode cX10_presses 90 = .ok (.lload 7, 2) := by decide +kernel
theorem dX10_presses_92 : decode cX10_presses 92 = .ok (.l2i, 1) := by decide +kernel
theorem dX10_presses_93 : decode cX10_presses 93 = .ok (.invokevirtual 131, 3) := by decide +kernel
theorem dX10_presses_96 : decode cX10_presses 96 = .ok (.iinc 3 1, 3) := by decide +kernel
theorem dX10_presses_99 : decode cX10_presses 99 = .ok (.goto (-97), 3) := by decide +kernel
theorem dX10_presses_85 : decode cX10_presses 85 = .ok (.iload 9, 2) := by decide +kernel
theorem dX10_presses_87 : decode cX10_presses 87 = .ok (.goto 6, 3) := by decide +kernel
theorem dX10_presses_0 : decode cX10_presses 0 = .ok (.iconst 0, 1) := by decide +kernel
theorem dX10_presses_1 : decode cX10_presses 1 = .ok (.istore_n 3, 1) := by decide +kernel
theorem dX10_evens_41 : decode cX10_evens 41 = .ok (.iload 4, 2) := by decide +kernel
theorem dX10_evens_43 : decode cX10_evens 43 = .ok (.iload_n 3, 1) := by decide +kernel
theorem dX10_evens_44 : decode cX10_evens 44 = .ok (.if_icmp .ge 115, 3) := by decide +kernel
theorem dX10_evens_159 : decode cX10_evens 159 = .ok (.return_, 1) := by decide +kernel
theorem dX10_evens_47 : decode cX10_evens 47 = .ok (.aload_n 0, 1) := by decide +kernel
theorem dX10_evens_48 : decode cX10_evens 48 = .ok (.getfield 59, 3) := by decide +kernel
theorem dX10_evens_51 : decode cX10_evens 51 = .ok (.iload 4, 2) := by decide +kernel
theorem dX10_evens_53 : decode cX10_evens 53 = .ok (.iaload, 1) := by decide +kernel
theorem dX10_evens_54 : decode cX10_evens 54 = .ok (.istore 5, 2) := by decide +kernel
theorem dX10_evens_56 : decode cX10_evens 56 = .ok (.iload 4, 2) := by decide +kernel
theorem dX10_evens_58 : decode cX10_evens 58 = .ok (.iconst 1, 1) := by decide +kernel
theorem dX10_evens_59 : decode cX10_evens 59 = .ok (.iadd, 1) := by decide +kernel
theorem dX10_evens_60 : decode cX10_evens 60 = .ok (.iload_n 3, 1) := by decide +kernel
theorem dX10_evens_61 : decode cX10_evens 61 = .ok (.if_icmp .ge 28, 3) := by decide +kernel
theorem dX10_evens_89 : decode cX10_evens 89 = .ok (.iload 4, 2) := by decide +kernel
theorem dX10_evens_91 : decode cX10_evens 91 = .ok (.ifCond .le 28, 3) := by decide +kernel
theorem dX10_evens_119 : decode cX10_evens 119 = .ok (.iload 4, 2) := by decide +kernel
theorem dX10_evens_121 : decode cX10_evens 121 = .ok (.ifCond .ne 17, 3) := by decide +kernel
theorem dX10_evens_138 : decode cX10_evens 138 = .ok (.aload_n 0, 1) := by decide +kernel
theorem dX10_evens_139 : decode cX10_evens 139 = .ok (.iload_n 1, 1) := by decide +kernel
theorem dX10_evens_140 : decode cX10_evens 140 = .ok (.iload_n 2, 1) := by decide +kernel
theorem dX10_evens_141 : decode cX10_evens 141 = .ok (.iload 4, 2) := by decide +kernel
theorem dX10_evens_143 : decode cX10_evens 143 = .ok (.iconst 4, 1) := by decide +kernel
theorem dX10_evens_144 : decode cX10_evens 144 = .ok (.iload 5, 2) := by decide +kernel
theorem dX10_evens_146 : decode cX10_evens 146 = .ok (.iconst 0, 1) := by decide +kernel
theorem dX10_evens_147 : decode cX10_evens 147 = .ok (.invokestatic 143, 3) := by decide +kernel
theorem dX10_evens_150 : decode cX10_evens 150 = .ok (.invokevirtual 131, 3) := by decide +kernel
theorem dX10_evens_153 : decode cX10_evens 153 = .ok (.iinc 4 1, 3) := by decide +kernel
theorem dX10_evens_156 : decode cX10_evens 156 = .ok (.goto (-115), 3) := by decide +kernel
theorem dX10_evens_124 : decode cX10_evens 124 = .ok (.iload 5, 2) := by decide +kernel
theorem dX10_evens_126 : decode cX10_evens 126 = .ok (.aload_n 0, 1) := by decide +kernel
theorem dX10_evens_127 : decode cX10_evens 127 = .ok (.getfield 59, 3) := by decide +kernel
theorem dX10_evens_130 : decode cX10_evens 130 = .ok (.iconst 0, 1) := by decide +kernel
theorem dX10_evens_131 : decode cX10_evens 131 = .ok (.iaload, 1) := by decide +kernel
theorem dX10_evens_132 : decode cX10_evens 132 = .ok (.bipush 8, 2) := by decide +kernel
theorem dX10_evens_134 : decode cX10_evens 134 = .ok (.idiv, 1) := by decide +kernel
theorem dX10_evens_135 : decode cX10_evens 135 = .ok (.isub, 1) := by decide +kernel
theorem dX10_evens_136 : decode cX10_evens 136 = .ok (.istore 5, 2) := by decide +kernel
theorem dX10_evens_94 : decode cX10_evens 94 = .ok (.iload 5, 2) := by decide +kernel
theorem dX10_evens_96 : decode cX10_evens 96 = .ok (.aload_n 0, 1) := by decide +kernel
theorem dX10_evens_97 : decode cX10_evens 97 = .ok (.getfield 59, 3) := by decide +kernel
theorem dX10_evens_100 : decode cX10_evens 100 = .ok (.iload 4, 2) := by decide +kernel
theorem dX10_evens_102 : decode cX10_evens 102 = .ok (.iaload, 1) := by decide +kernel
theorem dX10_evens_103 : decode cX10_evens 103 = .ok (.aload_n 0, 1) := by decide +kernel
theorem dX10_evens_104 : decode cX10_evens 104 = .ok (.getfield 59, 3) := by decide +kernel
theorem dX10_evens_107 : decode cX10_evens 107 = .ok (.iload 4, 2) := by decide +kernel
theorem dX10_evens_109 : decode cX10_evens 109 = .ok (.iconst 1, 1) := by decide +kernel
theorem dX10_evens_110 : decode cX10_evens 110 = .ok (.isub, 1) := by decide +kernel
theorem dX10_evens_111 : decode cX10_evens 111 = .ok (.iaload, 1) := by decide +kernel
theorem dX10_evens_112 : decode cX10_evens 112 = .ok (.isub, 1) := by decide +kernel
theorem dX10_evens_113 : decode cX10_evens 113 = .ok (.bipush 8, 2) := by decide +kernel
theorem dX10_evens_115 : decode cX10_evens 115 = .ok (.idiv, 1) := by decide +kernel
theorem dX10_evens_116 : decode cX10_evens 116 = .ok (.isub, 1) := by decide +kernel
theorem dX10_evens_117 : decode cX10_evens 117 = .ok (.istore 5, 2) := by decide +kernel
theorem dX10_evens_64 : decode cX10_evens 64 = .ok (.iload 5, 2) := by decide +kernel
theorem dX10_evens_66 : decode cX10_evens 66 = .ok (.aload_n 0, 1) := by decide +kernel
theorem dX10_evens_67 : decode cX10_evens 67 = .ok (.getfield 59, 3) := by decide +kernel
theorem dX10_evens_70 : decode cX10_evens 70 = .ok (.iload 4, 2) := by decide +kernel
theorem dX10_evens_72 : decode cX10_evens 72 = .ok (.iconst 1, 1) := by decide +kernel
theorem dX10_evens_73 : decode cX10_evens 73 = .ok (.iadd, 1) := by decide +kernel
theorem dX10_evens_74 : decode cX10_evens 74 = .ok (.iaload, 1) := by decide +kernel
theorem dX10_evens_75 : decode cX10_evens 75 = .ok (.aload_n 0, 1) := by decide +kernel
theorem dX10_evens_76 : decode cX10_evens 76 = .ok (.getfield 59, 3) := by decide +kernel
theorem dX10_evens_79 : decode cX10_evens 79 = .ok (.iload 4, 2) := by decide +kernel
theorem dX10_evens_81 : decode cX10_evens 81 = .ok (.iaload, 1) := by decide +kernel
theorem dX10_evens_82 : decode cX10_evens 82 = .ok (.isub, 1) := by decide +kernel
theorem dX10_evens_83 : decode cX10_evens 83 = .ok (.bipush 8, 2) := by decide +kernel
theorem dX10_evens_85 : decode cX10_evens 85 = .ok (.idiv, 1) := by decide +kernel
theorem dX10_evens_86 : decode cX10_evens 86 = .ok (.iadd, 1) := by decide +kernel
theorem dX10_evens_87 : decode cX10_evens 87 = .ok (.istore 5, 2) := by decide +kernel
theorem dX10_evens_10 : decode cX10_evens 10 = .ok (.iload 4, 2) := by decide +kernel
theorem dX10_evens_12 : decode cX10_evens 12 = .ok (.iload_n 3, 1) := by decide +kernel
theorem dX10_evens_13 : decode cX10_evens 13 = .ok (.if_icmp .ge 25, 3) := by decide +kernel
theorem dX10_evens_38 : decode cX10_evens 38 = .ok (.iconst 0, 1) := by decide +kernel
theorem dX10_evens_39 : decode cX10_evens 39 = .ok (.istore 4, 2) := by decide +kernel
theorem dX10_evens_16 : decode cX10_evens 16 = .ok (.aload_n 0, 1) := by decide +kernel
theorem dX10_evens_17 : decode cX10_evens 17 = .ok (.getfield 59, 3) := by decide +kernel
theorem dX10_evens_20 : decode cX10_evens 20 = .ok (.iload 4, 2) := by decide +kernel
theorem dX10_evens_22 : decode cX10_evens 22 = .ok (.aload_n 0, 1) := by decide +kernel
theorem dX10_evens_23 : decode cX10_evens 23 = .ok (.iload_n 1, 1) := by decide +kernel
theorem dX10_evens_24 : decode cX10_evens 24 = .ok (.iload_n 2, 1) := by decide +kernel
theorem dX10_evens_25 : decode cX10_evens 25 = .ok (.iload 4, 2) := by decide +kernel
theorem dX10_evens_27 : decode cX10_evens 27 = .ok (.iconst 4, 1) := by decide +kernel
theorem dX10_evens_28 : decode cX10_evens 28 = .ok (.invokevirtual 117, 3) := by decide +kernel
theorem dX10_evens_31 : decode cX10_evens 31 = .ok (.iastore, 1) := by decide +kernel
theorem dX10_evens_32 : decode cX10_evens 32 = .ok (.iinc 4 1, 3) := by decide +kernel
theorem dX10_evens_35 : decode cX10_evens 35 = .ok (.goto (-25), 3) := by decide +kernel
theorem dX10_evens_0 : decode cX10_evens 0 = .ok (.aload_n 0, 1) := by decide +kernel
theorem dX10_evens_1 : decode cX10_evens 1 = .ok (.iload_n 1, 1) := by decide +kernel
theorem dX10_evens_2 : decode cX10_evens 2 = .ok (.iload_n 2, 1) := by decide +kernel
theorem dX10_evens_3 : decode cX10_evens 3 = .ok (.invokevirtual 121, 3) := by decide +kernel
theorem dX10_evens_6 : decode cX10_evens 6 = .ok (.istore_n 3, 1) := by decide +kernel
theorem dX10_evens_7 : decode cX10_evens 7 = .ok (.iconst 0, 1) := by decide +kernel
theorem dX10_evens_8 : decode cX10_evens 8 = .ok (.istore 4, 2) := by decide +kernel
theorem dX10_ages_39 : decode cX10_ages 39 = .ok (.iload 4, 2) := by decide +kernel
theorem dX10_ages_41 : decode cX10_ages 41 = .ok (.aload_n 0, 1) := by decide +kernel
theorem dX10_ages_42 : decode cX10_ages 42 = .ok (.iload_n 1, 1) := by decide +kernel
theorem dX10_ages_43 : decode cX10_ages 43 = .ok (.iload_n 2, 1) := by decide +kernel
theorem dX10_ages_44 : decode cX10_ages 44 = .ok (.invokevirtual 121, 3) := by decide +kernel
theorem dX10_ages_47 : decode cX10_ages 47 = .ok (.if_icmp .ge 45, 3) := by decide +kernel
theorem dX10_ages_92 : decode cX10_ages 92 = .ok (.return_, 1) := by decide +kernel
theorem dX10_ages_50 : decode cX10_ages 50 = .ok (.aload_n 0, 1) := by decide +kernel
theorem dX10_ages_51 : decode cX10_ages 51 = .ok (.iload_n 1, 1) := by decide +kernel
theorem dX10_ages_52 : decode cX10_ages 52 = .ok (.iload_n 2, 1) := by decide +kernel
theorem dX10_ages_53 : decode cX10_ages 53 = .ok (.iload 4, 2) := by decide +kernel
theorem dX10_ages_55 : decode cX10_ages 55 = .ok (.iconst 0, 1) := by decide +kernel
theorem dX10_ages_56 : decode cX10_ages 56 = .ok (.aload_n 0, 1) := by decide +kernel
theorem dX10_ages_57 : decode cX10_ages 57 = .ok (.getfield 62, 3) := by decide +kernel
theorem dX10_ages_60 : decode cX10_ages 60 = .ok (.iload 4, 2) := by decide +kernel
theorem dX10_ages_62 : decode cX10_ages 62 = .ok (.iaload, 1) := by decide +kernel
theorem dX10_ages_63 : decode cX10_ages 63 = .ok (.invokevirtual 131, 3) := by decide +kernel
theorem dX10_ages_66 : decode cX10_ages 66 = .ok (.aload_n 0, 1) := by decide +kernel
theorem dX10_ages_67 : decode cX10_ages 67 = .ok (.iload_n 1, 1) := by decide +kernel
theorem dX10_ages_68 : decode cX10_ages 68 = .ok (.iload_n 2, 1) := by decide +kernel
theorem dX10_ages_69 : decode cX10_ages 69 = .ok (.iload 4, 2) := by decide +kernel
theorem dX10_ages_71 : decode cX10_ages 71 = .ok (.iconst 5, 1) := by decide +kernel
theorem dX10_ages_72 : decode cX10_ages 72 = .ok (.aload_n 0, 1) := by decide +kernel
theorem dX10_ages_73 : decode cX10_ages 73 = .ok (.iload_n 1, 1) := by decide +kernel
theorem dX10_ages_74 : decode cX10_ages 74 = .ok (.iload_n 2, 1) := by decide +kernel
theorem dX10_ages_75 : decode cX10_ages 75 = .ok (.iload 4, 2) := by decide +kernel
theorem dX10_ages_77 : decode cX10_ages 77 = .ok (.iconst 5, 1) := by decide +kernel
theorem dX10_ages_78 : decode cX10_ages 78 = .ok (.invokevirtual 117, 3) := by decide +kernel
theorem dX10_ages_81 : decode cX10_ages 81 = .ok (.iconst 1, 1) := by decide +kernel
theorem dX10_ages_82 : decode cX10_ages 82 = .ok (.iadd, 1) := by decide +kernel
theorem dX10_ages_83 : decode cX10_ages 83 = .ok (.invokevirtual 131, 3) := by decide +kernel
theorem dX10_ages_86 : decode cX10_ages 86 = .ok (.iinc 4 1, 3) := by decide +kernel
theorem dX10_ages_89 : decode cX10_ages 89 = .ok (.goto (-50), 3) := by decide +kernel
theorem dX10_ages_3 : decode cX10_ages 3 = .ok (.iload 4, 2) := by decide +kernel
theorem dX10_ages_5 : decode cX10_ages 5 = .ok (.aload_n 0, 1) := by decide +kernel
theorem dX10_ages_6 : decode cX10_ages 6 = .ok (.iload_n 1, 1) := by decide +kernel
theorem dX10_ages_7 : decode cX10_ages 7 = .ok (.iload_n 2, 1) := by decide +kernel
theorem dX10_ages_8 : decode cX10_ages 8 = .ok (.invokevirtual 121, 3) := by decide +kernel
theorem dX10_ages_11 : decode cX10_ages 11 = .ok (.if_icmp .ge 25, 3) := by decide +kernel
theorem dX10_ages_36 : decode cX10_ages 36 = .ok (.iconst 0, 1) := by decide +kernel
theorem dX10_ages_37 : decode cX10_ages 37 = .ok (.istore 4, 2) := by decide +kernel
theorem dX10_ages_14 : decode cX10_ages 14 = .ok (.aload_n 0, 1) := by decide +kernel
theorem dX10_ages_15 : decode cX10_ages 15 = .ok (.getfield 62, 3) := by decide +kernel
theorem dX10_ages_18 : decode cX10_ages 18 = .ok (.iload 4, 2) := by decide +kernel
theorem dX10_ages_20 : decode cX10_ages 20 = .ok (.aload_n 0, 1) := by decide +kernel
theorem dX10_ages_21 : decode cX10_ages 21 = .ok (.iload_n 1, 1) := by decide +kernel
theorem dX10_ages_22 : decode cX10_ages 22 = .ok (.iload_n 2, 1) := by decide +kernel
theorem dX10_ages_23 : decode cX10_ages 23 = .ok (.iload 4, 2) := by decide +kernel
theorem dX10_ages_25 : decode cX10_ages 25 = .ok (.iload_n 3, 1) := by decide +kernel
theorem dX10_ages_26 : decode cX10_ages 26 = .ok (.invokevirtual 192, 3) := by decide +kernel
theorem dX10_ages_29 : decode cX10_ages 29 = .ok (.iastore, 1) := by decide +kernel
theorem dX10_ages_30 : decode cX10_ages 30 = .ok (.iinc 4 1, 3) := by decide +kernel
theorem dX10_ages_33 : decode cX10_ages 33 = .ok (.goto (-30), 3) := by decide +kernel
theorem dX10_ages_0 : decode cX10_ages 0 = .ok (.iconst 0, 1) := by decide +kernel
theorem dX10_ages_1 : decode cX10_ages 1 = .ok (.istore 4, 2) := by decide +kernel
end
section
-- 77.refp.lean.txt
set_option maxRecDepth 100000 in
set_option maxHeartbeats 4000000 in
theorem c_X10_freezes (l : Launch) (D : va_G) (A : Nat → Prop) (cs : Nat → ClassId) (tt : Nat) (N : Nat) (ad : Nat → Nat) (g : Nat → va_E) (i : Nat) (hN : i + 30 ≤ N) (F : Nat → Int) (hg : g i = mC ad i F) (r : Nat → Int) (ha1 : g (i + 1) = iA cs 29200 r) (q : Nat) (hq : q + 7 ≤ 29200) (hK : 0 ≤ r q ∧ r q ≤ 4) (hI : 1 ≤ r (q + 1)) (hW : 0 ≤ r (q + 2)) (hT : -300 ≤ r (q + 4) ∧ r (q + 4) ≤ 0) (hm : r (q + 1) + r (q + 2) ≤ 138500) : zM l yX10_freezes cX10_freezes 3 none ({ frames := 2, cells := 0, slots := 0, locals := 120 } : Room) D A cs tt N ad g [.ref (ad i), .int (zI ((q : Int)))] (rV0 N ad fun g' => (∃ r' : Nat → Int, g' (i + 1) = iA cs 29200 r' ∧ ((0 ≤ r' q ∧ r' q ≤ 4) ∧ 1 ≤ r' (q + 1) ∧ 0 ≤ r' (q + 2) ∧ (-300 ≤ r' (q + 4) ∧ r' (q + 4) ≤ 0) ∧ r' (q + 1) + r' (q + 2) = r (q + 1) + r (q + 2)) ∧ ∀ j, j ≠ q → j ≠ q + 1 → j ≠ q + 2 → j ≠ q + 4 → r' j = r j) ∧ ∀ j, j ≠ i + 1 → g' j = g j) := by
  have hay1 : zAt ad (i) (ad i) := rfl
  have hay2 : zAt ad (i + 1) (ad (i + 1)) := rfl
  refine z_of (by decide) (Nat.le_of_ble_eq_true rfl) ?_
  intro pZ eZ sZ mZ below meth cZ C hr hlk hnm
  refine z_lv (lv' := [(0, .ref (ad i)), (1, .int (zI ((q : Int))))]) [0, 1] rfl ?_
  refine z_aload_n C 0 dX10_freezes_0 rfl ?_
  refine z_get (v := .ref (ad (i + 1))) C (lt_A0 hN rfl) hay1 hg rfl inA_X10 0 (by decide) q_1459 rfl rfl dX10_freezes_1 ?_
  refine z_iload_n C 1 dX10_freezes_4 rfl ?_
  refine z_iconst (z := 2) C dX10_freezes_5 rfl ?_
  refine z_iadd C dX10_freezes_6 ?_
  refine z_iald C (lt_A (c := 1) hN rfl) hay2 ha1 (q + 2) (by omega) (by omega) (by decide) dX10_freezes_7 ?_
  refine z_aload_n C 0 dX10_freezes_8 rfl ?_
  refine z_get (v := .ref (ad (i + 1))) C (lt_A0 hN rfl) hay1 hg rfl inA_X10 0 (by decide) q_1459 rfl rfl dX10_freezes_9 ?_
  refine z_iload_n C 1 dX10_freezes_12 rfl ?_
  refine z_iconst (z := 1) C dX10_freezes_13 rfl ?_
  refine z_iadd C dX10_freezes_14 ?_
  refine z_iald C (lt_A (c := 1) hN rfl) hay2 ha1 (q + 1) (by omega) (by omega) (by decide) dX10_freezes_15 ?_
  refine z_aload_n C 0 dX10_freezes_16 rfl ?_
  refine z_get (v := .ref (ad (i + 1))) C (lt_A0 hN rfl) hay1 hg rfl inA_X10 0 (by decide) q_1459 rfl rfl dX10_freezes_17 ?_
  refine z_iload_n C 1 dX10_freezes_20 rfl ?_
  refine z_iconst (z := 4) C dX10_freezes_21 rfl ?_
  refine z_iadd C dX10_freezes_22 ?_
  refine z_iald C (lt_A (c := 1) hN rfl) hay2 ha1 (q + 4) (by omega) (by omega) (by decide) dX10_freezes_23 ?_
  refine z_ineg C dX10_freezes_24 ?_
  refine z_imul C dX10_freezes_25 ?_
  obtain ⟨xy3, exy3, hxy3⟩ := mulb (a := r (q + 1)) (b := -(r (q + 4))) (A := 138500) (B := 300) ⟨by omega, by omega⟩ ⟨by omega, by omega⟩
  rw [exy3]
  refine z_bipush (z := 100) C dX10_freezes_26 (by decide) ?_
  refine z_idiv C dX10_freezes_28 (by omega) (by omega) (by omega) ?_
  obtain ⟨xy4, exy4, hxy4⟩ : ∃ x9, (xy3).tdiv 100 = x9 ∧ (0 ≤ xy3 → 0 ≤ x9 ∧ 100 * x9 ≤ xy3 ∧ xy3 < 100 * x9 + 100) ∧ (xy3 ≤ 0 → x9 ≤ 0 ∧ xy3 ≤ 100 * x9 ∧ 100 * x9 < xy3 + 100) := tdk 100 (by decide)
  rw [exy4]
  refine z_cS (As := [.int (zI (r (q + 2))), .int (zI (xy4))]) (rest := []) C (c_X10_lesser l D A cs tt N ad _ (r (q + 2)) (by omega) (xy4) (by omega)) ms_yX10_lesser q_1792 hd_yX10_lesser (by decide) (Nat.le_of_ble_eq_true rfl) (by decide) dX10_freezes_29 rfl (kI0 fun vy5 gvy5 hvy5 => ?_)
  obtain ⟨hvy5, rfl⟩ := hvy5
  refine z_istore_n (lv' := [(2, .int (zI (vy5))), (0, .ref (ad i)), (1, .int (zI ((q : Int))))]) C dX10_freezes_32 rfl (by decide) rfl ?_
  refine z_aload_n C 1 dX10_freezes_33 rfl ?_
  refine z_get (v := .ref (ad (i + 1))) C (lt_A0 hN rfl) hay1 hg rfl inA_X10 0 (by decide) q_1459 rfl rfl dX10_freezes_34 ?_
  refine z_iload_n C 2 dX10_freezes_37 rfl ?_
  refine z_iconst (z := 4) C dX10_freezes_38 rfl ?_
  refine z_iadd C dX10_freezes_39 ?_
  refine z_aload_n C 1 dX10_freezes_40 rfl ?_
  refine z_get (v := .ref (ad (i + 1))) C (lt_A0 hN rfl) hay1 hg rfl inA_X10 0 (by decide) q_1459 rfl rfl dX10_freezes_41 ?_
  refine z_iload_n C 2 dX10_freezes_44 rfl ?_
  refine z_iconst (z := 2) C dX10_freezes_45 rfl ?_
  refine z_iadd C dX10_freezes_46 ?_
  refine z_iald C (lt_A (c := 1) hN rfl) hay2 ha1 (q + 2) (by omega) (by omega) (by decide) dX10_freezes_47 ?_
  refine z_iload_n C 0 dX10_freezes_48 rfl ?_
  refine z_icmp_le (tgt := 56) C dX10_freezes_49 (by decide) (by omega) (by omega) (fun hby6 => ?_) (fun hby6 => ?_)
  · refine z_iconst (z := 0) C dX10_freezes_56 rfl ?_
    refine z_aload_n C 1 dX10_freezes_57 rfl ?_
    refine z_get (v := .ref (ad (i + 1))) C (lt_A0 hN rfl) hay1 hg rfl inA_X10 0 (by decide) q_1459 rfl rfl dX10_freezes_58 ?_
    refine z_iload_n C 2 dX10_freezes_61 rfl ?_
    refine z_iconst (z := 4) C dX10_freezes_62 rfl ?_
    refine z_iadd C dX10_freezes_63 ?_
    refine z_iald C (lt_A (c := 1) hN rfl) hay2 ha1 (q + 4) (by omega) (by omega) (by decide) dX10_freezes_64 ?_
    refine z_bipush (z := 100) C dX10_freezes_65 (by decide) ?_
    refine z_iload_n C 0 dX10_freezes_67 rfl ?_
    refine z_imul C dX10_freezes_68 ?_
    refine z_aload_n C 1 dX10_freezes_69 rfl ?_
    refine z_get (v := .ref (ad (i + 1))) C (lt_A0 hN rfl) hay1 hg rfl inA_X10 0 (by decide) q_1459 rfl rfl dX10_freezes_70 ?_
    refine z_iload_n C 2 dX10_freezes_73 rfl ?_
    refine z_iconst (z := 1) C dX10_freezes_74 rfl ?_
    refine z_iadd C dX10_freezes_75 ?_
    refine z_iald C (lt_A (c := 1) hN rfl) hay2 ha1 (q + 1) (by omega) (by omega) (by decide) dX10_freezes_76 ?_
    refine z_idiv C dX10_freezes_77 (by omega) (by omega) (by omega) ?_
    obtain ⟨xy7, exy7, hxy7⟩ := tdp (a := 100 * vy5) (k := r (q + 1)) (by omega) (by omega)
    rw [exy7]
    refine z_iadd C dX10_freezes_78 ?_
    refine z_cS (As := [.int (zI (0)), .int (zI ((r (q + 4)) + xy7))]) (rest := [.int (zI (((q : Int)) + 4)), .ref (ad (i + 1))]) C (c_X10_lesser l D A cs tt N ad _ (0) (by omega) ((r (q + 4)) + xy7) (by omega)) ms_yX10_lesser q_1792 hd_yX10_lesser (by decide) (Nat.le_of_ble_eq_true rfl) (by decide) dX10_freezes_79 rfl (kI0 fun vy8 gvy8 hvy8 => ?_)
    obtain ⟨hvy8, rfl⟩ := hvy8
    refine z_iast C (lt_A (c := 1) hN rfl) hay2 ha1 (q + 4) (by omega) (by omega) (by decide) dX10_freezes_82 (fun gy9 egy10 => ?_)
    have hgy11 := up_s egy10
    obtain ⟨ry12, hvy13⟩ : ∃ rZ9 : Nat → Int, rZ9 = uZ r (q + 4) (vy8) := ⟨_, rfl⟩
    rw [← hvy13] at hgy11
    refine z_aload_n C 1 dX10_freezes_83 rfl ?_
    have hgy14 := up_n egy10 hg (ne_o (i := i) (c := 0) (d := 1) rfl)
    refine z_get (v := .ref (ad (i + 1))) C (lt_A0 hN rfl) hay1 hgy14 rfl inA_X10 0 (by decide) q_1459 rfl rfl dX10_freezes_84 ?_
    refine z_iload_n C 2 dX10_freezes_87 rfl ?_
    refine z_iconst (z := 1) C dX10_freezes_88 rfl ?_
    refine z_iadd C dX10_freezes_89 ?_
    refine z_dup2 C dX10_freezes_90 rfl rfl ?_
    refine z_iald C (lt_A (c := 1) hN rfl) hay2 hgy11 (q + 1) (by omega) (by omega) (by decide) dX10_freezes_91 ?_
    rw [show ry12 (q + 1) = r (q + 1) from (congrFun hvy13 _).trans ((uZ_n _ _ (by omega)).trans (rfl))]
    refine z_iload_n C 0 dX10_freezes_92 rfl ?_
    refine z_iadd C dX10_freezes_93 ?_
    refine z_iast C (lt_A (c := 1) hN rfl) hay2 hgy11 (q + 1) (by omega) (by omega) (by decide) dX10_freezes_94 (fun gy15 egy16 => ?_)
    have hgy17 := up_s egy16
    obtain ⟨ry18, hvy19⟩ : ∃ rZ9 : Nat → Int, rZ9 = uZ ry12 (q + 1) ((r (q + 1)) + vy5) := ⟨_, rfl⟩
    rw [← hvy19] at hgy17
    refine z_aload_n C 1 dX10_freezes_95 rfl ?_
    have hgy20 := up_n egy16 hgy14 (ne_o (i := i) (c := 0) (d := 1) rfl)
    refine z_get (v := .ref (ad (i + 1))) C (lt_A0 hN rfl) hay1 hgy20 rfl inA_X10 0 (by decide) q_1459 rfl rfl dX10_freezes_96 ?_
    refine z_iload_n C 2 dX10_freezes_99 rfl ?_
    refine z_iconst (z := 2) C dX10_freezes_100 rfl ?_
    refine z_iadd C dX10_freezes_101 ?_
    refine z_dup2 C dX10_freezes_102 rfl rfl ?_
    refine z_iald C (lt_A (c := 1) hN rfl) hay2 hgy17 (q + 2) (by omega) (by omega) (by decide) dX10_freezes_103 ?_
    rw [show ry18 (q + 2) = r (q + 2) from (congrFun hvy19 _).trans ((uZ_n _ _ (by omega)).trans ((congrFun hvy13 _).trans ((uZ_n _ _ (by omega)).trans (rfl))))]
    refine z_iload_n C 0 dX10_freezes_104 rfl ?_
    refine z_isub C dX10_freezes_105 ?_
    refine z_iast C (lt_A (c := 1) hN rfl) hay2 hgy17 (q + 2) (by omega) (by omega) (by decide) dX10_freezes_106 (fun gy21 egy22 => ?_)
    have hgy23 := up_s egy22
    obtain ⟨ry24, hvy25⟩ : ∃ rZ9 : Nat → Int, rZ9 = uZ ry18 (q + 2) ((r (q + 2)) - vy5) := ⟨_, rfl⟩
    rw [← hvy25] at hgy23
    refine z_iload_n C 0 dX10_freezes_107 rfl ?_
    refine z_if_le (tgt := 120) C dX10_freezes_108 (by decide) (by omega) (fun hby26 => ?_) (fun hby26 => ?_)
    · have hwy27 : ry24 (q) = r (q) := (congrFun hvy25 _).trans ((uZ_n _ _ (by omega)).trans ((congrFun hvy19 _).trans ((uZ_n _ _ (by omega)).trans ((congrFun hvy13 _).trans ((uZ_n _ _ (by omega)).trans (rfl))))))
      have hwy28 : ry24 (q + 1) = (r (q + 1)) + vy5 := (congrFun hvy25 _).trans ((uZ_n _ _ (by omega)).trans ((congrFun hvy19 _).trans (uZ_s _ _ _)))
      have hwy29 : ry24 (q + 2) = (r (q + 2)) - vy5 := (congrFun hvy25 _).trans (uZ_s _ _ _)
      have hwy30 : ry24 (q + 4) = vy8 := (congrFun hvy25 _).trans ((uZ_n _ _ (by omega)).trans ((congrFun hvy19 _).trans ((uZ_n _ _ (by omega)).trans ((congrFun hvy13 _).trans (uZ_s _ _ _)))))
      have hfry31 : ∀ j, j ≠ q + 2 → j ≠ q + 1 → j ≠ q + 4 → ry24 j = r j := fun j n0 n1 n2 => (congrFun hvy25 _).trans ((uZ_n _ _ n0).trans ((congrFun hvy19 _).trans ((uZ_n _ _ n1).trans ((congrFun hvy13 _).trans ((uZ_n _ _ n2).trans (rfl))))))
      exact z_vret C hr hlk dX10_freezes_120 (by decide) (by decide) ⟨rfl, rfl, rfl, ⟨_, hgy23, by omega, fun j a1 a2 a3 a4 => hfry31 j (by omega) (by omega) (by omega)⟩, fun j j1 => by rw [egy22, va_up_ne _ _ (by omega)]; rw [egy16, va_up_ne _ _ (by omega)]; rw [egy10, va_up_ne _ _ (by omega)]⟩
    · refine z_aload_n C 1 dX10_freezes_111 rfl ?_
      have hgy32 := up_n egy22 hgy20 (ne_o (i := i) (c := 0) (d := 1) rfl)
      refine z_get (v := .ref (ad (i + 1))) C (lt_A0 hN rfl) hay1 hgy32 rfl inA_X10 0 (by decide) q_1459 rfl rfl dX10_freezes_112 ?_
      refine z_iload_n C 2 dX10_freezes_115 rfl ?_
      refine z_iconst (z := 0) C dX10_freezes_116 rfl ?_
      refine z_iadd C dX10_freezes_117 ?_
      refine z_iconst (z := 3) C dX10_freezes_118 rfl ?_
      refine z_iast C (lt_A (c := 1) hN rfl) hay2 hgy23 (q) (by omega) (by omega) (by decide) dX10_freezes_119 (fun gy33 egy34 => ?_)
      have hgy35 := up_s egy34
      obtain ⟨ry36, hvy37⟩ : ∃ rZ9 : Nat → Int, rZ9 = uZ ry24 (q) (3) := ⟨_, rfl⟩
      rw [← hvy37] at hgy35
      have hwy38 : ry36 (q) = 3 := (congrFun hvy37 _).trans (uZ_s _ _ _)
      have hwy39 : ry36 (q + 1) = (r (q + 1)) + vy5 := (congrFun hvy37 _).trans ((uZ_n _ _ (by omega)).trans ((congrFun hvy25 _).trans ((uZ_n _ _ (by omega)).trans ((congrFun hvy19 _).trans (uZ_s _ _ _)))))
      have hwy40 : ry36 (q + 2) = (r (q + 2)) - vy5 := (congrFun hvy37 _).trans ((uZ_n _ _ (by omega)).trans ((congrFun hvy25 _).trans (uZ_s _ _ _)))
      have hwy41 : ry36 (q + 4) = vy8 := (congrFun hvy37 _).trans ((uZ_n _ _ (by omega)).trans ((congrFun hvy25 _).trans ((uZ_n _ _ (by omega)).trans ((congrFun hvy19 _).trans ((uZ_n _ _ (by omega)).trans ((congrFun hvy13 _).trans (uZ_s _ _ _)))))))
      have hfry42 : ∀ j, j ≠ q → j ≠ q + 2 → j ≠ q + 1 → j ≠ q + 4 → ry36 j = r j := fun j n0 n1 n2 n3 => (congrFun hvy37 _).trans ((uZ_n _ _ n0).trans ((congrFun hvy25 _).trans ((uZ_n _ _ n1).trans ((congrFun hvy19 _).trans ((uZ_n _ _ n2).trans ((congrFun hvy13 _).trans ((uZ_n _ _ n3).trans (rfl))))))))
      exact z_vret C hr hlk dX10_freezes_120 (by decide) (by decide) ⟨rfl, rfl, rfl, ⟨_, hgy35, by omega, fun j a1 a2 a3 a4 => hfry42 j (by omega) (by omega) (by omega) (by omega)⟩, fun j j1 => by rw [egy34, va_up_ne _ _ (by omega)]; rw [egy22, va_up_ne _ _ (by omega)]; rw [egy16, va_up_ne _ _ (by omega)]; rw [egy10, va_up_ne _ _ (by omega)]⟩
  · refine z_iconst (z := 0) C dX10_freezes_52 rfl ?_
    refine z_goto (tgt := 82) C dX10_freezes_53 (by decide) ?_
    refine z_iast C (lt_A (c := 1) hN rfl) hay2 ha1 (q + 4) (by omega) (by omega) (by decide) dX10_freezes_82 (fun gy43 egy44 => ?_)
    have hgy45 := up_s egy44
    obtain ⟨ry46, hvy47⟩ : ∃ rZ9 : Nat → Int, rZ9 = uZ r (q + 4) (0) := ⟨_, rfl⟩
    rw [← hvy47] at hgy45
    refine z_aload_n C 1 dX10_freezes_83 rfl ?_
    have hgy48 := up_n egy44 hg (ne_o (i := i) (c := 0) (d := 1) rfl)
    refine z_get (v := .ref (ad (i + 1))) C (lt_A0 hN rfl) hay1 hgy48 rfl inA_X10 0 (by decide) q_1459 rfl rfl dX10_freezes_84 ?_
    refine z_iload_n C 2 dX10_freezes_87 rfl ?_
    refine z_iconst (z := 1) C dX10_freezes_88 rfl ?_
    refine z_iadd C dX10_freezes_89 ?_
    refine z_dup2 C dX10_freezes_90 rfl rfl ?_
    refine z_iald C (lt_A (c := 1) hN rfl) hay2 hgy45 (q + 1) (by omega) (by omega) (by decide) dX10_freezes_91 ?_
    rw [show ry46 (q + 1) = r (q + 1) from (congrFun hvy47 _).trans ((uZ_n _ _ (by omega)).trans (rfl))]
    refine z_iload_n C 0 dX10_freezes_92 rfl ?_
    refine z_iadd C dX10_freezes_93 ?_
    refine z_iast C (lt_A (c := 1) hN rfl) hay2 hgy45 (q + 1) (by omega) (by omega) (by decide) dX10_freezes_94 (fun gy49 egy50 => ?_)
    have hgy51 := up_s egy50
    obtain ⟨ry52, hvy53⟩ : ∃ rZ9 : Nat → Int, rZ9 = uZ ry46 (q + 1) ((r (q + 1)) + vy5) := ⟨_, rfl⟩
    rw [← hvy53] at hgy51
    refine z_aload_n C 1 dX10_freezes_95 rfl ?_
    have hgy54 := up_n egy50 hgy48 (ne_o (i := i) (c := 0) (d := 1) rfl)
    refine z_get (v := .ref (ad (i + 1))) C (lt_A0 hN rfl) hay1 hgy54 rfl inA_X10 0 (by decide) q_1459 rfl rfl dX10_freezes_96 ?_
    refine z_iload_n C 2 dX10_freezes_99 rfl ?_
    refine z_iconst (z := 2) C dX10_freezes_100 rfl ?_
    refine z_iadd C dX10_freezes_101 ?_
    refine z_dup2 C dX10_freezes_102 rfl rfl ?_
    refine z_iald C (lt_A (c := 1) hN rfl) hay2 hgy51 (q + 2) (by omega) (by omega) (by decide) dX10_freezes_103 ?_
    rw [show ry52 (q + 2) = r (q + 2) from (congrFun hvy53 _).trans ((uZ_n _ _ (by omega)).trans ((congrFun hvy47 _).trans ((uZ_n _ _ (by omega)).trans (rfl))))]
    refine z_iload_n C 0 dX10_freezes_104 rfl ?_
    refine z_isub C dX10_freezes_105 ?_
    refine z_iast C (lt_A (c := 1) hN rfl) hay2 hgy51 (q + 2) (by omega) (by omega) (by decide) dX10_freezes_106 (fun gy55 egy56 => ?_)
    have hgy57 := up_s egy56
    obtain ⟨ry58, hvy59⟩ : ∃ rZ9 : Nat → Int, rZ9 = uZ ry52 (q + 2) ((r (q + 2)) - vy5) := ⟨_, rfl⟩
    rw [← hvy59] at hgy57
    refine z_iload_n C 0 dX10_freezes_107 rfl ?_
    refine z_if_le (tgt := 120) C dX10_freezes_108 (by decide) (by omega) (fun hby60 => ?_) (fun hby60 => ?_)
    · have hwy61 : ry58 (q) = r (q) := (congrFun hvy59 _).trans ((uZ_n _ _ (by omega)).trans ((congrFun hvy53 _).trans ((uZ_n _ _ (by omega)).trans ((congrFun hvy47 _).trans ((uZ_n _ _ (by omega)).trans (rfl))))))
      have hwy62 : ry58 (q + 1) = (r (q + 1)) + vy5 := (congrFun hvy59 _).trans ((uZ_n _ _ (by omega)).trans ((congrFun hvy53 _).trans (uZ_s _ _ _)))
      have hwy63 : ry58 (q + 2) = (r (q + 2)) - vy5 := (congrFun hvy59 _).trans (uZ_s _ _ _)
      have hwy64 : ry58 (q + 4) = 0 := (congrFun hvy59 _).trans ((uZ_n _ _ (by omega)).trans ((congrFun hvy53 _).trans ((uZ_n _ _ (by omega)).trans ((congrFun hvy47 _).trans (uZ_s _ _ _)))))
      have hfry65 : ∀ j, j ≠ q + 2 → j ≠ q + 1 → j ≠ q + 4 → ry58 j = r j := fun j n0 n1 n2 => (congrFun hvy59 _).trans ((uZ_n _ _ n0).trans ((congrFun hvy53 _).trans ((uZ_n _ _ n1).trans ((congrFun hvy47 _).trans ((uZ_n _ _ n2).trans (rfl))))))
      exact z_vret C hr hlk dX10_freezes_120 (by decide) (by decide) ⟨rfl, rfl, rfl, ⟨_, hgy57, by omega, fun j a1 a2 a3 a4 => hfry65 j (by omega) (by omega) (by omega)⟩, fun j j1 => by rw [egy56, va_up_ne _ _ (by omega)]; rw [egy50, va_up_ne _ _ (by omega)]; rw [egy44, va_up_ne _ _ (by omega)]⟩
    · refine z_aload_n C 1 dX10_freezes_111 rfl ?_
      have hgy66 := up_n egy56 hgy54 (ne_o (i := i) (c := 0) (d := 1) rfl)
      refine z_get (v := .ref (ad (i + 1))) C (lt_A0 hN rfl) hay1 hgy66 rfl inA_X10 0 (by decide) q_1459 rfl rfl dX10_freezes_112 ?_
      refine z_iload_n C 2 dX10_freezes_115 rfl ?_
      refine z_iconst (z := 0) C dX10_freezes_116 rfl ?_
      refine z_iadd C dX10_freezes_117 ?_
      refine z_iconst (z := 3) C dX10_freezes_118 rfl ?_
      refine z_iast C (lt_A (c := 1) hN rfl) hay2 hgy57 (q) (by omega) (by omega) (by decide) dX10_freezes_119 (fun gy67 egy68 => ?_)
      have hgy69 := up_s egy68
      obtain ⟨ry70, hvy71⟩ : ∃ rZ9 : Nat → Int, rZ9 = uZ ry58 (q) (3) := ⟨_, rfl⟩
      rw [← hvy71] at hgy69
      have hwy72 : ry70 (q) = 3 := (congrFun hvy71 _).trans (uZ_s _ _ _)
      have hwy73 : ry70 (q + 1) = (r (q + 1)) + vy5 := (congrFun hvy71 _).trans ((uZ_n _ _ (by omega)).trans ((congrFun hvy59 _).trans ((uZ_n _ _ (by omega)).trans ((congrFun hvy53 _).trans (uZ_s _ _ _)))))
      have hwy74 : ry70 (q + 2) = (r (q + 2)) - vy5 := (congrFun hvy71 _).trans ((uZ_n _ _ (by omega)).trans ((congrFun hvy59 _).trans (uZ_s _ _ _)))
      have hwy75 : ry70 (q + 4) = 0 := (congrFun hvy71 _).trans ((uZ_n _ _ (by omega)).trans ((congrFun hvy59 _).trans ((uZ_n _ _ (by omega)).trans ((congrFun hvy53 _).trans ((uZ_n _ _ (by omega)).trans ((congrFun hvy47 _).trans (uZ_s _ _ _)))))))
      have hfry76 : ∀ j, j ≠ q → j ≠ q + 2 → j ≠ q + 1 → j ≠ q + 4 → ry70 j = r j := fun j n0 n1 n2 n3 => (congrFun hvy71 _).trans ((uZ_n _ _ n0).trans ((congrFun hvy59 _).trans ((uZ_n _ _ n1).trans ((congrFun hvy53 _).trans ((uZ_n _ _ n2).trans ((congrFun hvy47 _).trans ((uZ_n _ _ n3).trans (rfl))))))))
      exact z_vret C hr hlk dX10_freezes_120 (by decide) (by decide) ⟨rfl, rfl, rfl, ⟨_, hgy69, by omega, fun j a1 a2 a3 a4 => hfry76 j (by omega) (by omega) (by omega) (by omega)⟩, fun j j1 => by rw [egy68, va_up_ne _ _ (by omega)]; rw [egy56, va_up_ne _ _ (by omega)]; rw [egy50, va_up_ne _ _ (by omega)]; rw [egy44, va_up_ne _ _ (by omega)]⟩

set_option maxRecDepth 100000 in
set_option maxHeartbeats 4000000 in
theorem c_X10_sinks (l : Launch) (D : va_G) (A : Nat → Prop) (cs : Nat → ClassId) (tt : Nat) (N : Nat) (ad : Nat → Nat) (g : Nat → va_E) (i : Nat) (hN : i + 30 ≤ N) (F : Nat → Int) (hg : g i = mC ad i F) (r : Nat → Int) (ha1 : g (i + 1) = iA cs 29200 r) (tb : Nat → Int) (ha7 : g (i + 7) = iA cs 15 tb) (b s p : Nat) (hp : b + 6 + 86 * s = p) (hb : b + 350 ≤ 29200) (hs : s < 4) (M E : Int) (hM : M ≤ 138500) (hE : E ≤ 400000000) (ho : okS r p M E) (hT : ∀ k, k < 15 → 0 ≤ tb k ∧ tb k ≤ 9999) : zM l yX10_sinks cX10_sinks 6 none ({ frames := 3, cells := 0, slots := 0, locals := 180 } : Room) D A cs tt N ad g [.ref (ad i), .int (zI ((b : Int))), .int (zI ((s : Int)))] (rV0 N ad fun g' => (∃ r' : Nat → Int, g' (i + 1) = iA cs 29200 r' ∧ okS r' p (M) (E) ∧ (∀ j, j < p ∨ p + 86 ≤ j → r' j = r j)) ∧ ∀ j, j ≠ i + 1 → g' j = g j) := by
  have hay1 : zAt ad (i) (ad i) := rfl
  have hay2 : zAt ad (i + 1) (ad (i + 1)) := rfl
  have hay3 : zAt ad (i + 7) (ad (i + 7)) := rfl
  have hmky4 := ho.1
  refine z_of (by decide) (Nat.le_of_ble_eq_true rfl) ?_
  intro pZ eZ sZ mZ below meth cZ C hr hlk hnm
  refine z_lv (lv' := [(0, .ref (ad i)), (1, .int (zI ((b : Int)))), (2, .int (zI ((s : Int))))]) [0, 1, 2] rfl ?_
  have lp : ∀ (n9 : Nat) (ll : Int) (r9 : Nat → Int) (g1 : Nat → va_E), (ll + 1).toNat = n9 → (g1 (i + 1) = iA cs 29200 r9) → (∀ j, j ≠ i + 1 → g1 j = g j) → (okS r9 p M (E)) → (∀ j, j < p ∨ p + 86 ≤ j → r9 j = r j) → (r9 p = r p) → (-1 ≤ ll ∧ ll < r p) → zV pZ l eZ ({ frames := 3, cells := 0, slots := 0, locals := 180 } : Room) sZ mZ ([.ref (ad i), .int (zI ((b : Int))), .int (zI ((s : Int)))] : List Value).toArray below meth cZ (MQ below (zPost D A (rV0 N ad fun g' => (∃ r' : Nat → Int, g' (i + 1) = iA cs 29200 r' ∧ okS r' p (M) (E) ∧ (∀ j, j < p ∨ p + 86 ≤ j → r' j = r j)) ∧ ∀ j, j ≠ i + 1 → g' j = g j)) ([.ref (ad i), .int (zI ((b : Int))), .int (zI ((s : Int)))] : List Value).toArray sZ ({ frames := 3, cells := 0, slots := 0, locals := 180 } : Room).cells ({ frames := 3, cells := 0, slots := 0, locals := 180 } : Room).slots A) D A 6 (N) ad g1 (0) (0) 9 [(0, .ref (ad i)), (1, .int (zI ((b : Int)))), (2, .int (zI ((s : Int)))), (3, .int (zI (ll)))] [] := by
    intro n9
    induction n9 using Nat.strongRecOn with
    | ind n9 ih =>
      intro ll r9 g1 hm9 f2 f3 f4 f5 f6 hv
      have hay5 : zAt ad (i) (ad i) := rfl
      have hay6 : zAt ad (i + 1) (ad (i + 1)) := rfl
      have hay7 : zAt ad (i + 7) (ad (i + 7)) := rfl
      have hm9 := f4.1
      refine z_iload_n C 3 dX10_sinks_9 rfl ?_
      refine z_if_lt (tgt := 155) C dX10_sinks_10 (by decide) (by omega) (fun hby8 => ?_) (fun hby8 => ?_)
      · exact z_vret C hr hlk dX10_sinks_155 (by decide) (by decide) ⟨rfl, rfl, rfl, ⟨_, f2, f4, f5⟩, fun j j1 => by exact f3 j j1⟩
      · refine z_iload_n C 1 dX10_sinks_13 rfl ?_
        refine z_iload_n C 2 dX10_sinks_14 rfl ?_
        refine z_iload_n C 3 dX10_sinks_15 rfl ?_
        obtain ⟨ky9, hky9⟩ : ∃ k9 : Nat, (ll) = (k9 : Int) := ⟨((ll) : Int).toNat, by omega⟩
        obtain ⟨qy10, hqy10⟩ : ∃ q9 : Nat, p + 2 + 7 * ky9 = q9 := ⟨_, rfl⟩
        obtain ⟨⟨hKzy11, hIzy11, hWzy11, hDzy11, hTzy11, hnzy11⟩, hmzy11, hdzy11⟩ := okS.layer f4 (k := ky9) (by omega) hqy10
        refine z_cS (As := [.int (zI ((b : Int))), .int (zI ((s : Int))), .int (zI (ll))]) (rest := []) C (c_X10_at l D A cs tt N ad _ ((b : Int)) (by omega) ((s : Int)) (by omega) (ll) (by omega)) ms_yX10_at q_1753 hd_yX10_at (by decide) (Nat.le_of_ble_eq_true rfl) (by decide) dX10_sinks_16 rfl (kI0 fun vy12 gvy12 hvy12 => ?_)
        obtain ⟨hvy12, rfl⟩ := hvy12
        rw [show vy12 = (qy10 : Int) by omega]
        refine z_istore (lv' := [(4, .int (zI ((qy10 : Int)))), (0, .ref (ad i)), (1, .int (zI ((b : Int)))), (2, .int (zI ((s : Int)))), (3, .int (zI (ll)))]) C dX10_sinks_19 (by decide) rfl ?_
        refine z_aload_n C 1 dX10_sinks_21 rfl ?_
        refine z_get (v := .ref (ad (i + 1))) C (lt_A0 hN rfl) hay5 ((f3 _ (by omega)).trans hg) rfl inA_X10 0 (by decide) q_1459 rfl rfl dX10_sinks_22 ?_
        refine z_iload C 0 dX10_sinks_25 rfl ?_
        refine z_iconst (z := 2) C dX10_sinks_27 rfl ?_
        refine z_iadd C dX10_sinks_28 ?_
        refine z_iald C (lt_A (c := 1) hN rfl) hay6 f2 (qy10 + 2) (by omega) (by omega) (by decide) dX10_sinks_29 ?_
        refine z_if_le (tgt := 51) C dX10_sinks_30 (by decide) (by omega) (fun hby13 => ?_) (fun hby13 => ?_)
        · refine z_aload_n C 1 dX10_sinks_51 rfl ?_
          refine z_get (v := .ref (ad (i + 1))) C (lt_A0 hN rfl) hay5 ((f3 _ (by omega)).trans hg) rfl inA_X10 0 (by decide) q_1459 rfl rfl dX10_sinks_52 ?_
          refine z_iload C 0 dX10_sinks_55 rfl ?_
          refine z_iconst (z := 2) C dX10_sinks_57 rfl ?_
          refine z_iadd C dX10_sinks_58 ?_
          refine z_iald C (lt_A (c := 1) hN rfl) hay6 f2 (qy10 + 2) (by omega) (by omega) (by decide) dX10_sinks_59 ?_
          refine z_aload_n C 1 dX10_sinks_60 rfl ?_
          refine z_get (v := .ref (ad (i + 1))) C (lt_A0 hN rfl) hay5 ((f3 _ (by omega)).trans hg) rfl inA_X10 0 (by decide) q_1459 rfl rfl dX10_sinks_61 ?_
          refine z_iload C 0 dX10_sinks_64 rfl ?_
          refine z_iconst (z := 1) C dX10_sinks_66 rfl ?_
          refine z_iadd C dX10_sinks_67 ?_
          refine z_iald C (lt_A (c := 1) hN rfl) hay6 f2 (qy10 + 1) (by omega) (by omega) (by decide) dX10_sinks_68 ?_
          refine z_aload_n C 1 dX10_sinks_69 rfl ?_
          refine z_get (v := .ref (ad (i + 7))) C (lt_A0 hN rfl) hay5 ((f3 _ (by omega)).trans hg) rfl inA_X10 6 (by decide) q_1465 rfl rfl dX10_sinks_70 ?_
          refine z_iconst (z := 5) C dX10_sinks_73 rfl ?_
          refine z_aload_n C 1 dX10_sinks_74 rfl ?_
          refine z_get (v := .ref (ad (i + 1))) C (lt_A0 hN rfl) hay5 ((f3 _ (by omega)).trans hg) rfl inA_X10 0 (by decide) q_1459 rfl rfl dX10_sinks_75 ?_
          refine z_iload C 0 dX10_sinks_78 rfl ?_
          refine z_iconst (z := 0) C dX10_sinks_80 rfl ?_
          refine z_iadd C dX10_sinks_81 ?_
          refine z_iald C (lt_A (c := 1) hN rfl) hay6 f2 (qy10) (by omega) (by omega) (by decide) dX10_sinks_82 ?_
          refine z_iadd C dX10_sinks_83 ?_
          refine z_iald C (lt_A (c := 7) hN rfl) hay7 ((f3 _ (by omega)).trans ha7) ((5 + (r9 (qy10))).toNat) (by omega) (by omega) (by decide) dX10_sinks_84 ?_
          have hrfy14 := hT ((5 + (r9 (qy10))).toNat) (by omega)
          refine z_imul C dX10_sinks_85 ?_
          obtain ⟨xy15, exy15, hxy15⟩ := mulb (a := r9 (qy10 + 1)) (b := tb ((5 + (r9 (qy10))).toNat)) (A := 138500) (B := 9999) ⟨by omega, by omega⟩ ⟨by omega, by omega⟩
          rw [exy15]
          refine z_bipush (z := 100) C dX10_sinks_86 (by decide) ?_
          refine z_idiv C dX10_sinks_88 (by omega) (by omega) (by omega) ?_
          obtain ⟨xy16, exy16, hxy16⟩ : ∃ x9, (xy15).tdiv 100 = x9 ∧ (0 ≤ xy15 → 0 ≤ x9 ∧ 100 * x9 ≤ xy15 ∧ xy15 < 100 * x9 + 100) ∧ (xy15 ≤ 0 → x9 ≤ 0 ∧ xy15 ≤ 100 * x9 ∧ 100 * x9 < xy15 + 100) := tdk 100 (by decide)
          rw [exy16]
          refine z_isub C dX10_sinks_89 ?_
          refine z_istore (lv' := [(5, .int (zI ((r9 (qy10 + 2)) - xy16))), (4, .int (zI ((qy10 : Int)))), (0, .ref (ad i)), (1, .int (zI ((b : Int)))), (2, .int (zI ((s : Int)))), (3, .int (zI (ll)))]) C dX10_sinks_90 (by decide) rfl ?_
          refine z_iload C 0 dX10_sinks_92 rfl ?_
          refine z_if_gt (tgt := 100) C dX10_sinks_94 (by decide) (by omega) (fun hby17 => ?_) (fun hby17 => ?_)
          · refine z_aload_n C 2 dX10_sinks_100 rfl ?_
            refine z_get (v := .ref (ad (i + 1))) C (lt_A0 hN rfl) hay5 ((f3 _ (by omega)).trans hg) rfl inA_X10 0 (by decide) q_1459 rfl rfl dX10_sinks_101 ?_
            refine z_iload C 1 dX10_sinks_104 rfl ?_
            refine z_iconst (z := 2) C dX10_sinks_106 rfl ?_
            refine z_iadd C dX10_sinks_107 ?_
            refine z_dup2 C dX10_sinks_108 rfl rfl ?_
            refine z_iald C (lt_A (c := 1) hN rfl) hay6 f2 (qy10 + 2) (by omega) (by omega) (by decide) dX10_sinks_109 ?_
            refine z_iload C 0 dX10_sinks_110 rfl ?_
            refine z_isub C dX10_sinks_112 ?_
            refine z_iast C (lt_A (c := 1) hN rfl) hay6 f2 (qy10 + 2) (by omega) (by omega) (by decide) dX10_sinks_113 (fun gy18 egy19 => ?_)
            have hgy20 := up_s egy19
            obtain ⟨ry21, hvy22⟩ : ∃ rZ9 : Nat → Int, rZ9 = uZ r9 (qy10 + 2) ((r9 (qy10 + 2)) - ((r9 (qy10 + 2)) - xy16)) := ⟨_, rfl⟩
            rw [← hvy22] at hgy20
            refine z_iload_n C 5 dX10_sinks_114 rfl ?_
            refine z_if_ne (tgt := 129) C dX10_sinks_115 (by decide) (by omega) (fun hby23 => ?_) (fun hby23 => ?_)
            · refine z_aload_n C 2 dX10_sinks_129 rfl ?_
              have hgy24 := up_n egy19 ((f3 _ (by omega)).trans hg) (ne_o (i := i) (c := 0) (d := 1) rfl)
              refine z_get (v := .ref (ad (i + 1))) C (lt_A0 hN rfl) hay5 hgy24 rfl inA_X10 0 (by decide) q_1459 rfl rfl dX10_sinks_130 ?_
              refine z_iload_n C 3 dX10_sinks_133 rfl ?_
              refine z_iload_n C 4 dX10_sinks_134 rfl ?_
              refine z_iload_n C 5 dX10_sinks_135 rfl ?_
              refine z_iconst (z := 1) C dX10_sinks_136 rfl ?_
              refine z_isub C dX10_sinks_137 ?_
              obtain ⟨ky25, hky25⟩ : ∃ k9 : Nat, (ll - 1) = (k9 : Int) := ⟨((ll - 1) : Int).toNat, by omega⟩
              obtain ⟨qy26, hqy26⟩ : ∃ q9 : Nat, p + 2 + 7 * ky25 = q9 := ⟨_, rfl⟩
              obtain ⟨⟨hKzy27, hIzy27, hWzy27, hDzy27, hTzy27, hnzy27⟩, hmzy27, hdzy27⟩ := okS.layer f4 (k := ky25) (by omega) hqy26
              refine z_cS (As := [.int (zI ((b : Int))), .int (zI ((s : Int))), .int (zI (ll - 1))]) (rest := [.ref (ad (i + 1))]) C (c_X10_at l D A cs tt N ad _ ((b : Int)) (by omega) ((s : Int)) (by omega) (ll - 1) (by omega)) ms_yX10_at q_1753 hd_yX10_at (by decide) (Nat.le_of_ble_eq_true rfl) (by decide) dX10_sinks_138 rfl (kI0 fun vy28 gvy28 hvy28 => ?_)
              obtain ⟨hvy28, rfl⟩ := hvy28
              rw [show vy28 = (qy26 : Int) by omega]
              refine z_iconst (z := 2) C dX10_sinks_141 rfl ?_
              refine z_iadd C dX10_sinks_142 ?_
              refine z_dup2 C dX10_sinks_143 rfl rfl ?_
              refine z_iald C (lt_A (c := 1) hN rfl) hay6 hgy20 (qy26 + 2) (by omega) (by omega) (by decide) dX10_sinks_144 ?_
              rw [show ry21 (qy26 + 2) = r9 (qy26 + 2) from (congrFun hvy22 _).trans ((uZ_n _ _ (by omega)).trans (rfl))]
              refine z_iload C 0 dX10_sinks_145 rfl ?_
              refine z_iadd C dX10_sinks_147 ?_
              refine z_iast C (lt_A (c := 1) hN rfl) hay6 hgy20 (qy26 + 2) (by omega) (by omega) (by decide) dX10_sinks_148 (fun gy29 egy30 => ?_)
              have hgy31 := up_s egy30
              obtain ⟨ry32, hvy33⟩ : ∃ rZ9 : Nat → Int, rZ9 = uZ ry21 (qy26 + 2) ((r9 (qy26 + 2)) + ((r9 (qy10 + 2)) - xy16)) := ⟨_, rfl⟩
              rw [← hvy33] at hgy31
              refine z_iinc (z := ll - 1) (lv' := [(3, .int (zI (ll - 1))), (5, .int (zI ((r9 (qy10 + 2)) - xy16))), (4, .int (zI ((qy10 : Int)))), (0, .ref (ad i)), (1, .int (zI ((b : Int)))), (2, .int (zI ((s : Int))))]) (j := 5) C dX10_sinks_149 rfl (congrArg zI (by omega)) (by decide) rfl ?_
              refine z_goto (tgt := 9) C dX10_sinks_152 (by decide) ?_
              have hfry34 : ∀ j, j ≠ qy26 + 2 → j ≠ qy10 + 2 → ry32 j = r9 j := fun j n0 n1 => (congrFun hvy33 _).trans ((uZ_n _ _ n0).trans ((congrFun hvy22 _).trans ((uZ_n _ _ n1).trans (rfl))))
              have hwy36 : ry32 (p) = r9 (p) := (congrFun hvy33 _).trans ((uZ_n _ _ (by omega)).trans ((congrFun hvy22 _).trans ((uZ_n _ _ (by omega)).trans (rfl))))
              have hwy37 : ry32 (qy26) = r9 (qy26) := (congrFun hvy33 _).trans ((uZ_n _ _ (by omega)).trans ((congrFun hvy22 _).trans ((uZ_n _ _ (by omega)).trans (rfl))))
              have hwy38 : ry32 (qy26 + 1) = r9 (qy26 + 1) := (congrFun hvy33 _).trans ((uZ_n _ _ (by omega)).trans ((congrFun hvy22 _).trans ((uZ_n _ _ (by omega)).trans (rfl))))
              have hwy39 : ry32 (qy26 + 2) = (r9 (qy26 + 2)) + ((r9 (qy10 + 2)) - xy16) := (congrFun hvy33 _).trans (uZ_s _ _ _)
              have hwy40 : ry32 (qy26 + 3) = r9 (qy26 + 3) := (congrFun hvy33 _).trans ((uZ_n _ _ (by omega)).trans ((congrFun hvy22 _).trans ((uZ_n _ _ (by omega)).trans (rfl))))
              have hwy41 : ry32 (qy26 + 4) = r9 (qy26 + 4) := (congrFun hvy33 _).trans ((uZ_n _ _ (by omega)).trans ((congrFun hvy22 _).trans ((uZ_n _ _ (by omega)).trans (rfl))))
              have hwy42 : ry32 (qy26 + 6) = r9 (qy26 + 6) := (congrFun hvy33 _).trans ((uZ_n _ _ (by omega)).trans ((congrFun hvy22 _).trans ((uZ_n _ _ (by omega)).trans (rfl))))
              have hlyy43 : ly ry32 qy26 := by unfold ly; omega
              have hwy44 : ry32 (qy10) = r9 (qy10) := (congrFun hvy33 _).trans ((uZ_n _ _ (by omega)).trans ((congrFun hvy22 _).trans ((uZ_n _ _ (by omega)).trans (rfl))))
              have hwy45 : ry32 (qy10 + 1) = r9 (qy10 + 1) := (congrFun hvy33 _).trans ((uZ_n _ _ (by omega)).trans ((congrFun hvy22 _).trans ((uZ_n _ _ (by omega)).trans (rfl))))
              have hwy46 : ry32 (qy10 + 2) = (r9 (qy10 + 2)) - ((r9 (qy10 + 2)) - xy16) := (congrFun hvy33 _).trans ((uZ_n _ _ (by omega)).trans ((congrFun hvy22 _).trans (uZ_s _ _ _)))
              have hwy47 : ry32 (qy10 + 3) = r9 (qy10 + 3) := (congrFun hvy33 _).trans ((uZ_n _ _ (by omega)).trans ((congrFun hvy22 _).trans ((uZ_n _ _ (by omega)).trans (rfl))))
              have hwy48 : ry32 (qy10 + 4) = r9 (qy10 + 4) := (congrFun hvy33 _).trans ((uZ_n _ _ (by omega)).trans ((congrFun hvy22 _).trans ((uZ_n _ _ (by omega)).trans (rfl))))
              have hwy49 : ry32 (qy10 + 6) = r9 (qy10 + 6) := (congrFun hvy33 _).trans ((uZ_n _ _ (by omega)).trans ((congrFun hvy22 _).trans ((uZ_n _ _ (by omega)).trans (rfl))))
              have hlyy50 : ly ry32 qy10 := by unfold ly; omega
              have hoky35 : okS ry32 p (M) (E) := okS.two f4 (k := ky25) (by omega) hqy26 (q2 := qy10) (by omega) (fun j a1 a2 a3 a4 => hfry34 j (by omega) (by omega)) hlyy43 hlyy50 (by omega) (by omega)
              refine z_lv (lv' := [(0, .ref (ad i)), (1, .int (zI ((b : Int)))), (2, .int (zI ((s : Int)))), (3, .int (zI (ll - 1)))]) [3, 4, 5, 0] rfl ?_
              exact ih _ (by omega) (ll - 1) ry32 gy29 rfl hgy31 (fun j j1 => by rw [egy30, va_up_ne _ _ (by omega)]; rw [egy19, va_up_ne _ _ (by omega)]; exact f3 j j1) hoky35 (fun j a1 => (hfry34 j (by omega) (by omega)).trans (f5 j a1)) (by rw [show ry32 p = r9 (p) from (congrFun hvy33 _).trans ((uZ_n _ _ (by omega)).trans ((congrFun hvy22 _).trans ((uZ_n _ _ (by omega)).trans (rfl))))]; exact f6) (by omega)
            · refine z_aload_n C 2 dX10_sinks_118 rfl ?_
              refine z_iload_n C 3 dX10_sinks_119 rfl ?_
              refine z_iload_n C 4 dX10_sinks_120 rfl ?_
              refine z_iload C 0 dX10_sinks_121 rfl ?_
              have hgy51 := up_n egy19 ((f3 _ (by omega)).trans hg) (ne_o (i := i) (c := 0) (d := 1) rfl)
              refine z_cV (As := [.int (zI ((b : Int))), .int (zI ((s : Int))), .int (zI ((r9 (qy10 + 2)) - xy16))]) (rest := []) (ci := 12) C (c_X10_runsOff l D A cs tt N ad _ i hN _ hgy51 _ hgy20 b s p hp (by omega) (by omega) ((r9 (qy10 + 2)) - xy16)) (lt_A0 hN rfl) hay5 hgy51 rfl rfl mv_yX10_runsOff q_1912 hd_yX10_runsOff (by decide) (Nat.le_of_ble_eq_true rfl) (by decide) dX10_sinks_123 rfl (kV0 fun gvy52 hvy52 => ?_)
              obtain ⟨hcvy52, hfvy52⟩ := hvy52
              obtain ⟨ry53, hvy54⟩ : ∃ rZ9 : Nat → Int, rZ9 = uZ ry21 (p + 1) (ry21 (p + 1) + ((r9 (qy10 + 2)) - xy16)) := ⟨_, rfl⟩
              rw [← hvy54] at hcvy52
              refine z_goto (tgt := 149) C dX10_sinks_126 (by decide) ?_
              refine z_iinc (z := ll - 1) (lv' := [(3, .int (zI (ll - 1))), (5, .int (zI ((r9 (qy10 + 2)) - xy16))), (4, .int (zI ((qy10 : Int)))), (0, .ref (ad i)), (1, .int (zI ((b : Int)))), (2, .int (zI ((s : Int))))]) (j := 5) C dX10_sinks_149 rfl (congrArg zI (by omega)) (by decide) rfl ?_
              refine z_goto (tgt := 9) C dX10_sinks_152 (by decide) ?_
              have hfry55 : ∀ j, j ≠ p + 1 → j ≠ qy10 + 2 → ry53 j = r9 j := fun j n0 n1 => (congrFun hvy54 _).trans ((uZ_n _ _ n0).trans ((congrFun hvy22 _).trans ((uZ_n _ _ n1).trans (rfl))))
              have hwy57 : ry53 (p) = r9 (p) := (congrFun hvy54 _).trans ((uZ_n _ _ (by omega)).trans ((congrFun hvy22 _).trans ((uZ_n _ _ (by omega)).trans (rfl))))
              have hwy58 : ry53 (qy10) = r9 (qy10) := (congrFun hvy54 _).trans ((uZ_n _ _ (by omega)).trans ((congrFun hvy22 _).trans ((uZ_n _ _ (by omega)).trans (rfl))))
              have hwy59 : ry53 (qy10 + 1) = r9 (qy10 + 1) := (congrFun hvy54 _).trans ((uZ_n _ _ (by omega)).trans ((congrFun hvy22 _).trans ((uZ_n _ _ (by omega)).trans (rfl))))
              have hwy60 : ry53 (qy10 + 2) = (r9 (qy10 + 2)) - ((r9 (qy10 + 2)) - xy16) := (congrFun hvy54 _).trans ((uZ_n _ _ (by omega)).trans ((congrFun hvy22 _).trans (uZ_s _ _ _)))
              have hwy61 : ry53 (qy10 + 3) = r9 (qy10 + 3) := (congrFun hvy54 _).trans ((uZ_n _ _ (by omega)).trans ((congrFun hvy22 _).trans ((uZ_n _ _ (by omega)).trans (rfl))))
              have hwy62 : ry53 (qy10 + 4) = r9 (qy10 + 4) := (congrFun hvy54 _).trans ((uZ_n _ _ (by omega)).trans ((congrFun hvy22 _).trans ((uZ_n _ _ (by omega)).trans (rfl))))
              have hwy63 : ry53 (qy10 + 6) = r9 (qy10 + 6) := (congrFun hvy54 _).trans ((uZ_n _ _ (by omega)).trans ((congrFun hvy22 _).trans ((uZ_n _ _ (by omega)).trans (rfl))))
              have hlyy64 : ly ry53 qy10 := by unfold ly; omega
              have hoky560 := okS.one 0 0 f4 (k := ky9) (by omega) hqy10 (fun j a1 a2 a3 a4 => hfry55 j (by omega) (by omega)) hlyy64 (by omega) (by omega)
              have hoky56 : okS ry53 p (M) (E) := hoky560.mono (by omega) (by omega)
              refine z_lv (lv' := [(0, .ref (ad i)), (1, .int (zI ((b : Int)))), (2, .int (zI ((s : Int)))), (3, .int (zI (ll - 1)))]) [3, 4, 5, 0] rfl ?_
              exact ih _ (by omega) (ll - 1) ry53 gvy52 rfl hcvy52 (fun j j1 => by rw [hfvy52 _ (by omega)]; rw [egy19, va_up_ne _ _ (by omega)]; exact f3 j j1) hoky56 (fun j a1 => (hfry55 j (by omega) (by omega)).trans (f5 j a1)) (by rw [show ry53 p = r9 (p) from (congrFun hvy54 _).trans ((uZ_n _ _ (by omega)).trans ((congrFun hvy22 _).trans ((uZ_n _ _ (by omega)).trans (rfl))))]; exact f6) (by omega)
          · refine z_goto (tgt := 149) C dX10_sinks_97 (by decide) ?_
            refine z_iinc (z := ll - 1) (lv' := [(3, .int (zI (ll - 1))), (5, .int (zI ((r9 (qy10 + 2)) - xy16))), (4, .int (zI ((qy10 : Int)))), (0, .ref (ad i)), (1, .int (zI ((b : Int)))), (2, .int (zI ((s : Int))))]) (j := 5) C dX10_sinks_149 rfl (congrArg zI (by omega)) (by decide) rfl ?_
            refine z_goto (tgt := 9) C dX10_sinks_152 (by decide) ?_
            refine z_lv (lv' := [(0, .ref (ad i)), (1, .int (zI ((b : Int)))), (2, .int (zI ((s : Int)))), (3, .int (zI (ll - 1)))]) [3, 4, 5, 0] rfl ?_
            exact ih _ (by omega) (ll - 1) r9 g1 rfl f2 (fun j j1 => by exact f3 j j1) f4 (f5) (by rw [show r9 p = r9 (p) from rfl]; exact f6) (by omega)
        · refine z_aload_n C 1 dX10_sinks_33 rfl ?_
          refine z_get (v := .ref (ad (i + 1))) C (lt_A0 hN rfl) hay5 ((f3 _ (by omega)).trans hg) rfl inA_X10 0 (by decide) q_1459 rfl rfl dX10_sinks_34 ?_
          refine z_iload C 0 dX10_sinks_37 rfl ?_
          refine z_iconst (z := 4) C dX10_sinks_39 rfl ?_
          refine z_iadd C dX10_sinks_40 ?_
          refine z_iald C (lt_A (c := 1) hN rfl) hay6 f2 (qy10 + 4) (by omega) (by omega) (by decide) dX10_sinks_41 ?_
          refine z_if_ge (tgt := 51) C dX10_sinks_42 (by decide) (by omega) (fun hby65 => ?_) (fun hby65 => ?_)
          · refine z_aload_n C 1 dX10_sinks_51 rfl ?_
            refine z_get (v := .ref (ad (i + 1))) C (lt_A0 hN rfl) hay5 ((f3 _ (by omega)).trans hg) rfl inA_X10 0 (by decide) q_1459 rfl rfl dX10_sinks_52 ?_
            refine z_iload C 0 dX10_sinks_55 rfl ?_
            refine z_iconst (z := 2) C dX10_sinks_57 rfl ?_
            refine z_iadd C dX10_sinks_58 ?_
            refine z_iald C (lt_A (c := 1) hN rfl) hay6 f2 (qy10 + 2) (by omega) (by omega) (by decide) dX10_sinks_59 ?_
            refine z_aload_n C 1 dX10_sinks_60 rfl ?_
            refine z_get (v := .ref (ad (i + 1))) C (lt_A0 hN rfl) hay5 ((f3 _ (by omega)).trans hg) rfl inA_X10 0 (by decide) q_1459 rfl rfl dX10_sinks_61 ?_
            refine z_iload C 0 dX10_sinks_64 rfl ?_
            refine z_iconst (z := 1) C dX10_sinks_66 rfl ?_
            refine z_iadd C dX10_sinks_67 ?_
            refine z_iald C (lt_A (c := 1) hN rfl) hay6 f2 (qy10 + 1) (by omega) (by omega) (by decide) dX10_sinks_68 ?_
            refine z_aload_n C 1 dX10_sinks_69 rfl ?_
            refine z_get (v := .ref (ad (i + 7))) C (lt_A0 hN rfl) hay5 ((f3 _ (by omega)).trans hg) rfl inA_X10 6 (by decide) q_1465 rfl rfl dX10_sinks_70 ?_
            refine z_iconst (z := 5) C dX10_sinks_73 rfl ?_
            refine z_aload_n C 1 dX10_sinks_74 rfl ?_
            refine z_get (v := .ref (ad (i + 1))) C (lt_A0 hN rfl) hay5 ((f3 _ (by omega)).trans hg) rfl inA_X10 0 (by decide) q_1459 rfl rfl dX10_sinks_75 ?_
            refine z_iload C 0 dX10_sinks_78 rfl ?_
            refine z_iconst (z := 0) C dX10_sinks_80 rfl ?_
            refine z_iadd C dX10_sinks_81 ?_
            refine z_iald C (lt_A (c := 1) hN rfl) hay6 f2 (qy10) (by omega) (by omega) (by decide) dX10_sinks_82 ?_
            refine z_iadd C dX10_sinks_83 ?_
            refine z_iald C (lt_A (c := 7) hN rfl) hay7 ((f3 _ (by omega)).trans ha7) ((5 + (r9 (qy10))).toNat) (by omega) (by omega) (by decide) dX10_sinks_84 ?_
            have hrfy66 := hT ((5 + (r9 (qy10))).toNat) (by omega)
            refine z_imul C dX10_sinks_85 ?_
            obtain ⟨xy67, exy67, hxy67⟩ := mulb (a := r9 (qy10 + 1)) (b := tb ((5 + (r9 (qy10))).toNat)) (A := 138500) (B := 9999) ⟨by omega, by omega⟩ ⟨by omega, by omega⟩
            rw [exy67]
            refine z_bipush (z := 100) C dX10_sinks_86 (by decide) ?_
            refine z_idiv C dX10_sinks_88 (by omega) (by omega) (by omega) ?_
            obtain ⟨xy68, exy68, hxy68⟩ : ∃ x9, (xy67).tdiv 100 = x9 ∧ (0 ≤ xy67 → 0 ≤ x9 ∧ 100 * x9 ≤ xy67 ∧ xy67 < 100 * x9 + 100) ∧ (xy67 ≤ 0 → x9 ≤ 0 ∧ xy67 ≤ 100 * x9 ∧ 100 * x9 < xy67 + 100) := tdk 100 (by decide)
            rw [exy68]
            refine z_isub C dX10_sinks_89 ?_
            refine z_istore (lv' := [(5, .int (zI ((r9 (qy10 + 2)) - xy68))), (4, .int (zI ((qy10 : Int)))), (0, .ref (ad i)), (1, .int (zI ((b : Int)))), (2, .int (zI ((s : Int)))), (3, .int (zI (ll)))]) C dX10_sinks_90 (by decide) rfl ?_
            refine z_iload C 0 dX10_sinks_92 rfl ?_
            refine z_if_gt (tgt := 100) C dX10_sinks_94 (by decide) (by omega) (fun hby69 => ?_) (fun hby69 => ?_)
            · refine z_aload_n C 2 dX10_sinks_100 rfl ?_
              refine z_get (v := .ref (ad (i + 1))) C (lt_A0 hN rfl) hay5 ((f3 _ (by omega)).trans hg) rfl inA_X10 0 (by decide) q_1459 rfl rfl dX10_sinks_101 ?_
              refine z_iload C 1 dX10_sinks_104 rfl ?_
              refine z_iconst (z := 2) C dX10_sinks_106 rfl ?_
              refine z_iadd C dX10_sinks_107 ?_
              refine z_dup2 C dX10_sinks_108 rfl rfl ?_
              refine z_iald C (lt_A (c := 1) hN rfl) hay6 f2 (qy10 + 2) (by omega) (by omega) (by decide) dX10_sinks_109 ?_
              refine z_iload C 0 dX10_sinks_110 rfl ?_
              refine z_isub C dX10_sinks_112 ?_
              refine z_iast C (lt_A (c := 1) hN rfl) hay6 f2 (qy10 + 2) (by omega) (by omega) (by decide) dX10_sinks_113 (fun gy70 egy71 => ?_)
              have hgy72 := up_s egy71
              obtain ⟨ry73, hvy74⟩ : ∃ rZ9 : Nat → Int, rZ9 = uZ r9 (qy10 + 2) ((r9 (qy10 + 2)) - ((r9 (qy10 + 2)) - xy68)) := ⟨_, rfl⟩
              rw [← hvy74] at hgy72
              refine z_iload_n C 5 dX10_sinks_114 rfl ?_
              refine z_if_ne (tgt := 129) C dX10_sinks_115 (by decide) (by omega) (fun hby75 => ?_) (fun hby75 => ?_)
              · refine z_aload_n C 2 dX10_sinks_129 rfl ?_
                have hgy76 := up_n egy71 ((f3 _ (by omega)).trans hg) (ne_o (i := i) (c := 0) (d := 1) rfl)
                refine z_get (v := .ref (ad (i + 1))) C (lt_A0 hN rfl) hay5 hgy76 rfl inA_X10 0 (by decide) q_1459 rfl rfl dX10_sinks_130 ?_
                refine z_iload_n C 3 dX10_sinks_133 rfl ?_
                refine z_iload_n C 4 dX10_sinks_134 rfl ?_
                refine z_iload_n C 5 dX10_sinks_135 rfl ?_
                refine z_iconst (z := 1) C dX10_sinks_136 rfl ?_
                refine z_isub C dX10_sinks_137 ?_
                obtain ⟨ky77, hky77⟩ : ∃ k9 : Nat, (ll - 1) = (k9 : Int) := ⟨((ll - 1) : Int).toNat, by omega⟩
                obtain ⟨qy78, hqy78⟩ : ∃ q9 : Nat, p + 2 + 7 * ky77 = q9 := ⟨_, rfl⟩
                obtain ⟨⟨hKzy79, hIzy79, hWzy79, hDzy79, hTzy79, hnzy79⟩, hmzy79, hdzy79⟩ := okS.layer f4 (k := ky77) (by omega) hqy78
                refine z_cS (As := [.int (zI ((b : Int))), .int (zI ((s : Int))), .int (zI (ll - 1))]) (rest := [.ref (ad (i + 1))]) C (c_X10_at l D A cs tt N ad _ ((b : Int)) (by omega) ((s : Int)) (by omega) (ll - 1) (by omega)) ms_yX10_at q_1753 hd_yX10_at (by decide) (Nat.le_of_ble_eq_true rfl) (by decide) dX10_sinks_138 rfl (kI0 fun vy80 gvy80 hvy80 => ?_)
                obtain ⟨hvy80, rfl⟩ := hvy80
                rw [show vy80 = (qy78 : Int) by omega]
                refine z_iconst (z := 2) C dX10_sinks_141 rfl ?_
                refine z_iadd C dX10_sinks_142 ?_
                refine z_dup2 C dX10_sinks_143 rfl rfl ?_
                refine z_iald C (lt_A (c := 1) hN rfl) hay6 hgy72 (qy78 + 2) (by omega) (by omega) (by decide) dX10_sinks_144 ?_
                rw [show ry73 (qy78 + 2) = r9 (qy78 + 2) from (congrFun hvy74 _).trans ((uZ_n _ _ (by omega)).trans (rfl))]
                refine z_iload C 0 dX10_sinks_145 rfl ?_
                refine z_iadd C dX10_sinks_147 ?_
                refine z_iast C (lt_A (c := 1) hN rfl) hay6 hgy72 (qy78 + 2) (by omega) (by omega) (by decide) dX10_sinks_148 (fun gy81 egy82 => ?_)
                have hgy83 := up_s egy82
                obtain ⟨ry84, hvy85⟩ : ∃ rZ9 : Nat → Int, rZ9 = uZ ry73 (qy78 + 2) ((r9 (qy78 + 2)) + ((r9 (qy10 + 2)) - xy68)) := ⟨_, rfl⟩
                rw [← hvy85] at hgy83
                refine z_iinc (z := ll - 1) (lv' := [(3, .int (zI (ll - 1))), (5, .int (zI ((r9 (qy10 + 2)) - xy68))), (4, .int (zI ((qy10 : Int)))), (0, .ref (ad i)), (1, .int (zI ((b : Int)))), (2, .int (zI ((s : Int))))]) (j := 5) C dX10_sinks_149 rfl (congrArg zI (by omega)) (by decide) rfl ?_
                refine z_goto (tgt := 9) C dX10_sinks_152 (by decide) ?_
                have hfry86 : ∀ j, j ≠ qy78 + 2 → j ≠ qy10 + 2 → ry84 j = r9 j := fun j n0 n1 => (congrFun hvy85 _).trans ((uZ_n _ _ n0).trans ((congrFun hvy74 _).trans ((uZ_n _ _ n1).trans (rfl))))
                have hwy88 : ry84 (p) = r9 (p) := (congrFun hvy85 _).trans ((uZ_n _ _ (by omega)).trans ((congrFun hvy74 _).trans ((uZ_n _ _ (by omega)).trans (rfl))))
                have hwy89 : ry84 (qy78) = r9 (qy78) := (congrFun hvy85 _).trans ((uZ_n _ _ (by omega)).trans ((congrFun hvy74 _).trans ((uZ_n _ _ (by omega)).trans (rfl))))
                have hwy90 : ry84 (qy78 + 1) = r9 (qy78 + 1) := (congrFun hvy85 _).trans ((uZ_n _ _ (by omega)).trans ((congrFun hvy74 _).trans ((uZ_n _ _ (by omega)).trans (rfl))))
                have hwy91 : ry84 (qy78 + 2) = (r9 (qy78 + 2)) + ((r9 (qy10 + 2)) - xy68) := (congrFun hvy85 _).trans (uZ_s _ _ _)
                have hwy92 : ry84 (qy78 + 3) = r9 (qy78 + 3) := (congrFun hvy85 _).trans ((uZ_n _ _ (by omega)).trans ((congrFun hvy74 _).trans ((uZ_n _ _ (by omega)).trans (rfl))))
                have hwy93 : ry84 (qy78 + 4) = r9 (qy78 + 4) := (congrFun hvy85 _).trans ((uZ_n _ _ (by omega)).trans ((congrFun hvy74 _).trans ((uZ_n _ _ (by omega)).trans (rfl))))
                have hwy94 : ry84 (qy78 + 6) = r9 (qy78 + 6) := (congrFun hvy85 _).trans ((uZ_n _ _ (by omega)).trans ((congrFun hvy74 _).trans ((uZ_n _ _ (by omega)).trans (rfl))))
                have hlyy95 : ly ry84 qy78 := by unfold ly; omega
                have hwy96 : ry84 (qy10) = r9 (qy10) := (congrFun hvy85 _).trans ((uZ_n _ _ (by omega)).trans ((congrFun hvy74 _).trans ((uZ_n _ _ (by omega)).trans (rfl))))
                have hwy97 : ry84 (qy10 + 1) = r9 (qy10 + 1) := (congrFun hvy85 _).trans ((uZ_n _ _ (by omega)).trans ((congrFun hvy74 _).trans ((uZ_n _ _ (by omega)).trans (rfl))))
                have hwy98 : ry84 (qy10 + 2) = (r9 (qy10 + 2)) - ((r9 (qy10 + 2)) - xy68) := (congrFun hvy85 _).trans ((uZ_n _ _ (by omega)).trans ((congrFun hvy74 _).trans (uZ_s _ _ _)))
                have hwy99 : ry84 (qy10 + 3) = r9 (qy10 + 3) := (congrFun hvy85 _).trans ((uZ_n _ _ (by omega)).trans ((congrFun hvy74 _).trans ((uZ_n _ _ (by omega)).trans (rfl))))
                have hwy100 : ry84 (qy10 + 4) = r9 (qy10 + 4) := (congrFun hvy85 _).trans ((uZ_n _ _ (by omega)).trans ((congrFun hvy74 _).trans ((uZ_n _ _ (by omega)).trans (rfl))))
                have hwy101 : ry84 (qy10 + 6) = r9 (qy10 + 6) := (congrFun hvy85 _).trans ((uZ_n _ _ (by omega)).trans ((congrFun hvy74 _).trans ((uZ_n _ _ (by omega)).trans (rfl))))
                have hlyy102 : ly ry84 qy10 := by unfold ly; omega
                have hoky87 : okS ry84 p (M) (E) := okS.two f4 (k := ky77) (by omega) hqy78 (q2 := qy10) (by omega) (fun j a1 a2 a3 a4 => hfry86 j (by omega) (by omega)) hlyy95 hlyy102 (by omega) (by omega)
                refine z_lv (lv' := [(0, .ref (ad i)), (1, .int (zI ((b : Int)))), (2, .int (zI ((s : Int)))), (3, .int (zI (ll - 1)))]) [3, 4, 5, 0] rfl ?_
                exact ih _ (by omega) (ll - 1) ry84 gy81 rfl hgy83 (fun j j1 => by rw [egy82, va_up_ne _ _ (by omega)]; rw [egy71, va_up_ne _ _ (by omega)]; exact f3 j j1) hoky87 (fun j a1 => (hfry86 j (by omega) (by omega)).trans (f5 j a1)) (by rw [show ry84 p = r9 (p) from (congrFun hvy85 _).trans ((uZ_n _ _ (by omega)).trans ((congrFun hvy74 _).trans ((uZ_n _ _ (by omega)).trans (rfl))))]; exact f6) (by omega)
              · refine z_aload_n C 2 dX10_sinks_118 rfl ?_
                refine z_iload_n C 3 dX10_sinks_119 rfl ?_
                refine z_iload_n C 4 dX10_sinks_120 rfl ?_
                refine z_iload C 0 dX10_sinks_121 rfl ?_
                have hgy103 := up_n egy71 ((f3 _ (by omega)).trans hg) (ne_o (i := i) (c := 0) (d := 1) rfl)
                refine z_cV (As := [.int (zI ((b : Int))), .int (zI ((s : Int))), .int (zI ((r9 (qy10 + 2)) - xy68))]) (rest := []) (ci := 12) C (c_X10_runsOff l D A cs tt N ad _ i hN _ hgy103 _ hgy72 b s p hp (by omega) (by omega) ((r9 (qy10 + 2)) - xy68)) (lt_A0 hN rfl) hay5 hgy103 rfl rfl mv_yX10_runsOff q_1912 hd_yX10_runsOff (by decide) (Nat.le_of_ble_eq_true rfl) (by decide) dX10_sinks_123 rfl (kV0 fun gvy104 hvy104 => ?_)
                obtain ⟨hcvy104, hfvy104⟩ := hvy104
                obtain ⟨ry105, hvy106⟩ : ∃ rZ9 : Nat → Int, rZ9 = uZ ry73 (p + 1) (ry73 (p + 1) + ((r9 (qy10 + 2)) - xy68)) := ⟨_, rfl⟩
                rw [← hvy106] at hcvy104
                refine z_goto (tgt := 149) C dX10_sinks_126 (by decide) ?_
                refine z_iinc (z := ll - 1) (lv' := [(3, .int (zI (ll - 1))), (5, .int (zI ((r9 (qy10 + 2)) - xy68))), (4, .int (zI ((qy10 : Int)))), (0, .ref (ad i)), (1, .int (zI ((b : Int)))), (2, .int (zI ((s : Int))))]) (j := 5) C dX10_sinks_149 rfl (congrArg zI (by omega)) (by decide) rfl ?_
                refine z_goto (tgt := 9) C dX10_sinks_152 (by decide) ?_
                have hfry107 : ∀ j, j ≠ p + 1 → j ≠ qy10 + 2 → ry105 j = r9 j := fun j n0 n1 => (congrFun hvy106 _).trans ((uZ_n _ _ n0).trans ((congrFun hvy74 _).trans ((uZ_n _ _ n1).trans (rfl))))
                have hwy109 : ry105 (p) = r9 (p) := (congrFun hvy106 _).trans ((uZ_n _ _ (by omega)).trans ((congrFun hvy74 _).trans ((uZ_n _ _ (by omega)).trans (rfl))))
                have hwy110 : ry105 (qy10) = r9 (qy10) := (congrFun hvy106 _).trans ((uZ_n _ _ (by omega)).trans ((congrFun hvy74 _).trans ((uZ_n _ _ (by omega)).trans (rfl))))
                have hwy111 : ry105 (qy10 + 1) = r9 (qy10 + 1) := (congrFun hvy106 _).trans ((uZ_n _ _ (by omega)).trans ((congrFun hvy74 _).trans ((uZ_n _ _ (by omega)).trans (rfl))))
                have hwy112 : ry105 (qy10 + 2) = (r9 (qy10 + 2)) - ((r9 (qy10 + 2)) - xy68) := (congrFun hvy106 _).trans ((uZ_n _ _ (by omega)).trans ((congrFun hvy74 _).trans (uZ_s _ _ _)))
                have hwy113 : ry105 (qy10 + 3) = r9 (qy10 + 3) := (congrFun hvy106 _).trans ((uZ_n _ _ (by omega)).trans ((congrFun hvy74 _).trans ((uZ_n _ _ (by omega)).trans (rfl))))
                have hwy114 : ry105 (qy10 + 4) = r9 (qy10 + 4) := (congrFun hvy106 _).trans ((uZ_n _ _ (by omega)).trans ((congrFun hvy74 _).trans ((uZ_n _ _ (by omega)).trans (rfl))))
                have hwy115 : ry105 (qy10 + 6) = r9 (qy10 + 6) := (congrFun hvy106 _).trans ((uZ_n _ _ (by omega)).trans ((congrFun hvy74 _).trans ((uZ_n _ _ (by omega)).trans (rfl))))
                have hlyy116 : ly ry105 qy10 := by unfold ly; omega
                have hoky1080 := okS.one 0 0 f4 (k := ky9) (by omega) hqy10 (fun j a1 a2 a3 a4 => hfry107 j (by omega) (by omega)) hlyy116 (by omega) (by omega)
                have hoky108 : okS ry105 p (M) (E) := hoky1080.mono (by omega) (by omega)
                refine z_lv (lv' := [(0, .ref (ad i)), (1, .int (zI ((b : Int)))), (2, .int (zI ((s : Int)))), (3, .int (zI (ll - 1)))]) [3, 4, 5, 0] rfl ?_
                exact ih _ (by omega) (ll - 1) ry105 gvy104 rfl hcvy104 (fun j j1 => by rw [hfvy104 _ (by omega)]; rw [egy71, va_up_ne _ _ (by omega)]; exact f3 j j1) hoky108 (fun j a1 => (hfry107 j (by omega) (by omega)).trans (f5 j a1)) (by rw [show ry105 p = r9 (p) from (congrFun hvy106 _).trans ((uZ_n _ _ (by omega)).trans ((congrFun hvy74 _).trans ((uZ_n _ _ (by omega)).trans (rfl))))]; exact f6) (by omega)
            · refine z_goto (tgt := 149) C dX10_sinks_97 (by decide) ?_
              refine z_iinc (z := ll - 1) (lv' := [(3, .int (zI (ll - 1))), (5, .int (zI ((r9 (qy10 + 2)) - xy68))), (4, .int (zI ((qy10 : Int)))), (0, .ref (ad i)), (1, .int (zI ((b : Int)))), (2, .int (zI ((s : Int))))]) (j := 5) C dX10_sinks_149 rfl (congrArg zI (by omega)) (by decide) rfl ?_
              refine z_goto (tgt := 9) C dX10_sinks_152 (by decide) ?_
              refine z_lv (lv' := [(0, .ref (ad i)), (1, .int (zI ((b : Int)))), (2, .int (zI ((s : Int)))), (3, .int (zI (ll - 1)))]) [3, 4, 5, 0] rfl ?_
              exact ih _ (by omega) (ll - 1) r9 g1 rfl f2 (fun j j1 => by exact f3 j j1) f4 (f5) (by rw [show r9 p = r9 (p) from rfl]; exact f6) (by omega)
          · refine z_aload_n C 1 dX10_sinks_45 rfl ?_
            refine z_iload C 0 dX10_sinks_46 rfl ?_
            refine z_cV (As := [.int (zI ((qy10 : Int)))]) (rest := []) (ci := 12) C (c_X10_freezes l D A cs tt N ad _ i hN _ ((f3 _ (by omega)).trans hg) _ f2 qy10 (by omega) (by omega) (by omega) (by omega) (by omega) (by omega)) (lt_A0 hN rfl) hay5 ((f3 _ (by omega)).trans hg) rfl rfl mv_yX10_freezes q_1932 hd_yX10_freezes (by decide) (Nat.le_of_ble_eq_true rfl) (by decide) dX10_sinks_48 rfl (kV0 fun gvy117 hvy117 => ?_)
            obtain ⟨⟨rvy117, hcvy117, hxvy117, hyvy117⟩, hfvy117⟩ := hvy117
            refine z_aload_n C 1 dX10_sinks_51 rfl ?_
            have hgy118 := (hfvy117 (i) (ne_o (i := i) (c := 0) (d := 1) rfl)).trans ((f3 _ (by omega)).trans hg)
            refine z_get (v := .ref (ad (i + 1))) C (lt_A0 hN rfl) hay5 hgy118 rfl inA_X10 0 (by decide) q_1459 rfl rfl dX10_sinks_52 ?_
            refine z_iload C 0 dX10_sinks_55 rfl ?_
            refine z_iconst (z := 2) C dX10_sinks_57 rfl ?_
            refine z_iadd C dX10_sinks_58 ?_
            refine z_iald C (lt_A (c := 1) hN rfl) hay6 hcvy117 (qy10 + 2) (by omega) (by omega) (by decide) dX10_sinks_59 ?_
            refine z_aload_n C 1 dX10_sinks_60 rfl ?_
            refine z_get (v := .ref (ad (i + 1))) C (lt_A0 hN rfl) hay5 hgy118 rfl inA_X10 0 (by decide) q_1459 rfl rfl dX10_sinks_61 ?_
            refine z_iload C 0 dX10_sinks_64 rfl ?_
            refine z_iconst (z := 1) C dX10_sinks_66 rfl ?_
            refine z_iadd C dX10_sinks_67 ?_
            refine z_iald C (lt_A (c := 1) hN rfl) hay6 hcvy117 (qy10 + 1) (by omega) (by omega) (by decide) dX10_sinks_68 ?_
            refine z_aload_n C 1 dX10_sinks_69 rfl ?_
            refine z_get (v := .ref (ad (i + 7))) C (lt_A0 hN rfl) hay5 hgy118 rfl inA_X10 6 (by decide) q_1465 rfl rfl dX10_sinks_70 ?_
            refine z_iconst (z := 5) C dX10_sinks_73 rfl ?_
            refine z_aload_n C 1 dX10_sinks_74 rfl ?_
            refine z_get (v := .ref (ad (i + 1))) C (lt_A0 hN rfl) hay5 hgy118 rfl inA_X10 0 (by decide) q_1459 rfl rfl dX10_sinks_75 ?_
            refine z_iload C 0 dX10_sinks_78 rfl ?_
            refine z_iconst (z := 0) C dX10_sinks_80 rfl ?_
            refine z_iadd C dX10_sinks_81 ?_
            refine z_iald C (lt_A (c := 1) hN rfl) hay6 hcvy117 (qy10) (by omega) (by omega) (by decide) dX10_sinks_82 ?_
            refine z_iadd C dX10_sinks_83 ?_
            have hgy119 := (hfvy117 (i + 7) (ne_o (i := i) (c := 7) (d := 1) rfl)).trans ((f3 _ (by omega)).trans ha7)
            refine z_iald C (lt_A (c := 7) hN rfl) hay7 hgy119 ((5 + (rvy117 (qy10))).toNat) (by omega) (by omega) (by decide) dX10_sinks_84 ?_
            have hrfy120 := hT ((5 + (rvy117 (qy10))).toNat) (by omega)
            refine z_imul C dX10_sinks_85 ?_
            obtain ⟨xy121, exy121, hxy121⟩ := mulb (a := rvy117 (qy10 + 1)) (b := tb ((5 + (rvy117 (qy10))).toNat)) (A := 138500) (B := 9999) ⟨by omega, by omega⟩ ⟨by omega, by omega⟩
            rw [exy121]
            refine z_bipush (z := 100) C dX10_sinks_86 (by decide) ?_
            refine z_idiv C dX10_sinks_88 (by omega) (by omega) (by omega) ?_
            obtain ⟨xy122, exy122, hxy122⟩ : ∃ x9, (xy121).tdiv 100 = x9 ∧ (0 ≤ xy121 → 0 ≤ x9 ∧ 100 * x9 ≤ xy121 ∧ xy121 < 100 * x9 + 100) ∧ (xy121 ≤ 0 → x9 ≤ 0 ∧ xy121 ≤ 100 * x9 ∧ 100 * x9 < xy121 + 100) := tdk 100 (by decide)
            rw [exy122]
            refine z_isub C dX10_sinks_89 ?_
            refine z_istore (lv' := [(5, .int (zI ((rvy117 (qy10 + 2)) - xy122))), (4, .int (zI ((qy10 : Int)))), (0, .ref (ad i)), (1, .int (zI ((b : Int)))), (2, .int (zI ((s : Int)))), (3, .int (zI (ll)))]) C dX10_sinks_90 (by decide) rfl ?_
            refine z_iload C 0 dX10_sinks_92 rfl ?_
            refine z_if_gt (tgt := 100) C dX10_sinks_94 (by decide) (by omega) (fun hby123 => ?_) (fun hby123 => ?_)
            · refine z_aload_n C 2 dX10_sinks_100 rfl ?_
              refine z_get (v := .ref (ad (i + 1))) C (lt_A0 hN rfl) hay5 hgy118 rfl inA_X10 0 (by decide) q_1459 rfl rfl dX10_sinks_101 ?_
              refine z_iload C 1 dX10_sinks_104 rfl ?_
              refine z_iconst (z := 2) C dX10_sinks_106 rfl ?_
              refine z_iadd C dX10_sinks_107 ?_
              refine z_dup2 C dX10_sinks_108 rfl rfl ?_
              refine z_iald C (lt_A (c := 1) hN rfl) hay6 hcvy117 (qy10 + 2) (by omega) (by omega) (by decide) dX10_sinks_109 ?_
              refine z_iload C 0 dX10_sinks_110 rfl ?_
              refine z_isub C dX10_sinks_112 ?_
              refine z_iast C (lt_A (c := 1) hN rfl) hay6 hcvy117 (qy10 + 2) (by omega) (by omega) (by decide) dX10_sinks_113 (fun gy124 egy125 => ?_)
              have hgy126 := up_s egy125
              obtain ⟨ry127, hvy128⟩ : ∃ rZ9 : Nat → Int, rZ9 = uZ rvy117 (qy10 + 2) ((rvy117 (qy10 + 2)) - ((rvy117 (qy10 + 2)) - xy122)) := ⟨_, rfl⟩
              rw [← hvy128] at hgy126
              refine z_iload_n C 5 dX10_sinks_114 rfl ?_
              refine z_if_ne (tgt := 129) C dX10_sinks_115 (by decide) (by omega) (fun hby129 => ?_) (fun hby129 => ?_)
              · refine z_aload_n C 2 dX10_sinks_129 rfl ?_
                have hgy130 := up_n egy125 hgy118 (ne_o (i := i) (c := 0) (d := 1) rfl)
                refine z_get (v := .ref (ad (i + 1))) C (lt_A0 hN rfl) hay5 hgy130 rfl inA_X10 0 (by decide) q_1459 rfl rfl dX10_sinks_130 ?_
                refine z_iload_n C 3 dX10_sinks_133 rfl ?_
                refine z_iload_n C 4 dX10_sinks_134 rfl ?_
                refine z_iload_n C 5 dX10_sinks_135 rfl ?_
                refine z_iconst (z := 1) C dX10_sinks_136 rfl ?_
                refine z_isub C dX10_sinks_137 ?_
                obtain ⟨ky131, hky131⟩ : ∃ k9 : Nat, (ll - 1) = (k9 : Int) := ⟨((ll - 1) : Int).toNat, by omega⟩
                obtain ⟨qy132, hqy132⟩ : ∃ q9 : Nat, p + 2 + 7 * ky131 = q9 := ⟨_, rfl⟩
                obtain ⟨⟨hKzy133, hIzy133, hWzy133, hDzy133, hTzy133, hnzy133⟩, hmzy133, hdzy133⟩ := okS.layer f4 (k := ky131) (by omega) hqy132
                refine z_cS (As := [.int (zI ((b : Int))), .int (zI ((s : Int))), .int (zI (ll - 1))]) (rest := [.ref (ad (i + 1))]) C (c_X10_at l D A cs tt N ad _ ((b : Int)) (by omega) ((s : Int)) (by omega) (ll - 1) (by omega)) ms_yX10_at q_1753 hd_yX10_at (by decide) (Nat.le_of_ble_eq_true rfl) (by decide) dX10_sinks_138 rfl (kI0 fun vy134 gvy134 hvy134 => ?_)
                obtain ⟨hvy134, rfl⟩ := hvy134
                rw [show vy134 = (qy132 : Int) by omega]
                refine z_iconst (z := 2) C dX10_sinks_141 rfl ?_
                refine z_iadd C dX10_sinks_142 ?_
                refine z_dup2 C dX10_sinks_143 rfl rfl ?_
                refine z_iald C (lt_A (c := 1) hN rfl) hay6 hgy126 (qy132 + 2) (by omega) (by omega) (by decide) dX10_sinks_144 ?_
                rw [show ry127 (qy132 + 2) = r9 (qy132 + 2) from (congrFun hvy128 _).trans ((uZ_n _ _ (by omega)).trans ((hyvy117 _ (by omega) (by omega) (by omega) (by omega)).trans (rfl)))]
                refine z_iload C 0 dX10_sinks_145 rfl ?_
                refine z_iadd C dX10_sinks_147 ?_
                refine z_iast C (lt_A (c := 1) hN rfl) hay6 hgy126 (qy132 + 2) (by omega) (by omega) (by decide) dX10_sinks_148 (fun gy135 egy136 => ?_)
                have hgy137 := up_s egy136
                obtain ⟨ry138, hvy139⟩ : ∃ rZ9 : Nat → Int, rZ9 = uZ ry127 (qy132 + 2) ((r9 (qy132 + 2)) + ((rvy117 (qy10 + 2)) - xy122)) := ⟨_, rfl⟩
                rw [← hvy139] at hgy137
                refine z_iinc (z := ll - 1) (lv' := [(3, .int (zI (ll - 1))), (5, .int (zI ((rvy117 (qy10 + 2)) - xy122))), (4, .int (zI ((qy10 : Int)))), (0, .ref (ad i)), (1, .int (zI ((b : Int)))), (2, .int (zI ((s : Int))))]) (j := 5) C dX10_sinks_149 rfl (congrArg zI (by omega)) (by decide) rfl ?_
                refine z_goto (tgt := 9) C dX10_sinks_152 (by decide) ?_
                have hfry140 : ∀ j, j ≠ qy132 + 2 → j ≠ qy10 + 2 → j ≠ qy10 → j ≠ qy10 + 1 → j ≠ qy10 + 4 → ry138 j = r9 j := fun j n0 n1 n2 n3 n4 => (congrFun hvy139 _).trans ((uZ_n _ _ n0).trans ((congrFun hvy128 _).trans ((uZ_n _ _ n1).trans ((hyvy117 _ n2 n3 n1 n4).trans (rfl)))))
                have hwy142 : ry138 (p) = r9 (p) := (congrFun hvy139 _).trans ((uZ_n _ _ (by omega)).trans ((congrFun hvy128 _).trans ((uZ_n _ _ (by omega)).trans ((hyvy117 _ (by omega) (by omega) (by omega) (by omega)).trans (rfl)))))
                have hwy143 : ry138 (qy132) = r9 (qy132) := (congrFun hvy139 _).trans ((uZ_n _ _ (by omega)).trans ((congrFun hvy128 _).trans ((uZ_n _ _ (by omega)).trans ((hyvy117 _ (by omega) (by omega) (by omega) (by omega)).trans (rfl)))))
                have hwy144 : ry138 (qy132 + 1) = r9 (qy132 + 1) := (congrFun hvy139 _).trans ((uZ_n _ _ (by omega)).trans ((congrFun hvy128 _).trans ((uZ_n _ _ (by omega)).trans ((hyvy117 _ (by omega) (by omega) (by omega) (by omega)).trans (rfl)))))
                have hwy145 : ry138 (qy132 + 2) = (r9 (qy132 + 2)) + ((rvy117 (qy10 + 2)) - xy122) := (congrFun hvy139 _).trans (uZ_s _ _ _)
                have hwy146 : ry138 (qy132 + 3) = r9 (qy132 + 3) := (congrFun hvy139 _).trans ((uZ_n _ _ (by omega)).trans ((congrFun hvy128 _).trans ((uZ_n _ _ (by omega)).trans ((hyvy117 _ (by omega) (by omega) (by omega) (by omega)).trans (rfl)))))
                have hwy147 : ry138 (qy132 + 4) = r9 (qy132 + 4) := (congrFun hvy139 _).trans ((uZ_n _ _ (by omega)).trans ((congrFun hvy128 _).trans ((uZ_n _ _ (by omega)).trans ((hyvy117 _ (by omega) (by omega) (by omega) (by omega)).trans (rfl)))))
                have hwy148 : ry138 (qy132 + 6) = r9 (qy132 + 6) := (congrFun hvy139 _).trans ((uZ_n _ _ (by omega)).trans ((congrFun hvy128 _).trans ((uZ_n _ _ (by omega)).trans ((hyvy117 _ (by omega) (by omega) (by omega) (by omega)).trans (rfl)))))
                have hlyy149 : ly ry138 qy132 := by unfold ly; omega
                have hwy150 : ry138 (qy10) = rvy117 (qy10) := (congrFun hvy139 _).trans ((uZ_n _ _ (by omega)).trans ((congrFun hvy128 _).trans ((uZ_n _ _ (by omega)).trans (rfl))))
                have hwy151 : ry138 (qy10 + 1) = rvy117 (qy10 + 1) := (congrFun hvy139 _).trans ((uZ_n _ _ (by omega)).trans ((congrFun hvy128 _).trans ((uZ_n _ _ (by omega)).trans (rfl))))
                have hwy152 : ry138 (qy10 + 2) = (rvy117 (qy10 + 2)) - ((rvy117 (qy10 + 2)) - xy122) := (congrFun hvy139 _).trans ((uZ_n _ _ (by omega)).trans ((congrFun hvy128 _).trans (uZ_s _ _ _)))
                have hwy153 : ry138 (qy10 + 3) = r9 (qy10 + 3) := (congrFun hvy139 _).trans ((uZ_n _ _ (by omega)).trans ((congrFun hvy128 _).trans ((uZ_n _ _ (by omega)).trans ((hyvy117 _ (by omega) (by omega) (by omega) (by omega)).trans (rfl)))))
                have hwy154 : ry138 (qy10 + 4) = rvy117 (qy10 + 4) := (congrFun hvy139 _).trans ((uZ_n _ _ (by omega)).trans ((congrFun hvy128 _).trans ((uZ_n _ _ (by omega)).trans (rfl))))
                have hwy155 : ry138 (qy10 + 6) = r9 (qy10 + 6) := (congrFun hvy139 _).trans ((uZ_n _ _ (by omega)).trans ((congrFun hvy128 _).trans ((uZ_n _ _ (by omega)).trans ((hyvy117 _ (by omega) (by omega) (by omega) (by omega)).trans (rfl)))))
                have hlyy156 : ly ry138 qy10 := by unfold ly; omega
                have hoky141 : okS ry138 p (M) (E) := okS.two f4 (k := ky131) (by omega) hqy132 (q2 := qy10) (by omega) (fun j a1 a2 a3 a4 => hfry140 j (by omega) (by omega) (by omega) (by omega) (by omega)) hlyy149 hlyy156 (by omega) (by omega)
                refine z_lv (lv' := [(0, .ref (ad i)), (1, .int (zI ((b : Int)))), (2, .int (zI ((s : Int)))), (3, .int (zI (ll - 1)))]) [3, 4, 5, 0] rfl ?_
                exact ih _ (by omega) (ll - 1) ry138 gy135 rfl hgy137 (fun j j1 => by rw [egy136, va_up_ne _ _ (by omega)]; rw [egy125, va_up_ne _ _ (by omega)]; rw [hfvy117 _ (by omega)]; exact f3 j j1) hoky141 (fun j a1 => (hfry140 j (by omega) (by omega) (by omega) (by omega) (by omega)).trans (f5 j a1)) (by rw [show ry138 p = r9 (p) from (congrFun hvy139 _).trans ((uZ_n _ _ (by omega)).trans ((congrFun hvy128 _).trans ((uZ_n _ _ (by omega)).trans ((hyvy117 _ (by omega) (by omega) (by omega) (by omega)).trans (rfl)))))]; exact f6) (by omega)
              · refine z_aload_n C 2 dX10_sinks_118 rfl ?_
                refine z_iload_n C 3 dX10_sinks_119 rfl ?_
                refine z_iload_n C 4 dX10_sinks_120 rfl ?_
                refine z_iload C 0 dX10_sinks_121 rfl ?_
                have hgy157 := up_n egy125 hgy118 (ne_o (i := i) (c := 0) (d := 1) rfl)
                refine z_cV (As := [.int (zI ((b : Int))), .int (zI ((s : Int))), .int (zI ((rvy117 (qy10 + 2)) - xy122))]) (rest := []) (ci := 12) C (c_X10_runsOff l D A cs tt N ad _ i hN _ hgy157 _ hgy126 b s p hp (by omega) (by omega) ((rvy117 (qy10 + 2)) - xy122)) (lt_A0 hN rfl) hay5 hgy157 rfl rfl mv_yX10_runsOff q_1912 hd_yX10_runsOff (by decide) (Nat.le_of_ble_eq_true rfl) (by decide) dX10_sinks_123 rfl (kV0 fun gvy158 hvy158 => ?_)
                obtain ⟨hcvy158, hfvy158⟩ := hvy158
                obtain ⟨ry159, hvy160⟩ : ∃ rZ9 : Nat → Int, rZ9 = uZ ry127 (p + 1) (ry127 (p + 1) + ((rvy117 (qy10 + 2)) - xy122)) := ⟨_, rfl⟩
                rw [← hvy160] at hcvy158
                refine z_goto (tgt := 149) C dX10_sinks_126 (by decide) ?_
                refine z_iinc (z := ll - 1) (lv' := [(3, .int (zI (ll - 1))), (5, .int (zI ((rvy117 (qy10 + 2)) - xy122))), (4, .int (zI ((qy10 : Int)))), (0, .ref (ad i)), (1, .int (zI ((b : Int)))), (2, .int (zI ((s : Int))))]) (j := 5) C dX10_sinks_149 rfl (congrArg zI (by omega)) (by decide) rfl ?_
                refine z_goto (tgt := 9) C dX10_sinks_152 (by decide) ?_
                have hfry161 : ∀ j, j ≠ p + 1 → j ≠ qy10 + 2 → j ≠ qy10 → j ≠ qy10 + 1 → j ≠ qy10 + 4 → ry159 j = r9 j := fun j n0 n1 n2 n3 n4 => (congrFun hvy160 _).trans ((uZ_n _ _ n0).trans ((congrFun hvy128 _).trans ((uZ_n _ _ n1).trans ((hyvy117 _ n2 n3 n1 n4).trans (rfl)))))
                have hwy163 : ry159 (p) = r9 (p) := (congrFun hvy160 _).trans ((uZ_n _ _ (by omega)).trans ((congrFun hvy128 _).trans ((uZ_n _ _ (by omega)).trans ((hyvy117 _ (by omega) (by omega) (by omega) (by omega)).trans (rfl)))))
                have hwy164 : ry159 (qy10) = rvy117 (qy10) := (congrFun hvy160 _).trans ((uZ_n _ _ (by omega)).trans ((congrFun hvy128 _).trans ((uZ_n _ _ (by omega)).trans (rfl))))
                have hwy165 : ry159 (qy10 + 1) = rvy117 (qy10 + 1) := (congrFun hvy160 _).trans ((uZ_n _ _ (by omega)).trans ((congrFun hvy128 _).trans ((uZ_n _ _ (by omega)).trans (rfl))))
                have hwy166 : ry159 (qy10 + 2) = (rvy117 (qy10 + 2)) - ((rvy117 (qy10 + 2)) - xy122) := (congrFun hvy160 _).trans ((uZ_n _ _ (by omega)).trans ((congrFun hvy128 _).trans (uZ_s _ _ _)))
                have hwy167 : ry159 (qy10 + 3) = r9 (qy10 + 3) := (congrFun hvy160 _).trans ((uZ_n _ _ (by omega)).trans ((congrFun hvy128 _).trans ((uZ_n _ _ (by omega)).trans ((hyvy117 _ (by omega) (by omega) (by omega) (by omega)).trans (rfl)))))
                have hwy168 : ry159 (qy10 + 4) = rvy117 (qy10 + 4) := (congrFun hvy160 _).trans ((uZ_n _ _ (by omega)).trans ((congrFun hvy128 _).trans ((uZ_n _ _ (by omega)).trans (rfl))))
                have hwy169 : ry159 (qy10 + 6) = r9 (qy10 + 6) := (congrFun hvy160 _).trans ((uZ_n _ _ (by omega)).trans ((congrFun hvy128 _).trans ((uZ_n _ _ (by omega)).trans ((hyvy117 _ (by omega) (by omega) (by omega) (by omega)).trans (rfl)))))
                have hlyy170 : ly ry159 qy10 := by unfold ly; omega
                have hoky1620 := okS.one 0 0 f4 (k := ky9) (by omega) hqy10 (fun j a1 a2 a3 a4 => hfry161 j (by omega) (by omega) (by omega) (by omega) (by omega)) hlyy170 (by omega) (by omega)
                have hoky162 : okS ry159 p (M) (E) := hoky1620.mono (by omega) (by omega)
                refine z_lv (lv' := [(0, .ref (ad i)), (1, .int (zI ((b : Int)))), (2, .int (zI ((s : Int)))), (3, .int (zI (ll - 1)))]) [3, 4, 5, 0] rfl ?_
                exact ih _ (by omega) (ll - 1) ry159 gvy158 rfl hcvy158 (fun j j1 => by rw [hfvy158 _ (by omega)]; rw [egy125, va_up_ne _ _ (by omega)]; rw [hfvy117 _ (by omega)]; exact f3 j j1) hoky162 (fun j a1 => (hfry161 j (by omega) (by omega) (by omega) (by omega) (by omega)).trans (f5 j a1)) (by rw [show ry159 p = r9 (p) from (congrFun hvy160 _).trans ((uZ_n _ _ (by omega)).trans ((congrFun hvy128 _).trans ((uZ_n _ _ (by omega)).trans ((hyvy117 _ (by omega) (by omega) (by omega) (by omega)).trans (rfl)))))]; exact f6) (by omega)
            · refine z_goto (tgt := 149) C dX10_sinks_97 (by decide) ?_
              refine z_iinc (z := ll - 1) (lv' := [(3, .int (zI (ll - 1))), (5, .int (zI ((rvy117 (qy10 + 2)) - xy122))), (4, .int (zI ((qy10 : Int)))), (0, .ref (ad i)), (1, .int (zI ((b : Int)))), (2, .int (zI ((s : Int))))]) (j := 5) C dX10_sinks_149 rfl (congrArg zI (by omega)) (by decide) rfl ?_
              refine z_goto (tgt := 9) C dX10_sinks_152 (by decide) ?_
              have hfry171 : ∀ j, j ≠ qy10 → j ≠ qy10 + 1 → j ≠ qy10 + 2 → j ≠ qy10 + 4 → rvy117 j = r9 j := fun j n0 n1 n2 n3 => (hyvy117 _ n0 n1 n2 n3).trans (rfl)
              have hwy173 : rvy117 (p) = r9 (p) := (hyvy117 _ (by omega) (by omega) (by omega) (by omega)).trans (rfl)
              have hwy174 : rvy117 (qy10 + 3) = r9 (qy10 + 3) := (hyvy117 _ (by omega) (by omega) (by omega) (by omega)).trans (rfl)
              have hwy175 : rvy117 (qy10 + 6) = r9 (qy10 + 6) := (hyvy117 _ (by omega) (by omega) (by omega) (by omega)).trans (rfl)
              have hlyy176 : ly rvy117 qy10 := by unfold ly; omega
              have hoky1720 := okS.one 0 0 f4 (k := ky9) (by omega) hqy10 (fun j a1 a2 a3 a4 => hfry171 j (by omega) (by omega) (by omega) (by omega)) hlyy176 (by omega) (by omega)
              have hoky172 : okS rvy117 p (M) (E) := hoky1720.mono (by omega) (by omega)
              refine z_lv (lv' := [(0, .ref (ad i)), (1, .int (zI ((b : Int)))), (2, .int (zI ((s : Int)))), (3, .int (zI (ll - 1)))]) [3, 4, 5, 0] rfl ?_
              exact ih _ (by omega) (ll - 1) rvy117 gvy117 rfl hcvy117 (fun j j1 => by rw [hfvy117 _ (by omega)]; exact f3 j j1) hoky172 (fun j a1 => (hfry171 j (by omega) (by omega) (by omega) (by omega)).trans (f5 j a1)) (by rw [show rvy117 p = r9 (p) from (hyvy117 _ (by omega) (by omega) (by omega) (by omega)).trans (rfl)]; exact f6) (by omega)
  refine z_aload_n C 0 dX10_sinks_0 rfl ?_
  refine z_iload_n C 1 dX10_sinks_1 rfl ?_
  refine z_iload_n C 2 dX10_sinks_2 rfl ?_
  refine z_cV (As := [.int (zI ((b : Int))), .int (zI ((s : Int)))]) (rest := []) (ci := 12) C (c_X10_many l D A cs tt N ad _ i hN _ hg _ ha1 b s p hp (by omega) (by omega)) (lt_A0 hN rfl) hay1 hg rfl rfl mv_yX10_many q_1733 hd_yX10_many (by decide) (Nat.le_of_ble_eq_true rfl) (by decide) dX10_sinks_3 rfl (kI0 fun vy177 gvy177 hvy177 => ?_)
  obtain ⟨rfl, rfl⟩ := hvy177
  refine z_iconst (z := 1) C dX10_sinks_6 rfl ?_
  refine z_isub C dX10_sinks_7 ?_
  refine z_istore_n (lv' := [(3, .int (zI ((r (p)) - 1))), (0, .ref (ad i)), (1, .int (zI ((b : Int)))), (2, .int (zI ((s : Int))))]) C dX10_sinks_8 rfl (by decide) rfl ?_
  refine z_lv (lv' := [(0, .ref (ad i)), (1, .int (zI ((b : Int)))), (2, .int (zI ((s : Int)))), (3, .int (zI ((r (p)) - 1)))]) [1, 2, 3, 0] rfl ?_
  exact lp _ ((r (p)) - 1) r g rfl ha1 (fun j j1 => by rfl) ho (fun j _ => rfl) rfl (by omega)

set_option maxRecDepth 100000 in
set_option maxHeartbeats 4000000 in
theorem c_X10_weightX (l : Launch) (D : va_G) (A : Nat → Prop) (cs : Nat → ClassId) (tt : Nat) (N : Nat) (ad : Nat → Nat) (g : Nat → va_E) (i : Nat) (hN : i + 30 ≤ N) (F : Nat → Int) (hg : g i = mC ad i F) (r : Nat → Int) (ha1 : g (i + 1) = iA cs 29200 r) (b s p : Nat) (hp : b + 6 + 86 * s = p) (hb : b + 350 ≤ 29200) (hs : s < 4) (M E : Int) (hM : M ≤ 138500) (hE : E ≤ 400000000) (ho : okS r p M E) (zl : Int) (hzl : 0 ≤ zl ∧ zl < r p) (k q : Nat) (hk : zl = (k : Int)) (hq : p + 2 + 7 * k = q) : zM l yX10_weight cX10_weight 4 (some .int) ({ frames := 3, cells := 0, slots := 0, locals := 180 } : Room) D A cs tt N ad g [.ref (ad i), .int (zI ((b : Int))), .int (zI ((s : Int))), .int (zI (zl))] (rI0 N ad fun z g' => z = r (q + 1) + r (q + 2) ∧ g = g') := by
  have hay1 : zAt ad (i) (ad i) := rfl
  have hay2 : zAt ad (i + 1) (ad (i + 1)) := rfl
  have hmky3 := ho.1
  refine z_of (by decide) (Nat.le_of_ble_eq_true rfl) ?_
  intro pZ eZ sZ mZ below meth cZ C hr hlk hnm
  refine z_lv (lv' := [(0, .ref (ad i)), (1, .int (zI ((b : Int)))), (2, .int (zI ((s : Int)))), (3, .int (zI (zl)))]) [0, 1, 2, 3] rfl ?_
  refine z_aload_n C 0 dX10_weight_0 rfl ?_
  refine z_iload_n C 1 dX10_weight_1 rfl ?_
  refine z_iload_n C 2 dX10_weight_2 rfl ?_
  refine z_iload_n C 3 dX10_weight_3 rfl ?_
  refine z_iconst (z := 1) C dX10_weight_4 rfl ?_
  refine z_cV (As := [.int (zI ((b : Int))), .int (zI ((s : Int))), .int (zI (zl)), .int (zI (1))]) (rest := []) (ci := 12) C (c_X10_of l D A cs tt N ad _ i hN _ hg _ ha1 b s p hp (by omega) (by omega) (zl) (1) (q + 1) (by omega) (by omega) (by omega)) (lt_A0 hN rfl) hay1 hg rfl rfl mv_yX10_of q_1749 hd_yX10_of (by decide) (Nat.le_of_ble_eq_true rfl) (by decide) dX10_weight_5 rfl (kI0 fun vy4 gvy4 hvy4 => ?_)
  obtain ⟨rfl, rfl⟩ := hvy4
  refine z_aload_n C 0 dX10_weight_8 rfl ?_
  refine z_iload_n C 1 dX10_weight_9 rfl ?_
  refine z_iload_n C 2 dX10_weight_10 rfl ?_
  refine z_iload_n C 3 dX10_weight_11 rfl ?_
  refine z_iconst (z := 2) C dX10_weight_12 rfl ?_
  refine z_cV (As := [.int (zI ((b : Int))), .int (zI ((s : Int))), .int (zI (zl)), .int (zI (2))]) (rest := [.int (zI (r (q + 1)))]) (ci := 12) C (c_X10_of l D A cs tt N ad _ i hN _ hg _ ha1 b s p hp (by omega) (by omega) (zl) (2) (q + 2) (by omega) (by omega) (by omega)) (lt_A0 hN rfl) hay1 hg rfl rfl mv_yX10_of q_1749 hd_yX10_of (by decide) (Nat.le_of_ble_eq_true rfl) (by decide) dX10_weight_13 rfl (kI0 fun vy5 gvy5 hvy5 => ?_)
  obtain ⟨rfl, rfl⟩ := hvy5
  refine z_iadd C dX10_weight_16 ?_
  exact z_iret C hr hlk dX10_weight_17 (by decide) (by decide) ⟨_, rfl, rfl, rfl, rfl, rfl⟩

set_option maxRecDepth 100000 in
set_option maxHeartbeats 4000000 in
theorem c_X10_aboveX (l : Launch) (D : va_G) (A : Nat → Prop) (cs : Nat → ClassId) (tt : Nat) (N : Nat) (ad : Nat → Nat) (g : Nat → va_E) (i : Nat) (hN : i + 30 ≤ N) (F : Nat → Int) (hg : g i = mC ad i F) (r : Nat → Int) (ha1 : g (i + 1) = iA cs 29200 r) (b s p : Nat) (hp : b + 6 + 86 * s = p) (hb : b + 350 ≤ 29200) (hs : s < 4) (M E : Int) (hM : M ≤ 138500) (hE : E ≤ 400000000) (ho : okS r p M E) (zl : Int) (hzl : 0 ≤ zl ∧ zl < r p) : zM l yX10_above cX10_above 6 (some .int) ({ frames := 4, cells := 0, slots := 0, locals := 240 } : Room) D A cs tt N ad g [.ref (ad i), .int (zI ((b : Int))), .int (zI ((s : Int))), .int (zI (zl))] (rI0 N ad fun z g' => (0 ≤ z ∧ z ≤ M) ∧ g = g') := by
  have hay1 : zAt ad (i) (ad i) := rfl
  have hay2 : zAt ad (i + 1) (ad (i + 1)) := rfl
  have hmky3 := ho.1
  obtain ⟨n, hn1, hn2, hn3, hn4, hn5⟩ := ho.get
  refine z_of (by decide) (Nat.le_of_ble_eq_true rfl) ?_
  intro pZ eZ sZ mZ below meth cZ C hr hlk hnm
  refine z_lv (lv' := [(0, .ref (ad i)), (1, .int (zI ((b : Int)))), (2, .int (zI ((s : Int)))), (3, .int (zI (zl)))]) [0, 1, 2, 3] rfl ?_
  have lp : ∀ (n9 : Nat) (al : Int) (ll : Int) (g1 : Nat → va_E), (13 - ll).toNat = n9 → (g1 = g) → (al = ms r p ll.toNat - ms r p (zl + 1).toNat) → (zl + 1 ≤ ll ∧ ll ≤ r p) → zV pZ l eZ ({ frames := 4, cells := 0, slots := 0, locals := 240 } : Room) sZ mZ ([.ref (ad i), .int (zI ((b : Int))), .int (zI ((s : Int))), .int (zI (zl))] : List Value).toArray below meth cZ (MQ below (zPost D A (rI0 N ad fun z g' => (0 ≤ z ∧ z ≤ M) ∧ g = g')) ([.ref (ad i), .int (zI ((b : Int))), .int (zI ((s : Int))), .int (zI (zl))] : List Value).toArray sZ ({ frames := 4, cells := 0, slots := 0, locals := 240 } : Room).cells ({ frames := 4, cells := 0, slots := 0, locals := 240 } : Room).slots A) D A 6 (N) ad g1 (0) (0) 8 [(0, .ref (ad i)), (1, .int (zI ((b : Int)))), (2, .int (zI ((s : Int)))), (4, .int (zI (al))), (5, .int (zI (ll)))] [] := by
    intro n9
    induction n9 using Nat.strongRecOn with
    | ind n9 ih =>
      intro al ll g1 hm9 hg1 hal hll
      subst hg1
      have hal9 : 0 ≤ al ∧ al ≤ M := by
        have hA := ms_mono (m := ll.toNat) n (by omega) hn3
        have hB := ms_pos (r := r) (p := p) (zl + 1).toNat (fun l hl => hn3 l (by omega))
        have hC := ms_mono (r := r) (p := p) (m := (zl + 1).toNat) ll.toNat (by omega) (fun l hl => hn3 l (by omega))
        omega
      refine z_iload C 4 dX10_above_8 rfl ?_
      refine z_aload_n C 0 dX10_above_10 rfl ?_
      refine z_iload_n C 1 dX10_above_11 rfl ?_
      refine z_iload_n C 2 dX10_above_12 rfl ?_
      refine z_cV (As := [.int (zI ((b : Int))), .int (zI ((s : Int)))]) (rest := [.int (zI (ll))]) (ci := 12) C (c_X10_many l D A cs tt N ad _ i hN _ hg _ ha1 b s p hp (by omega) (by omega)) (lt_A0 hN rfl) hay1 hg rfl rfl mv_yX10_many q_1733 hd_yX10_many (by decide) (Nat.le_of_ble_eq_true rfl) (by decide) dX10_above_13 rfl (kI0 fun vy4 gvy4 hvy4 => ?_)
      obtain ⟨rfl, rfl⟩ := hvy4
      refine z_icmp_ge (tgt := 38) C dX10_above_16 (by decide) (by omega) (by omega) (fun hby5 => ?_) (fun hby5 => ?_)
      · refine z_iload C 3 dX10_above_38 rfl ?_
        have hA := ms_mono (m := ll.toNat) n (by omega) hn3
        have hB := ms_pos (r := r) (p := p) (zl + 1).toNat (fun l hl => hn3 l (by omega))
        have hC := ms_mono (r := r) (p := p) (m := (zl + 1).toNat) ll.toNat (by omega) (fun l hl => hn3 l (by omega))
        exact z_iret C hr hlk dX10_above_40 (by decide) (by decide) ⟨_, rfl, rfl, rfl, by omega, rfl⟩
      · refine z_iload C 3 dX10_above_19 rfl ?_
        refine z_aload_n C 0 dX10_above_21 rfl ?_
        refine z_iload_n C 1 dX10_above_22 rfl ?_
        refine z_iload_n C 2 dX10_above_23 rfl ?_
        refine z_iload C 4 dX10_above_24 rfl ?_
        obtain ⟨ky6, hky6⟩ : ∃ k9 : Nat, (ll) = (k9 : Int) := ⟨((ll) : Int).toNat, by omega⟩
        obtain ⟨qy7, hqy7⟩ : ∃ q9 : Nat, p + 2 + 7 * ky6 = q9 := ⟨_, rfl⟩
        refine z_cV (As := [.int (zI ((b : Int))), .int (zI ((s : Int))), .int (zI (ll))]) (rest := [.int (zI (al))]) (ci := 12) C (c_X10_weightX l D A cs tt N ad _ i hN _ hg _ ha1 b s p hp (by omega) (by omega) (M) (E) (by omega) (by omega) ho (ll) (by omega) ky6 qy7 (by omega) (by omega)) (lt_A0 hN rfl) hay1 hg rfl rfl mv_yX10_weight q_1784 hd_yX10_weight (by decide) (Nat.le_of_ble_eq_true rfl) (by decide) dX10_above_26 rfl (kI0 fun vy8 gvy8 hvy8 => ?_)
        obtain ⟨rfl, rfl⟩ := hvy8
        refine z_iadd C dX10_above_29 ?_
        refine z_istore (lv' := [(4, .int (zI (al + (r (qy7 + 1) + r (qy7 + 2))))), (0, .ref (ad i)), (1, .int (zI ((b : Int)))), (2, .int (zI ((s : Int)))), (5, .int (zI (ll)))]) C dX10_above_30 (by decide) rfl ?_
        refine z_iinc (z := ll + 1) (lv' := [(5, .int (zI (ll + 1))), (4, .int (zI (al + (r (qy7 + 1) + r (qy7 + 2))))), (0, .ref (ad i)), (1, .int (zI ((b : Int)))), (2, .int (zI ((s : Int))))]) (j := 4) C dX10_above_32 rfl rfl (by decide) rfl ?_
        refine z_goto (tgt := 8) C dX10_above_35 (by decide) ?_
        have hS9 := ms_at (r := r) (l := ll) hky6 hqy7
        refine z_lv (lv' := [(0, .ref (ad i)), (1, .int (zI ((b : Int)))), (2, .int (zI ((s : Int)))), (4, .int (zI (al + (r (qy7 + 1) + r (qy7 + 2))))), (5, .int (zI (ll + 1)))]) [2, 3, 4, 1, 0] rfl ?_
        exact ih _ (by omega) (al + (r (qy7 + 1) + r (qy7 + 2))) (ll + 1) _ rfl rfl (by rw [hS9]; omega) (by omega)
  refine z_iconst (z := 0) C dX10_above_0 rfl ?_
  refine z_istore (lv' := [(4, .int (zI (0))), (0, .ref (ad i)), (1, .int (zI ((b : Int)))), (2, .int (zI ((s : Int)))), (3, .int (zI (zl)))]) C dX10_above_1 (by decide) rfl ?_
  refine z_iload_n C 4 dX10_above_3 rfl ?_
  refine z_iconst (z := 1) C dX10_above_4 rfl ?_
  refine z_iadd C dX10_above_5 ?_
  refine z_istore (lv' := [(5, .int (zI (zl + 1))), (4, .int (zI (0))), (0, .ref (ad i)), (1, .int (zI ((b : Int)))), (2, .int (zI ((s : Int)))), (3, .int (zI (zl)))]) C dX10_above_6 (by decide) rfl ?_
  refine z_lv (lv' := [(0, .ref (ad i)), (1, .int (zI ((b : Int)))), (2, .int (zI ((s : Int)))), (4, .int (zI (0))), (5, .int (zI (zl + 1)))]) [2, 3, 4, 1, 0] rfl ?_
  exact lp _ (0) (zl + 1) _ rfl rfl (by rw [Int.sub_self]) (by omega)

set_option maxRecDepth 100000 in
set_option maxHeartbeats 4000000 in
theorem c_X10_load (l : Launch) (D : va_G) (A : Nat → Prop) (cs : Nat → ClassId) (tt : Nat) (N : Nat) (ad : Nat → Nat) (g : Nat → va_E) (i : Nat) (hN : i + 30 ≤ N) (F : Nat → Int) (hg : g i = mC ad i F) (r : Nat → Int) (ha1 : g (i + 1) = iA cs 29200 r) (b s p : Nat) (hp : b + 6 + 86 * s = p) (hb : b + 350 ≤ 29200) (hs : s < 4) (M E : Int) (hM : M ≤ 138500) (hE : E ≤ 400000000) (ho : okS r p M E) (zl : Int) (hzl : 0 ≤ zl ∧ zl < r p) : zM l yX10_load cX10_load 4 (some .int) ({ frames := 5, cells := 0, slots := 0, locals := 300 } : Room) D A cs tt N ad g [.ref (ad i), .int (zI ((b : Int))), .int (zI ((s : Int))), .int (zI (zl))] (rI0 N ad fun z g' => (0 ≤ z ∧ z ≤ 300000) ∧ g = g') := by
  have hay1 : zAt ad (i) (ad i) := rfl
  have hay2 : zAt ad (i + 1) (ad (i + 1)) := rfl
  have hmky3 := ho.1
  obtain ⟨ky4, hky4⟩ : ∃ k9 : Nat, (zl) = (k9 : Int) := ⟨((zl) : Int).toNat, by omega⟩
  obtain ⟨qy5, hqy5⟩ : ∃ q9 : Nat, p + 2 + 7 * ky4 = q9 := ⟨_, rfl⟩
  obtain ⟨⟨hKzy6, hIzy6, hWzy6, hDzy6, hTzy6, hnzy6⟩, hmzy6, hdzy6⟩ := okS.layer ho (k := ky4) (by omega) hqy5
  refine z_of (by decide) (Nat.le_of_ble_eq_true rfl) ?_
  intro pZ eZ sZ mZ below meth cZ C hr hlk hnm
  refine z_lv (lv' := [(0, .ref (ad i)), (1, .int (zI ((b : Int)))), (2, .int (zI ((s : Int)))), (3, .int (zI (zl)))]) [0, 1, 2, 3] rfl ?_
  refine z_aload_n C 0 dX10_load_0 rfl ?_
  refine z_iload_n C 1 dX10_load_1 rfl ?_
  refine z_iload_n C 2 dX10_load_2 rfl ?_
  refine z_iload_n C 3 dX10_load_3 rfl ?_
  refine z_cV (As := [.int (zI ((b : Int))), .int (zI ((s : Int))), .int (zI (zl))]) (rest := []) (ci := 12) C (c_X10_aboveX l D A cs tt N ad _ i hN _ hg _ ha1 b s p hp (by omega) (by omega) (M) (E) (by omega) (by omega) ho (zl) (by omega)) (lt_A0 hN rfl) hay1 hg rfl rfl mv_yX10_above q_1780 hd_yX10_above (by decide) (Nat.le_of_ble_eq_true rfl) (by decide) dX10_load_4 rfl (kI0 fun vy7 gvy7 hvy7 => ?_)
  obtain ⟨hvy7, rfl⟩ := hvy7
  refine z_aload_n C 0 dX10_load_7 rfl ?_
  refine z_iload_n C 1 dX10_load_8 rfl ?_
  refine z_iload_n C 2 dX10_load_9 rfl ?_
  refine z_iload_n C 3 dX10_load_10 rfl ?_
  refine z_cV (As := [.int (zI ((b : Int))), .int (zI ((s : Int))), .int (zI (zl))]) (rest := [.int (zI (vy7))]) (ci := 12) C (c_X10_weightX l D A cs tt N ad _ i hN _ hg _ ha1 b s p hp (by omega) (by omega) (M) (E) (by omega) (by omega) ho (zl) (by omega) ky4 qy5 (by omega) (by omega)) (lt_A0 hN rfl) hay1 hg rfl rfl mv_yX10_weight q_1784 hd_yX10_weight (by decide) (Nat.le_of_ble_eq_true rfl) (by decide) dX10_load_11 rfl (kI0 fun vy8 gvy8 hvy8 => ?_)
  obtain ⟨rfl, rfl⟩ := hvy8
  refine z_iconst (z := 2) C dX10_load_14 rfl ?_
  refine z_idiv C dX10_load_15 (by omega) (by omega) (by omega) ?_
  obtain ⟨xy9, exy9, hxy9⟩ : ∃ x9, (r (qy5 + 1) + r (qy5 + 2)).tdiv 2 = x9 ∧ (0 ≤ r (qy5 + 1) + r (qy5 + 2) → 0 ≤ x9 ∧ 2 * x9 ≤ r (qy5 + 1) + r (qy5 + 2) ∧ r (qy5 + 1) + r (qy5 + 2) < 2 * x9 + 2) ∧ (r (qy5 + 1) + r (qy5 + 2) ≤ 0 → x9 ≤ 0 ∧ r (qy5 + 1) + r (qy5 + 2) ≤ 2 * x9 ∧ 2 * x9 < r (qy5 + 1) + r (qy5 + 2) + 2) := tdk 2 (by decide)
  rw [exy9]
  refine z_iadd C dX10_load_16 ?_
  exact z_iret C hr hlk dX10_load_17 (by decide) (by decide) ⟨vy7 + xy9, rfl, rfl, rfl, by omega, rfl⟩

theorem okS.press {r r' : Nat → Int} {p k q : Nat} {M E : Int} (h : okS r p M E) (hk : (k : Int) < r p) (hq : p + 2 + 7 * k = q) (he : ∀ j, j ≠ q + 3 → r' j = r j) (hd : 1 ≤ r' (q + 3) ∧ r' (q + 3) ≤ r (q + 3) + (r (q + 1) + r (q + 2))) : okS r' p M (E + (r (q + 1) + r (q + 2))) := by
  have h9 := (h.layer hk hq).1
  have h8 := okS.one (r' := r') 0 (r (q + 1) + r (q + 2)) h hk hq (fun j a1 a2 a3 a4 => he j (by omega)) (by unfold ly at *; rw [he q (by omega), he (q + 1) (by omega), he (q + 2) (by omega), he (q + 4) (by omega), he (q + 6) (by omega)]; omega) (by rw [he (q + 1) (by omega), he (q + 2) (by omega)]; omega) hd.2
  rw [Int.add_zero] at h8
  exact h8
theorem ldb {d l t : Int} (hd : 1 ≤ d ∧ d ≤ 400000000) (hl : 0 ≤ l ∧ l ≤ 300000) (ht : 1 ≤ t) : ∃ x, (d * l).tdiv t = x ∧ 0 ≤ x ∧ x ≤ 120000000000000 := by
  have h1 : 0 ≤ d * l := Int.mul_nonneg (by omega) hl.1
  have h2 : d * l ≤ 400000000 * 300000 := Int.mul_le_mul hd.2 hl.2 hl.1 (by omega)
  exact ⟨_, rfl, Int.tdiv_nonneg h1 (by omega), Int.le_trans (Int.tdiv_le_self t h1) h2⟩
theorem ldm {d l : Int} (hd : 1 ≤ d ∧ d ≤ 400000000) (hl : 0 ≤ l ∧ l ≤ 300000) : 0 ≤ d * l ∧ d * l ≤ 120000000000000 := ⟨Int.mul_nonneg (by omega) hl.1, Int.mul_le_mul hd.2 hl.2 hl.1 (by omega)⟩

set_option maxRecDepth 100000 in
set_option maxHeartbeats 4000000 in
theorem c_X10_presses (l : Launch) (D : va_G) (A : Nat → Prop) (cs : Nat → ClassId) (tt : Nat) (N : Nat) (ad : Nat → Nat) (g : Nat → va_E) (i : Nat) (hN : i + 30 ≤ N) (F : Nat → Int) (hg : g i = mC ad i F) (r : Nat → Int) (ha1 : g (i + 1) = iA cs 29200 r) (tb : Nat → Int) (ha7 : g (i + 7) = iA cs 15 tb) (b s p : Nat) (hp : b + 6 + 86 * s = p) (hb : b + 350 ≤ 29200) (hs : s < 4) (M E : Int) (hM : M ≤ 138500) (hE : E ≤ 400000000) (ho : okS r p M E) (hE2 : E + M ≤ 400000000) (hT : ∀ k, k < 15 → 0 ≤ tb k ∧ tb k ≤ 9999) (hT1 : ∀ k, 10 ≤ k → k < 15 → 1 ≤ tb k) : zM l yX10_presses cX10_presses 10 none ({ frames := 6, cells := 0, slots := 0, locals := 360 } : Room) D A cs tt N ad g [.ref (ad i), .int (zI ((b : Int))), .int (zI ((s : Int)))] (rV0 N ad fun g' => (∃ r' : Nat → Int, g' (i + 1) = iA cs 29200 r' ∧ okS r' p (M) (E + M) ∧ (∀ j, j < p ∨ p + 86 ≤ j → r' j = r j)) ∧ ∀ j, j ≠ i + 1 → g' j = g j) := by
  have hay1 : zAt ad (i) (ad i) := rfl
  have hay2 : zAt ad (i + 1) (ad (i + 1)) := rfl
  have hay3 : zAt ad (i + 7) (ad (i + 7)) := rfl
  have hmky4 := ho.1
  obtain ⟨n, hn1, hn2, hn3, hn4, hn5⟩ := ho.get
  refine z_of (by decide) (Nat.le_of_ble_eq_true rfl) ?_
  intro pZ eZ sZ mZ below meth cZ C hr hlk hnm
  refine z_lv (lv' := [(0, .ref (ad i)), (1, .int (zI ((b : Int)))), (2, .int (zI ((s : Int))))]) [0, 1, 2] rfl ?_
  have lp : ∀ (n9 : Nat) (ll : Int) (r9 : Nat → Int) (g1 : Nat → va_E), (13 - ll).toNat = n9 → (g1 (i + 1) = iA cs 29200 r9) → (∀ j, j ≠ i + 1 → g1 j = g j) → (okS r9 p M (E + ms r p ll.toNat)) → (∀ j, j < p ∨ p + 86 ≤ j → r9 j = r j) → (∀ j, (∀ k : Nat, j ≠ p + 2 + 7 * k + 3) → r9 j = r j) → (r9 p = r p) → (0 ≤ ll ∧ ll ≤ r p) → zV pZ l eZ ({ frames := 6, cells := 0, slots := 0, locals := 360 } : Room) sZ mZ ([.ref (ad i), .int (zI ((b : Int))), .int (zI ((s : Int)))] : List Value).toArray below meth cZ (MQ below (zPost D A (rV0 N ad fun g' => (∃ r' : Nat → Int, g' (i + 1) = iA cs 29200 r' ∧ okS r' p (M) (E + M) ∧ (∀ j, j < p ∨ p + 86 ≤ j → r' j = r j)) ∧ ∀ j, j ≠ i + 1 → g' j = g j)) ([.ref (ad i), .int (zI ((b : Int))), .int (zI ((s : Int)))] : List Value).toArray sZ ({ frames := 6, cells := 0, slots := 0, locals := 360 } : Room).cells ({ frames := 6, cells := 0, slots := 0, locals := 360 } : Room).slots A) D A 10 (N) ad g1 (0) (0) 2 [(0, .ref (ad i)), (1, .int (zI ((b : Int)))), (2, .int (zI ((s : Int)))), (3, .int (zI (ll)))] [] := by
    intro n9
    induction n9 using Nat.strongRecOn with
    | ind n9 ih =>
      intro ll r9 g1 hm9 f2 f3 f4 f5 f6 f7 hv
      have hay5 : zAt ad (i) (ad i) := rfl
      have hay6 : zAt ad (i + 1) (ad (i + 1)) := rfl
      have hay7 : zAt ad (i + 7) (ad (i + 7)) := rfl
      have hm9 := f4.1
      have hA9 := ms_mono (r := r) (p := p) (m := ll.toNat) n (by omega) hn3
      have hE9 : E + ms r p ll.toNat ≤ 400000000 := by omega
      refine z_iload_n C 3 dX10_presses_2 rfl ?_
      refine z_aload_n C 0 dX10_presses_3 rfl ?_
      refine z_iload_n C 1 dX10_presses_4 rfl ?_
      refine z_iload_n C 2 dX10_presses_5 rfl ?_
      refine z_cV (As := [.int (zI ((b : Int))), .int (zI ((s : Int)))]) (rest := [.int (zI (ll))]) (ci := 12) C (c_X10_many l D A cs tt N ad _ i hN _ ((f3 _ (by omega)).trans hg) _ f2 b s p hp (by omega) (by omega)) (lt_A0 hN rfl) hay5 ((f3 _ (by omega)).trans hg) rfl rfl mv_yX10_many q_1733 hd_yX10_many (by decide) (Nat.le_of_ble_eq_true rfl) (by decide) dX10_presses_6 rfl (kI0 fun vy8 gvy8 hvy8 => ?_)
      obtain ⟨rfl, rfl⟩ := hvy8
      refine z_icmp_ge (tgt := 102) C dX10_presses_9 (by decide) (by omega) (by omega) (fun hby9 => ?_) (fun hby9 => ?_)
      · have hA := ms_mono (r := r) (p := p) (m := ll.toNat) n (by omega) hn3
        exact z_vret C hr hlk dX10_presses_102 (by decide) (by decide) ⟨rfl, rfl, rfl, ⟨_, f2, f4.mono (by omega) (by omega), f5⟩, fun j j1 => by exact f3 j j1⟩
      · refine z_aload_n C 0 dX10_presses_12 rfl ?_
        refine z_iload_n C 1 dX10_presses_13 rfl ?_
        refine z_iload_n C 2 dX10_presses_14 rfl ?_
        refine z_iload_n C 3 dX10_presses_15 rfl ?_
        refine z_iconst (z := 3) C dX10_presses_16 rfl ?_
        obtain ⟨ky10, hky10⟩ : ∃ k9 : Nat, (ll) = (k9 : Int) := ⟨((ll) : Int).toNat, by omega⟩
        obtain ⟨qy11, hqy11⟩ : ∃ q9 : Nat, p + 2 + 7 * ky10 = q9 := ⟨_, rfl⟩
        obtain ⟨⟨hKzy12, hIzy12, hWzy12, hDzy12, hTzy12, hnzy12⟩, hmzy12, hdzy12⟩ := okS.layer f4 (k := ky10) (by omega) hqy11
        refine z_cV (As := [.int (zI ((b : Int))), .int (zI ((s : Int))), .int (zI (ll)), .int (zI (3))]) (rest := []) (ci := 12) C (c_X10_of l D A cs tt N ad _ i hN _ ((f3 _ (by omega)).trans hg) _ f2 b s p hp (by omega) (by omega) (ll) (3) (qy11 + 3) (by omega) (by omega) (by omega)) (lt_A0 hN rfl) hay5 ((f3 _ (by omega)).trans hg) rfl rfl mv_yX10_of q_1749 hd_yX10_of (by decide) (Nat.le_of_ble_eq_true rfl) (by decide) dX10_presses_17 rfl (kI0 fun vy13 gvy13 hvy13 => ?_)
        obtain ⟨rfl, rfl⟩ := hvy13
        refine z_istore (lv' := [(4, .int (zI (r9 (qy11 + 3)))), (0, .ref (ad i)), (1, .int (zI ((b : Int)))), (2, .int (zI ((s : Int)))), (3, .int (zI (ll)))]) C dX10_presses_20 (by decide) rfl ?_
        refine z_iload C 0 dX10_presses_22 rfl ?_
        refine z_i2l C dX10_presses_24 (by omega) ?_
        refine z_aload_n C 1 dX10_presses_25 rfl ?_
        refine z_iload_n C 2 dX10_presses_26 rfl ?_
        refine z_iload_n C 3 dX10_presses_27 rfl ?_
        refine z_iload_n C 4 dX10_presses_28 rfl ?_
        refine z_cV (As := [.int (zI ((b : Int))), .int (zI ((s : Int))), .int (zI (ll))]) (rest := [.long (zJ (r9 (qy11 + 3)))]) (ci := 12) C (c_X10_load l D A cs tt N ad _ i hN _ ((f3 _ (by omega)).trans hg) _ f2 b s p hp (by omega) (by omega) (M) (E + ms r p ll.toNat) (by omega) (by omega) f4 (ll) (by omega)) (lt_A0 hN rfl) hay5 ((f3 _ (by omega)).trans hg) rfl rfl mv_yX10_load q_1823 hd_yX10_load (by decide) (Nat.le_of_ble_eq_true rfl) (by decide) dX10_presses_29 rfl (kI0 fun vy14 gvy14 hvy14 => ?_)
        obtain ⟨hvy14, rfl⟩ := hvy14
        refine z_i2l C dX10_presses_32 (by omega) ?_
        refine z_lmul C dX10_presses_33 ?_
        have hmuy15 := ldm (d := (r9 (qy11 + 3))) (l := vy14) ⟨by omega, by omega⟩ (by omega)
        refine z_aload_n C 1 dX10_presses_34 rfl ?_
        refine z_get (v := .ref (ad (i + 7))) C (lt_A0 hN rfl) hay5 ((f3 _ (by omega)).trans hg) rfl inA_X10 6 (by decide) q_1465 rfl rfl dX10_presses_35 ?_
        refine z_bipush (z := 10) C dX10_presses_38 (by decide) ?_
        refine z_aload_n C 1 dX10_presses_40 rfl ?_
        refine z_iload_n C 2 dX10_presses_41 rfl ?_
        refine z_iload_n C 3 dX10_presses_42 rfl ?_
        refine z_iload_n C 4 dX10_presses_43 rfl ?_
        refine z_iconst (z := 0) C dX10_presses_44 rfl ?_
        refine z_cV (As := [.int (zI ((b : Int))), .int (zI ((s : Int))), .int (zI (ll)), .int (zI (0))]) (rest := [.int (zI (10)), .ref (ad (i + 7)), .long (zJ ((r9 (qy11 + 3)) * vy14))]) (ci := 12) C (c_X10_of l D A cs tt N ad _ i hN _ ((f3 _ (by omega)).trans hg) _ f2 b s p hp (by omega) (by omega) (ll) (0) (qy11) (by omega) (by omega) (by omega)) (lt_A0 hN rfl) hay5 ((f3 _ (by omega)).trans hg) rfl rfl mv_yX10_of q_1749 hd_yX10_of (by decide) (Nat.le_of_ble_eq_true rfl) (by decide) dX10_presses_45 rfl (kI0 fun vy16 gvy16 hvy16 => ?_)
        obtain ⟨rfl, rfl⟩ := hvy16
        refine z_iadd C dX10_presses_48 ?_
        refine z_iald C (lt_A (c := 7) hN rfl) hay7 ((f3 _ (by omega)).trans ha7) ((10 + (r9 (qy11))).toNat) (by omega) (by omega) (by decide) dX10_presses_49 ?_
        have hrfy17 := hT ((10 + (r9 (qy11))).toNat) (by omega)
        have ht1y18 := hT1 ((10 + (r9 (qy11))).toNat) (by omega) (by omega)
        refine z_i2l C dX10_presses_50 (by omega) ?_
        refine z_ldiv C dX10_presses_51 (by omega) (by omega) (by omega) ?_
        obtain ⟨xy19, exy19, hxy19⟩ := ldb (d := (r9 (qy11 + 3))) (l := vy14) (t := tb ((10 + (r9 (qy11))).toNat)) ⟨by omega, by omega⟩ (by omega) (by omega)
        rw [exy19]
        refine z_lstore (lv' := [(5, .long (zJ (xy19))), (4, .int (zI (r9 (qy11 + 3)))), (0, .ref (ad i)), (1, .int (zI ((b : Int)))), (2, .int (zI ((s : Int)))), (3, .int (zI (ll)))]) C dX10_presses_52 (by decide) rfl ?_
        refine z_iload C 1 dX10_presses_54 rfl ?_
        refine z_i2l C dX10_presses_56 (by omega) ?_
        refine z_lload C 0 dX10_presses_57 rfl ?_
        refine z_lsub C dX10_presses_59 ?_
        refine z_lstore (lv' := [(7, .long (zJ ((r9 (qy11 + 3)) - xy19))), (5, .long (zJ (xy19))), (4, .int (zI (r9 (qy11 + 3)))), (0, .ref (ad i)), (1, .int (zI ((b : Int)))), (2, .int (zI ((s : Int)))), (3, .int (zI (ll)))]) C dX10_presses_60 (by decide) rfl ?_
        refine z_aload_n C 3 dX10_presses_62 rfl ?_
        refine z_iload_n C 4 dX10_presses_63 rfl ?_
        refine z_iload_n C 5 dX10_presses_64 rfl ?_
        refine z_iload_n C 6 dX10_presses_65 rfl ?_
        refine z_cV (As := [.int (zI ((b : Int))), .int (zI ((s : Int))), .int (zI (ll))]) (rest := []) (ci := 12) C (c_X10_weightX l D A cs tt N ad _ i hN _ ((f3 _ (by omega)).trans hg) _ f2 b s p hp (by omega) (by omega) (M) (E + ms r p ll.toNat) (by omega) (by omega) f4 (ll) (by omega) ky10 qy11 (by omega) (by omega)) (lt_A0 hN rfl) hay5 ((f3 _ (by omega)).trans hg) rfl rfl mv_yX10_weight q_1784 hd_yX10_weight (by decide) (Nat.le_of_ble_eq_true rfl) (by decide) dX10_presses_66 rfl (kI0 fun vy20 gvy20 hvy20 => ?_)
        obtain ⟨rfl, rfl⟩ := hvy20
        refine z_istore (lv' := [(9, .int (zI (r9 (qy11 + 1) + r9 (qy11 + 2)))), (7, .long (zJ ((r9 (qy11 + 3)) - xy19))), (5, .long (zJ (xy19))), (4, .int (zI (r9 (qy11 + 3)))), (0, .ref (ad i)), (1, .int (zI ((b : Int)))), (2, .int (zI ((s : Int)))), (3, .int (zI (ll)))]) C dX10_presses_69 (by decide) rfl ?_
        refine z_aload_n C 4 dX10_presses_71 rfl ?_
        refine z_iload_n C 5 dX10_presses_72 rfl ?_
        refine z_iload_n C 6 dX10_presses_73 rfl ?_
        refine z_iload_n C 7 dX10_presses_74 rfl ?_
        refine z_iconst (z := 3) C dX10_presses_75 rfl ?_
        refine z_lload C 1 dX10_presses_76 rfl ?_
        refine z_iload C 0 dX10_presses_78 rfl ?_
        refine z_i2l C dX10_presses_80 (by omega) ?_
        refine z_lcmp C dX10_presses_81 (by omega) (by omega) ?_
        have hczr := cmpZ_r (a := (r9 (qy11 + 3)) - xy19) (b := r9 (qy11 + 1) + r9 (qy11 + 2))
        refine z_if_ge (tgt := 90) C dX10_presses_82 (by decide) (by omega) (fun hby21 => ?_) (fun hby21 => ?_)
        · have hcy22 : r9 (qy11 + 1) + r9 (qy11 + 2) ≤ (r9 (qy11 + 3)) - xy19 := cmpZ_ge.mp hby21
          refine z_lload C 1 dX10_presses_90 rfl ?_
          refine z_l2i C dX10_presses_92 ?_
          refine z_cV (As := [.int (zI ((b : Int))), .int (zI ((s : Int))), .int (zI (ll)), .int (zI (3)), .int (zI ((r9 (qy11 + 3)) - xy19))]) (rest := []) (ci := 12) C (c_X10_sets l D A cs tt N ad _ i hN _ ((f3 _ (by omega)).trans hg) _ f2 b s p hp (by omega) (by omega) (ll) (3) (qy11 + 3) (by omega) (by omega) (by omega) ((r9 (qy11 + 3)) - xy19)) (lt_A0 hN rfl) hay5 ((f3 _ (by omega)).trans hg) rfl rfl mv_yX10_sets q_1908 hd_yX10_sets (by decide) (Nat.le_of_ble_eq_true rfl) (by decide) dX10_presses_93 rfl (kV0 fun gvy23 hvy23 => ?_)
          obtain ⟨hcvy23, hfvy23⟩ := hvy23
          obtain ⟨ry24, hvy25⟩ : ∃ rZ9 : Nat → Int, rZ9 = uZ r9 (qy11 + 3) ((r9 (qy11 + 3)) - xy19) := ⟨_, rfl⟩
          rw [← hvy25] at hcvy23
          refine z_iinc (z := ll + 1) (lv' := [(3, .int (zI (ll + 1))), (9, .int (zI (r9 (qy11 + 1) + r9 (qy11 + 2)))), (7, .long (zJ ((r9 (qy11 + 3)) - xy19))), (5, .long (zJ (xy19))), (4, .int (zI (r9 (qy11 + 3)))), (0, .ref (ad i)), (1, .int (zI ((b : Int)))), (2, .int (zI ((s : Int))))]) (j := 7) C dX10_presses_96 rfl rfl (by decide) rfl ?_
          refine z_goto (tgt := 2) C dX10_presses_99 (by decide) ?_
          have hfry26 : ∀ j, j ≠ qy11 + 3 → ry24 j = r9 j := fun j n0 => (congrFun hvy25 _).trans ((uZ_n _ _ n0).trans (rfl))
          have hwy27 : ry24 (qy11 + 3) = (r9 (qy11 + 3)) - xy19 := (congrFun hvy25 _).trans (uZ_s _ _ _)
          have hS9 := ms_at (r := r) (l := ll) hky10 hqy11
          have hg1 : r9 (qy11 + 1) = r (qy11 + 1) := f6 _ (fun k9 => by omega)
          have hg2 : r9 (qy11 + 2) = r (qy11 + 2) := f6 _ (fun k9 => by omega)
          have hok9 := okS.press (r' := ry24) f4 (k := ky10) (by omega) hqy11 (fun j a1 => hfry26 j a1) ⟨by omega, by omega⟩
          have hok8 : okS ry24 p M (E + ms r p (ll + 1).toNat) := hok9.mono (by omega) (by omega)
          have hp8 : ry24 p = r9 p := hfry26 p (by omega)
          refine z_lv (lv' := [(0, .ref (ad i)), (1, .int (zI ((b : Int)))), (2, .int (zI ((s : Int)))), (3, .int (zI (ll + 1)))]) [5, 6, 7, 0] rfl ?_
          exact ih _ (by omega) (ll + 1) ry24 gvy23 rfl hcvy23 (fun j j1 => by rw [hfvy23 _ (by omega)]; exact f3 j j1) hok8 (fun j a1 => (hfry26 j (by omega)).trans (f5 j a1)) (fun j a1 => (hfry26 j (by have := a1 ky10; omega)).trans (f6 j a1)) (hp8.trans f7) (by omega)
        · have hcy22 : ¬ (r9 (qy11 + 1) + r9 (qy11 + 2) ≤ (r9 (qy11 + 3)) - xy19) := fun e9 => hby21 (cmpZ_ge.mpr e9)
          refine z_iload C 0 dX10_presses_85 rfl ?_
          refine z_goto (tgt := 93) C dX10_presses_87 (by decide) ?_
          refine z_cV (As := [.int (zI ((b : Int))), .int (zI ((s : Int))), .int (zI (ll)), .int (zI (3)), .int (zI (r9 (qy11 + 1) + r9 (qy11 + 2)))]) (rest := []) (ci := 12) C (c_X10_sets l D A cs tt N ad _ i hN _ ((f3 _ (by omega)).trans hg) _ f2 b s p hp (by omega) (by omega) (ll) (3) (qy11 + 3) (by omega) (by omega) (by omega) (r9 (qy11 + 1) + r9 (qy11 + 2))) (lt_A0 hN rfl) hay5 ((f3 _ (by omega)).trans hg) rfl rfl mv_yX10_sets q_1908 hd_yX10_sets (by decide) (Nat.le_of_ble_eq_true rfl) (by decide) dX10_presses_93 rfl (kV0 fun gvy28 hvy28 => ?_)
          obtain ⟨hcvy28, hfvy28⟩ := hvy28
          obtain ⟨ry29, hvy30⟩ : ∃ rZ9 : Nat → Int, rZ9 = uZ r9 (qy11 + 3) (r9 (qy11 + 1) + r9 (qy11 + 2)) := ⟨_, rfl⟩
          rw [← hvy30] at hcvy28
          refine z_iinc (z := ll + 1) (lv' := [(3, .int (zI (ll + 1))), (9, .int (zI (r9 (qy11 + 1) + r9 (qy11 + 2)))), (7, .long (zJ ((r9 (qy11 + 3)) - xy19))), (5, .long (zJ (xy19))), (4, .int (zI (r9 (qy11 + 3)))), (0, .ref (ad i)), (1, .int (zI ((b : Int)))), (2, .int (zI ((s : Int))))]) (j := 7) C dX10_presses_96 rfl rfl (by decide) rfl ?_
          refine z_goto (tgt := 2) C dX10_presses_99 (by decide) ?_
          have hfry31 : ∀ j, j ≠ qy11 + 3 → ry29 j = r9 j := fun j n0 => (congrFun hvy30 _).trans ((uZ_n _ _ n0).trans (rfl))
          have hwy32 : ry29 (qy11 + 3) = r9 (qy11 + 1) + r9 (qy11 + 2) := (congrFun hvy30 _).trans (uZ_s _ _ _)
          have hS9 := ms_at (r := r) (l := ll) hky10 hqy11
          have hg1 : r9 (qy11 + 1) = r (qy11 + 1) := f6 _ (fun k9 => by omega)
          have hg2 : r9 (qy11 + 2) = r (qy11 + 2) := f6 _ (fun k9 => by omega)
          have hok9 := okS.press (r' := ry29) f4 (k := ky10) (by omega) hqy11 (fun j a1 => hfry31 j a1) ⟨by omega, by omega⟩
          have hok8 : okS ry29 p M (E + ms r p (ll + 1).toNat) := hok9.mono (by omega) (by omega)
          have hp8 : ry29 p = r9 p := hfry31 p (by omega)
          refine z_lv (lv' := [(0, .ref (ad i)), (1, .int (zI ((b : Int)))), (2, .int (zI ((s : Int)))), (3, .int (zI (ll + 1)))]) [5, 6, 7, 0] rfl ?_
          exact ih _ (by omega) (ll + 1) ry29 gvy28 rfl hcvy28 (fun j j1 => by rw [hfvy28 _ (by omega)]; exact f3 j j1) hok8 (fun j a1 => (hfry31 j (by omega)).trans (f5 j a1)) (fun j a1 => (hfry31 j (by have := a1 ky10; omega)).trans (f6 j a1)) (hp8.trans f7) (by omega)
  refine z_iconst (z := 0) C dX10_presses_0 rfl ?_
  refine z_istore_n (lv' := [(3, .int (zI (0))), (0, .ref (ad i)), (1, .int (zI ((b : Int)))), (2, .int (zI ((s : Int))))]) C dX10_presses_1 rfl (by decide) rfl ?_
  refine z_lv (lv' := [(0, .ref (ad i)), (1, .int (zI ((b : Int)))), (2, .int (zI ((s : Int)))), (3, .int (zI (0)))]) [1, 2, 3, 0] rfl ?_
  exact lp _ 0 r g rfl ha1 (fun j j1 => by rfl) (ho.mono (by omega) (by show E ≤ E + 0; omega)) (fun j _ => rfl) (fun j _ => rfl) rfl (by omega)

theorem uZ_all {r : Nat → Int} {k n : Nat} {v lo hi : Int} (h : ∀ j, j < n → lo ≤ r j ∧ r j ≤ hi) (hv : lo ≤ v ∧ v ≤ hi) (hk : k = n) : ∀ j, j < n + 1 → lo ≤ uZ r k v j ∧ uZ r k v j ≤ hi := fun j hj => by
  subst hk
  by_cases e : j = k
  · rw [e, uZ_s]; exact hv
  · rw [uZ_n _ _ e]; exact h j (by omega)

set_option maxRecDepth 100000 in
set_option maxHeartbeats 4000000 in
theorem c_X10_evens (l : Launch) (D : va_G) (A : Nat → Prop) (cs : Nat → ClassId) (tt : Nat) (N : Nat) (ad : Nat → Nat) (g : Nat → va_E) (i : Nat) (hN : i + 30 ≤ N) (F : Nat → Int) (hg : g i = mC ad i F) (r : Nat → Int) (ha1 : g (i + 1) = iA cs 29200 r) (te : Nat → Int) (ha14 : g (i + 14) = iA cs 14 te) (b s p : Nat) (hp : b + 6 + 86 * s = p) (hb : b + 350 ≤ 29200) (hs : s < 4) (M E : Int) (hM : M ≤ 138500) (hE : E ≤ 400000000) (ho : okS r p M E) : zM l yX10_evens cX10_evens 6 none ({ frames := 3, cells := 0, slots := 0, locals := 180 } : Room) D A cs tt N ad g [.ref (ad i), .int (zI ((b : Int))), .int (zI ((s : Int)))] (rV0 N ad fun g' => (∃ r' : Nat → Int, g' (i + 1) = iA cs 29200 r' ∧ okS r' p (M) (E) ∧ (∀ j, j < p ∨ p + 86 ≤ j → r' j = r j)) ∧ (∃ t' : Nat → Int, g' (i + 14) = iA cs 14 t') ∧ ∀ j, j ≠ i + 1 → j ≠ i + 14 → g' j = g j) := by
  have hay1 : zAt ad (i) (ad i) := rfl
  have hay2 : zAt ad (i + 1) (ad (i + 1)) := rfl
  have hay3 : zAt ad (i + 14) (ad (i + 14)) := rfl
  have hmky4 := ho.1
  refine z_of (by decide) (Nat.le_of_ble_eq_true rfl) ?_
  intro pZ eZ sZ mZ below meth cZ C hr hlk hnm
  refine z_lv (lv' := [(0, .ref (ad i)), (1, .int (zI ((b : Int)))), (2, .int (zI ((s : Int))))]) [0, 1, 2] rfl ?_
  have lp2 : ∀ (n9 : Nat) (ll : Int) (r9 : Nat → Int) (t9 : Nat → Int) (g1 : Nat → va_E), (13 - ll).toNat = n9 → (g1 (i + 1) = iA cs 29200 r9) → (∀ j, j ≠ i + 1 → j ≠ i + 14 → g1 j = g j) → (okS r9 p M E) → (∀ j, j < p ∨ p + 86 ≤ j → r9 j = r j) → (g1 (i + 14) = iA cs 14 t9) → (∀ k, k < (r p).toNat → -300 ≤ t9 k ∧ t9 k ≤ 0) → (r9 p = r p) → (0 ≤ ll ∧ ll ≤ r p) → zV pZ l eZ ({ frames := 3, cells := 0, slots := 0, locals := 180 } : Room) sZ mZ ([.ref (ad i), .int (zI ((b : Int))), .int (zI ((s : Int)))] : List Value).toArray below meth cZ (MQ below (zPost D A (rV0 N ad fun g' => (∃ r' : Nat → Int, g' (i + 1) = iA cs 29200 r' ∧ okS r' p (M) (E) ∧ (∀ j, j < p ∨ p + 86 ≤ j → r' j = r j)) ∧ (∃ t' : Nat → Int, g' (i + 14) = iA cs 14 t') ∧ ∀ j, j ≠ i + 1 → j ≠ i + 14 → g' j = g j)) ([.ref (ad i), .int (zI ((b : Int))), .int (zI ((s : Int)))] : List Value).toArray sZ ({ frames := 3, cells := 0, slots := 0, locals := 180 } : Room).cells ({ frames := 3, cells := 0, slots := 0, locals := 180 } : Room).slots A) D A 6 (N) ad g1 (0) (0) 41 [(0, .ref (ad i)), (1, .int (zI ((b : Int)))), (2, .int (zI ((s : Int)))), (3, .int (zI (r (p)))), (4, .int (zI (ll)))] [] := by
    intro n9
    induction n9 using Nat.strongRecOn with
    | ind n9 ih_lp2 =>
      intro ll r9 t9 g1 hm9 f2 f3 f4 f5 f7 h9 f6 hv
      have hay5 : zAt ad (i) (ad i) := rfl
      have hay6 : zAt ad (i + 1) (ad (i + 1)) := rfl
      have hm9 := f4.1
      have hay7 : zAt ad (i + 14) (ad (i + 14)) := rfl
      refine z_iload C 4 dX10_evens_41 rfl ?_
      refine z_iload_n C 3 dX10_evens_43 rfl ?_
      refine z_icmp_ge (tgt := 159) C dX10_evens_44 (by decide) (by omega) (by omega) (fun hby8 => ?_) (fun hby8 => ?_)
      · exact z_vret C hr hlk dX10_evens_159 (by decide) (by decide) ⟨rfl, rfl, rfl, ⟨_, f2, f4, f5⟩, ⟨_, f7⟩, fun j j1 j2 => by exact f3 j j1 j2⟩
      · refine z_aload_n C 0 dX10_evens_47 rfl ?_
        refine z_get (v := .ref (ad (i + 14))) C (lt_A0 hN rfl) hay5 ((f3 _ (by omega) (by omega)).trans hg) rfl inA_X10 30 (by decide) q_1489 rfl rfl dX10_evens_48 ?_
        refine z_iload C 4 dX10_evens_51 rfl ?_
        refine z_iald C (lt_A (c := 14) hN rfl) hay7 f7 ((ll).toNat) (by omega) (by omega) (by decide) dX10_evens_53 ?_
        have hrfy9 := h9 ((ll).toNat) (by omega)
        refine z_istore (lv' := [(5, .int (zI (t9 ((ll).toNat)))), (0, .ref (ad i)), (1, .int (zI ((b : Int)))), (2, .int (zI ((s : Int)))), (3, .int (zI (r (p)))), (4, .int (zI (ll)))]) C dX10_evens_54 (by decide) rfl ?_
        refine z_iload C 5 dX10_evens_56 rfl ?_
        refine z_iconst (z := 1) C dX10_evens_58 rfl ?_
        refine z_iadd C dX10_evens_59 ?_
        refine z_iload_n C 4 dX10_evens_60 rfl ?_
        refine z_icmp_ge (tgt := 89) C dX10_evens_61 (by decide) (by omega) (by omega) (fun hby10 => ?_) (fun hby10 => ?_)
        · refine z_iload C 5 dX10_evens_89 rfl ?_
          refine z_if_le (tgt := 119) C dX10_evens_91 (by decide) (by omega) (fun hby11 => ?_) (fun hby11 => ?_)
          · refine z_iload C 5 dX10_evens_119 rfl ?_
            refine z_if_ne (tgt := 138) C dX10_evens_121 (by decide) (by omega) (fun hby12 => ?_) (fun hby12 => ?_)
            · refine z_aload_n C 1 dX10_evens_138 rfl ?_
              refine z_iload_n C 2 dX10_evens_139 rfl ?_
              refine z_iload_n C 3 dX10_evens_140 rfl ?_
              refine z_iload C 5 dX10_evens_141 rfl ?_
              refine z_iconst (z := 4) C dX10_evens_143 rfl ?_
              refine z_iload C 0 dX10_evens_144 rfl ?_
              refine z_iconst (z := 0) C dX10_evens_146 rfl ?_
              refine z_cS (As := [.int (zI (t9 ((ll).toNat))), .int (zI (0))]) (rest := [.int (zI (4)), .int (zI (ll)), .int (zI ((s : Int))), .int (zI ((b : Int))), .ref (ad i)]) C (c_X10_lesser l D A cs tt N ad _ (t9 ((ll).toNat)) (by omega) (0) (by omega)) ms_yX10_lesser q_1792 hd_yX10_lesser (by decide) (Nat.le_of_ble_eq_true rfl) (by decide) dX10_evens_147 rfl (kI0 fun vy13 gvy13 hvy13 => ?_)
              obtain ⟨hvy13, rfl⟩ := hvy13
              obtain ⟨ky14, hky14⟩ : ∃ k9 : Nat, (ll) = (k9 : Int) := ⟨((ll) : Int).toNat, by omega⟩
              obtain ⟨qy15, hqy15⟩ : ∃ q9 : Nat, p + 2 + 7 * ky14 = q9 := ⟨_, rfl⟩
              obtain ⟨⟨hKzy16, hIzy16, hWzy16, hDzy16, hTzy16, hnzy16⟩, hmzy16, hdzy16⟩ := okS.layer f4 (k := ky14) (by omega) hqy15
              refine z_cV (As := [.int (zI ((b : Int))), .int (zI ((s : Int))), .int (zI (ll)), .int (zI (4)), .int (zI (vy13))]) (rest := []) (ci := 12) C (c_X10_sets l D A cs tt N ad _ i hN _ ((f3 _ (by omega) (by omega)).trans hg) _ f2 b s p hp (by omega) (by omega) (ll) (4) (qy15 + 4) (by omega) (by omega) (by omega) (vy13)) (lt_A0 hN rfl) hay5 ((f3 _ (by omega) (by omega)).trans hg) rfl rfl mv_yX10_sets q_1908 hd_yX10_sets (by decide) (Nat.le_of_ble_eq_true rfl) (by decide) dX10_evens_150 rfl (kV0 fun gvy17 hvy17 => ?_)
              obtain ⟨hcvy17, hfvy17⟩ := hvy17
              obtain ⟨ry18, hvy19⟩ : ∃ rZ9 : Nat → Int, rZ9 = uZ r9 (qy15 + 4) (vy13) := ⟨_, rfl⟩
              rw [← hvy19] at hcvy17
              refine z_iinc (z := ll + 1) (lv' := [(4, .int (zI (ll + 1))), (5, .int (zI (t9 ((ll).toNat)))), (0, .ref (ad i)), (1, .int (zI ((b : Int)))), (2, .int (zI ((s : Int)))), (3, .int (zI (r (p))))]) (j := 5) C dX10_evens_153 rfl rfl (by decide) rfl ?_
              refine z_goto (tgt := 41) C dX10_evens_156 (by decide) ?_
              have hgy20 := (hfvy17 (i + 14) (ne_o (i := i) (c := 14) (d := 1) rfl)).trans f7
              have hfry21 : ∀ j, j ≠ qy15 + 4 → ry18 j = r9 j := fun j n0 => (congrFun hvy19 _).trans ((uZ_n _ _ n0).trans (rfl))
              have hwy23 : ry18 (p) = r9 (p) := (congrFun hvy19 _).trans ((uZ_n _ _ (by omega)).trans (rfl))
              have hwy24 : ry18 (qy15) = r9 (qy15) := (congrFun hvy19 _).trans ((uZ_n _ _ (by omega)).trans (rfl))
              have hwy25 : ry18 (qy15 + 1) = r9 (qy15 + 1) := (congrFun hvy19 _).trans ((uZ_n _ _ (by omega)).trans (rfl))
              have hwy26 : ry18 (qy15 + 2) = r9 (qy15 + 2) := (congrFun hvy19 _).trans ((uZ_n _ _ (by omega)).trans (rfl))
              have hwy27 : ry18 (qy15 + 3) = r9 (qy15 + 3) := (congrFun hvy19 _).trans ((uZ_n _ _ (by omega)).trans (rfl))
              have hwy28 : ry18 (qy15 + 4) = vy13 := (congrFun hvy19 _).trans (uZ_s _ _ _)
              have hwy29 : ry18 (qy15 + 6) = r9 (qy15 + 6) := (congrFun hvy19 _).trans ((uZ_n _ _ (by omega)).trans (rfl))
              have hlyy30 : ly ry18 qy15 := by unfold ly; omega
              have hoky220 := okS.one 0 0 f4 (k := ky14) (by omega) hqy15 (fun j a1 a2 a3 a4 => hfry21 j (by omega)) hlyy30 (by omega) (by omega)
              have hoky22 : okS ry18 p (M) (E) := hoky220.mono (by omega) (by omega)
              refine z_lv (lv' := [(0, .ref (ad i)), (1, .int (zI ((b : Int)))), (2, .int (zI ((s : Int)))), (3, .int (zI (r (p)))), (4, .int (zI (ll + 1)))]) [2, 3, 4, 5, 0] rfl ?_
              exact ih_lp2 _ (by omega) (ll + 1) ry18 t9 gvy17 rfl hcvy17 (fun j j1 j2 => by rw [hfvy17 _ (by omega)]; exact f3 j j1 j2) hoky22 (fun j a1 => (hfry21 j (by omega)).trans (f5 j a1)) hgy20 h9 (by rw [show ry18 p = r9 (p) from (congrFun hvy19 _).trans ((uZ_n _ _ (by omega)).trans (rfl))]; exact f6) (by omega)
            · refine z_iload C 0 dX10_evens_124 rfl ?_
              refine z_aload_n C 1 dX10_evens_126 rfl ?_
              refine z_get (v := .ref (ad (i + 14))) C (lt_A0 hN rfl) hay5 ((f3 _ (by omega) (by omega)).trans hg) rfl inA_X10 30 (by decide) q_1489 rfl rfl dX10_evens_127 ?_
              refine z_iconst (z := 0) C dX10_evens_130 rfl ?_
              refine z_iald C (lt_A (c := 14) hN rfl) hay7 f7 (0) (by omega) (by omega) (by decide) dX10_evens_131 ?_
              have hrfy31 := h9 (0) (by omega)
              refine z_bipush (z := 8) C dX10_evens_132 (by decide) ?_
              refine z_idiv C dX10_evens_134 (by omega) (by omega) (by omega) ?_
              obtain ⟨xy32, exy32, hxy32⟩ : ∃ x9, (t9 (0)).tdiv 8 = x9 ∧ (0 ≤ t9 (0) → 0 ≤ x9 ∧ 8 * x9 ≤ t9 (0) ∧ t9 (0) < 8 * x9 + 8) ∧ (t9 (0) ≤ 0 → x9 ≤ 0 ∧ t9 (0) ≤ 8 * x9 ∧ 8 * x9 < t9 (0) + 8) := tdk 8 (by decide)
              rw [exy32]
              refine z_isub C dX10_evens_135 ?_
              refine z_istore (lv' := [(5, .int (zI ((t9 ((ll).toNat)) - xy32))), (0, .ref (ad i)), (1, .int (zI ((b : Int)))), (2, .int (zI ((s : Int)))), (3, .int (zI (r (p)))), (4, .int (zI (ll)))]) C dX10_evens_136 (by decide) rfl ?_
              refine z_aload_n C 1 dX10_evens_138 rfl ?_
              refine z_iload_n C 2 dX10_evens_139 rfl ?_
              refine z_iload_n C 3 dX10_evens_140 rfl ?_
              refine z_iload C 5 dX10_evens_141 rfl ?_
              refine z_iconst (z := 4) C dX10_evens_143 rfl ?_
              refine z_iload C 0 dX10_evens_144 rfl ?_
              refine z_iconst (z := 0) C dX10_evens_146 rfl ?_
              refine z_cS (As := [.int (zI ((t9 ((ll).toNat)) - xy32)), .int (zI (0))]) (rest := [.int (zI (4)), .int (zI (ll)), .int (zI ((s : Int))), .int (zI ((b : Int))), .ref (ad i)]) C (c_X10_lesser l D A cs tt N ad _ ((t9 ((ll).toNat)) - xy32) (by omega) (0) (by omega)) ms_yX10_lesser q_1792 hd_yX10_lesser (by decide) (Nat.le_of_ble_eq_true rfl) (by decide) dX10_evens_147 rfl (kI0 fun vy33 gvy33 hvy33 => ?_)
              obtain ⟨hvy33, rfl⟩ := hvy33
              obtain ⟨ky34, hky34⟩ : ∃ k9 : Nat, (ll) = (k9 : Int) := ⟨((ll) : Int).toNat, by omega⟩
              obtain ⟨qy35, hqy35⟩ : ∃ q9 : Nat, p + 2 + 7 * ky34 = q9 := ⟨_, rfl⟩
              obtain ⟨⟨hKzy36, hIzy36, hWzy36, hDzy36, hTzy36, hnzy36⟩, hmzy36, hdzy36⟩ := okS.layer f4 (k := ky34) (by omega) hqy35
              refine z_cV (As := [.int (zI ((b : Int))), .int (zI ((s : Int))), .int (zI (ll)), .int (zI (4)), .int (zI (vy33))]) (rest := []) (ci := 12) C (c_X10_sets l D A cs tt N ad _ i hN _ ((f3 _ (by omega) (by omega)).trans hg) _ f2 b s p hp (by omega) (by omega) (ll) (4) (qy35 + 4) (by omega) (by omega) (by omega) (vy33)) (lt_A0 hN rfl) hay5 ((f3 _ (by omega) (by omega)).trans hg) rfl rfl mv_yX10_sets q_1908 hd_yX10_sets (by decide) (Nat.le_of_ble_eq_true rfl) (by decide) dX10_evens_150 rfl (kV0 fun gvy37 hvy37 => ?_)
              obtain ⟨hcvy37, hfvy37⟩ := hvy37
              obtain ⟨ry38, hvy39⟩ : ∃ rZ9 : Nat → Int, rZ9 = uZ r9 (qy35 + 4) (vy33) := ⟨_, rfl⟩
              rw [← hvy39] at hcvy37
              refine z_iinc (z := ll + 1) (lv' := [(4, .int (zI (ll + 1))), (5, .int (zI ((t9 ((ll).toNat)) - xy32))), (0, .ref (ad i)), (1, .int (zI ((b : Int)))), (2, .int (zI ((s : Int)))), (3, .int (zI (r (p))))]) (j := 5) C dX10_evens_153 rfl rfl (by decide) rfl ?_
              refine z_goto (tgt := 41) C dX10_evens_156 (by decide) ?_
              have hgy40 := (hfvy37 (i + 14) (ne_o (i := i) (c := 14) (d := 1) rfl)).trans f7
              have hfry41 : ∀ j, j ≠ qy35 + 4 → ry38 j = r9 j := fun j n0 => (congrFun hvy39 _).trans ((uZ_n _ _ n0).trans (rfl))
              have hwy43 : ry38 (p) = r9 (p) := (congrFun hvy39 _).trans ((uZ_n _ _ (by omega)).trans (rfl))
              have hwy44 : ry38 (qy35) = r9 (qy35) := (congrFun hvy39 _).trans ((uZ_n _ _ (by omega)).trans (rfl))
              have hwy45 : ry38 (qy35 + 1) = r9 (qy35 + 1) := (congrFun hvy39 _).trans ((uZ_n _ _ (by omega)).trans (rfl))
              have hwy46 : ry38 (qy35 + 2) = r9 (qy35 + 2) := (congrFun hvy39 _).trans ((uZ_n _ _ (by omega)).trans (rfl))
              have hwy47 : ry38 (qy35 + 3) = r9 (qy35 + 3) := (congrFun hvy39 _).trans ((uZ_n _ _ (by omega)).trans (rfl))
              have hwy48 : ry38 (qy35 + 4) = vy33 := (congrFun hvy39 _).trans (uZ_s _ _ _)
              have hwy49 : ry38 (qy35 + 6) = r9 (qy35 + 6) := (congrFun hvy39 _).trans ((uZ_n _ _ (by omega)).trans (rfl))
              have hlyy50 : ly ry38 qy35 := by unfold ly; omega
              have hoky420 := okS.one 0 0 f4 (k := ky34) (by omega) hqy35 (fun j a1 a2 a3 a4 => hfry41 j (by omega)) hlyy50 (by omega) (by omega)
              have hoky42 : okS ry38 p (M) (E) := hoky420.mono (by omega) (by omega)
              refine z_lv (lv' := [(0, .ref (ad i)), (1, .int (zI ((b : Int)))), (2, .int (zI ((s : Int)))), (3, .int (zI (r (p)))), (4, .int (zI (ll + 1)))]) [2, 3, 4, 5, 0] rfl ?_
              exact ih_lp2 _ (by omega) (ll + 1) ry38 t9 gvy37 rfl hcvy37 (fun j j1 j2 => by rw [hfvy37 _ (by omega)]; exact f3 j j1 j2) hoky42 (fun j a1 => (hfry41 j (by omega)).trans (f5 j a1)) hgy40 h9 (by rw [show ry38 p = r9 (p) from (congrFun hvy39 _).trans ((uZ_n _ _ (by omega)).trans (rfl))]; exact f6) (by omega)
          · refine z_iload C 0 dX10_evens_94 rfl ?_
            refine z_aload_n C 1 dX10_evens_96 rfl ?_
            refine z_get (v := .ref (ad (i + 14))) C (lt_A0 hN rfl) hay5 ((f3 _ (by omega) (by omega)).trans hg) rfl inA_X10 30 (by decide) q_1489 rfl rfl dX10_evens_97 ?_
            refine z_iload C 5 dX10_evens_100 rfl ?_
            refine z_iald C (lt_A (c := 14) hN rfl) hay7 f7 ((ll).toNat) (by omega) (by omega) (by decide) dX10_evens_102 ?_
            have hrfy51 := h9 ((ll).toNat) (by omega)
            refine z_aload_n C 1 dX10_evens_103 rfl ?_
            refine z_get (v := .ref (ad (i + 14))) C (lt_A0 hN rfl) hay5 ((f3 _ (by omega) (by omega)).trans hg) rfl inA_X10 30 (by decide) q_1489 rfl rfl dX10_evens_104 ?_
            refine z_iload C 5 dX10_evens_107 rfl ?_
            refine z_iconst (z := 1) C dX10_evens_109 rfl ?_
            refine z_isub C dX10_evens_110 ?_
            refine z_iald C (lt_A (c := 14) hN rfl) hay7 f7 ((ll - 1).toNat) (by omega) (by omega) (by decide) dX10_evens_111 ?_
            have hrfy52 := h9 ((ll - 1).toNat) (by omega)
            refine z_isub C dX10_evens_112 ?_
            refine z_bipush (z := 8) C dX10_evens_113 (by decide) ?_
            refine z_idiv C dX10_evens_115 (by omega) (by omega) (by omega) ?_
            obtain ⟨xy53, exy53, hxy53⟩ : ∃ x9, ((t9 ((ll).toNat)) - (t9 ((ll - 1).toNat))).tdiv 8 = x9 ∧ (0 ≤ (t9 ((ll).toNat)) - (t9 ((ll - 1).toNat)) → 0 ≤ x9 ∧ 8 * x9 ≤ (t9 ((ll).toNat)) - (t9 ((ll - 1).toNat)) ∧ (t9 ((ll).toNat)) - (t9 ((ll - 1).toNat)) < 8 * x9 + 8) ∧ ((t9 ((ll).toNat)) - (t9 ((ll - 1).toNat)) ≤ 0 → x9 ≤ 0 ∧ (t9 ((ll).toNat)) - (t9 ((ll - 1).toNat)) ≤ 8 * x9 ∧ 8 * x9 < (t9 ((ll).toNat)) - (t9 ((ll - 1).toNat)) + 8) := tdk 8 (by decide)
            rw [exy53]
            refine z_isub C dX10_evens_116 ?_
            refine z_istore (lv' := [(5, .int (zI ((t9 ((ll).toNat)) - xy53))), (0, .ref (ad i)), (1, .int (zI ((b : Int)))), (2, .int (zI ((s : Int)))), (3, .int (zI (r (p)))), (4, .int (zI (ll)))]) C dX10_evens_117 (by decide) rfl ?_
            refine z_iload C 5 dX10_evens_119 rfl ?_
            refine z_if_ne (tgt := 138) C dX10_evens_121 (by decide) (by omega) (fun hby54 => ?_) (fun hby54 => ?_)
            · refine z_aload_n C 1 dX10_evens_138 rfl ?_
              refine z_iload_n C 2 dX10_evens_139 rfl ?_
              refine z_iload_n C 3 dX10_evens_140 rfl ?_
              refine z_iload C 5 dX10_evens_141 rfl ?_
              refine z_iconst (z := 4) C dX10_evens_143 rfl ?_
              refine z_iload C 0 dX10_evens_144 rfl ?_
              refine z_iconst (z := 0) C dX10_evens_146 rfl ?_
              refine z_cS (As := [.int (zI ((t9 ((ll).toNat)) - xy53)), .int (zI (0))]) (rest := [.int (zI (4)), .int (zI (ll)), .int (zI ((s : Int))), .int (zI ((b : Int))), .ref (ad i)]) C (c_X10_lesser l D A cs tt N ad _ ((t9 ((ll).toNat)) - xy53) (by omega) (0) (by omega)) ms_yX10_lesser q_1792 hd_yX10_lesser (by decide) (Nat.le_of_ble_eq_true rfl) (by decide) dX10_evens_147 rfl (kI0 fun vy55 gvy55 hvy55 => ?_)
              obtain ⟨hvy55, rfl⟩ := hvy55
              obtain ⟨ky56, hky56⟩ : ∃ k9 : Nat, (ll) = (k9 : Int) := ⟨((ll) : Int).toNat, by omega⟩
              obtain ⟨qy57, hqy57⟩ : ∃ q9 : Nat, p + 2 + 7 * ky56 = q9 := ⟨_, rfl⟩
              obtain ⟨⟨hKzy58, hIzy58, hWzy58, hDzy58, hTzy58, hnzy58⟩, hmzy58, hdzy58⟩ := okS.layer f4 (k := ky56) (by omega) hqy57
              refine z_cV (As := [.int (zI ((b : Int))), .int (zI ((s : Int))), .int (zI (ll)), .int (zI (4)), .int (zI (vy55))]) (rest := []) (ci := 12) C (c_X10_sets l D A cs tt N ad _ i hN _ ((f3 _ (by omega) (by omega)).trans hg) _ f2 b s p hp (by omega) (by omega) (ll) (4) (qy57 + 4) (by omega) (by omega) (by omega) (vy55)) (lt_A0 hN rfl) hay5 ((f3 _ (by omega) (by omega)).trans hg) rfl rfl mv_yX10_sets q_1908 hd_yX10_sets (by decide) (Nat.le_of_ble_eq_true rfl) (by decide) dX10_evens_150 rfl (kV0 fun gvy59 hvy59 => ?_)
              obtain ⟨hcvy59, hfvy59⟩ := hvy59
              obtain ⟨ry60, hvy61⟩ : ∃ rZ9 : Nat → Int, rZ9 = uZ r9 (qy57 + 4) (vy55) := ⟨_, rfl⟩
              rw [← hvy61] at hcvy59
              refine z_iinc (z := ll + 1) (lv' := [(4, .int (zI (ll + 1))), (5, .int (zI ((t9 ((ll).toNat)) - xy53))), (0, .ref (ad i)), (1, .int (zI ((b : Int)))), (2, .int (zI ((s : Int)))), (3, .int (zI (r (p))))]) (j := 5) C dX10_evens_153 rfl rfl (by decide) rfl ?_
              refine z_goto (tgt := 41) C dX10_evens_156 (by decide) ?_
              have hgy62 := (hfvy59 (i + 14) (ne_o (i := i) (c := 14) (d := 1) rfl)).trans f7
              have hfry63 : ∀ j, j ≠ qy57 + 4 → ry60 j = r9 j := fun j n0 => (congrFun hvy61 _).trans ((uZ_n _ _ n0).trans (rfl))
              have hwy65 : ry60 (p) = r9 (p) := (congrFun hvy61 _).trans ((uZ_n _ _ (by omega)).trans (rfl))
              have hwy66 : ry60 (qy57) = r9 (qy57) := (congrFun hvy61 _).trans ((uZ_n _ _ (by omega)).trans (rfl))
              have hwy67 : ry60 (qy57 + 1) = r9 (qy57 + 1) := (congrFun hvy61 _).trans ((uZ_n _ _ (by omega)).trans (rfl))
              have hwy68 : ry60 (qy57 + 2) = r9 (qy57 + 2) := (congrFun hvy61 _).trans ((uZ_n _ _ (by omega)).trans (rfl))
              have hwy69 : ry60 (qy57 + 3) = r9 (qy57 + 3) := (congrFun hvy61 _).trans ((uZ_n _ _ (by omega)).trans (rfl))
              have hwy70 : ry60 (qy57 + 4) = vy55 := (congrFun hvy61 _).trans (uZ_s _ _ _)
              have hwy71 : ry60 (qy57 + 6) = r9 (qy57 + 6) := (congrFun hvy61 _).trans ((uZ_n _ _ (by omega)).trans (rfl))
              have hlyy72 : ly ry60 qy57 := by unfold ly; omega
              have hoky640 := okS.one 0 0 f4 (k := ky56) (by omega) hqy57 (fun j a1 a2 a3 a4 => hfry63 j (by omega)) hlyy72 (by omega) (by omega)
              have hoky64 : okS ry60 p (M) (E) := hoky640.mono (by omega) (by omega)
              refine z_lv (lv' := [(0, .ref (ad i)), (1, .int (zI ((b : Int)))), (2, .int (zI ((s : Int)))), (3, .int (zI (r (p)))), (4, .int (zI (ll + 1)))]) [2, 3, 4, 5, 0] rfl ?_
              exact ih_lp2 _ (by omega) (ll + 1) ry60 t9 gvy59 rfl hcvy59 (fun j j1 j2 => by rw [hfvy59 _ (by omega)]; exact f3 j j1 j2) hoky64 (fun j a1 => (hfry63 j (by omega)).trans (f5 j a1)) hgy62 h9 (by rw [show ry60 p = r9 (p) from (congrFun hvy61 _).trans ((uZ_n _ _ (by omega)).trans (rfl))]; exact f6) (by omega)
            · refine z_iload C 0 dX10_evens_124 rfl ?_
              refine z_aload_n C 1 dX10_evens_126 rfl ?_
              refine z_get (v := .ref (ad (i + 14))) C (lt_A0 hN rfl) hay5 ((f3 _ (by omega) (by omega)).trans hg) rfl inA_X10 30 (by decide) q_1489 rfl rfl dX10_evens_127 ?_
              refine z_iconst (z := 0) C dX10_evens_130 rfl ?_
              refine z_iald C (lt_A (c := 14) hN rfl) hay7 f7 (0) (by omega) (by omega) (by decide) dX10_evens_131 ?_
              have hrfy73 := h9 (0) (by omega)
              refine z_bipush (z := 8) C dX10_evens_132 (by decide) ?_
              refine z_idiv C dX10_evens_134 (by omega) (by omega) (by omega) ?_
              obtain ⟨xy74, exy74, hxy74⟩ : ∃ x9, (t9 (0)).tdiv 8 = x9 ∧ (0 ≤ t9 (0) → 0 ≤ x9 ∧ 8 * x9 ≤ t9 (0) ∧ t9 (0) < 8 * x9 + 8) ∧ (t9 (0) ≤ 0 → x9 ≤ 0 ∧ t9 (0) ≤ 8 * x9 ∧ 8 * x9 < t9 (0) + 8) := tdk 8 (by decide)
              rw [exy74]
              refine z_isub C dX10_evens_135 ?_
              refine z_istore (lv' := [(5, .int (zI (((t9 ((ll).toNat)) - xy53) - xy74))), (0, .ref (ad i)), (1, .int (zI ((b : Int)))), (2, .int (zI ((s : Int)))), (3, .int (zI (r (p)))), (4, .int (zI (ll)))]) C dX10_evens_136 (by decide) rfl ?_
              refine z_aload_n C 1 dX10_evens_138 rfl ?_
              refine z_iload_n C 2 dX10_evens_139 rfl ?_
              refine z_iload_n C 3 dX10_evens_140 rfl ?_
              refine z_iload C 5 dX10_evens_141 rfl ?_
              refine z_iconst (z := 4) C dX10_evens_143 rfl ?_
              refine z_iload C 0 dX10_evens_144 rfl ?_
              refine z_iconst (z := 0) C dX10_evens_146 rfl ?_
              refine z_cS (As := [.int (zI (((t9 ((ll).toNat)) - xy53) - xy74)), .int (zI (0))]) (rest := [.int (zI (4)), .int (zI (ll)), .int (zI ((s : Int))), .int (zI ((b : Int))), .ref (ad i)]) C (c_X10_lesser l D A cs tt N ad _ (((t9 ((ll).toNat)) - xy53) - xy74) (by omega) (0) (by omega)) ms_yX10_lesser q_1792 hd_yX10_lesser (by decide) (Nat.le_of_ble_eq_true rfl) (by decide) dX10_evens_147 rfl (kI0 fun vy75 gvy75 hvy75 => ?_)
              obtain ⟨hvy75, rfl⟩ := hvy75
              obtain ⟨ky76, hky76⟩ : ∃ k9 : Nat, (ll) = (k9 : Int) := ⟨((ll) : Int).toNat, by omega⟩
              obtain ⟨qy77, hqy77⟩ : ∃ q9 : Nat, p + 2 + 7 * ky76 = q9 := ⟨_, rfl⟩
              obtain ⟨⟨hKzy78, hIzy78, hWzy78, hDzy78, hTzy78, hnzy78⟩, hmzy78, hdzy78⟩ := okS.layer f4 (k := ky76) (by omega) hqy77
              refine z_cV (As := [.int (zI ((b : Int))), .int (zI ((s : Int))), .int (zI (ll)), .int (zI (4)), .int (zI (vy75))]) (rest := []) (ci := 12) C (c_X10_sets l D A cs tt N ad _ i hN _ ((f3 _ (by omega) (by omega)).trans hg) _ f2 b s p hp (by omega) (by omega) (ll) (4) (qy77 + 4) (by omega) (by omega) (by omega) (vy75)) (lt_A0 hN rfl) hay5 ((f3 _ (by omega) (by omega)).trans hg) rfl rfl mv_yX10_sets q_1908 hd_yX10_sets (by decide) (Nat.le_of_ble_eq_true rfl) (by decide) dX10_evens_150 rfl (kV0 fun gvy79 hvy79 => ?_)
              obtain ⟨hcvy79, hfvy79⟩ := hvy79
              obtain ⟨ry80, hvy81⟩ : ∃ rZ9 : Nat → Int, rZ9 = uZ r9 (qy77 + 4) (vy75) := ⟨_, rfl⟩
              rw [← hvy81] at hcvy79
              refine z_iinc (z := ll + 1) (lv' := [(4, .int (zI (ll + 1))), (5, .int (zI (((t9 ((ll).toNat)) - xy53) - xy74))), (0, .ref (ad i)), (1, .int (zI ((b : Int)))), (2, .int (zI ((s : Int)))), (3, .int (zI (r (p))))]) (j := 5) C dX10_evens_153 rfl rfl (by decide) rfl ?_
              refine z_goto (tgt := 41) C dX10_evens_156 (by decide) ?_
              have hgy82 := (hfvy79 (i + 14) (ne_o (i := i) (c := 14) (d := 1) rfl)).trans f7
              have hfry83 : ∀ j, j ≠ qy77 + 4 → ry80 j = r9 j := fun j n0 => (congrFun hvy81 _).trans ((uZ_n _ _ n0).trans (rfl))
              have hwy85 : ry80 (p) = r9 (p) := (congrFun hvy81 _).trans ((uZ_n _ _ (by omega)).trans (rfl))
              have hwy86 : ry80 (qy77) = r9 (qy77) := (congrFun hvy81 _).trans ((uZ_n _ _ (by omega)).trans (rfl))
              have hwy87 : ry80 (qy77 + 1) = r9 (qy77 + 1) := (congrFun hvy81 _).trans ((uZ_n _ _ (by omega)).trans (rfl))
              have hwy88 : ry80 (qy77 + 2) = r9 (qy77 + 2) := (congrFun hvy81 _).trans ((uZ_n _ _ (by omega)).trans (rfl))
              have hwy89 : ry80 (qy77 + 3) = r9 (qy77 + 3) := (congrFun hvy81 _).trans ((uZ_n _ _ (by omega)).trans (rfl))
              have hwy90 : ry80 (qy77 + 4) = vy75 := (congrFun hvy81 _).trans (uZ_s _ _ _)
              have hwy91 : ry80 (qy77 + 6) = r9 (qy77 + 6) := (congrFun hvy81 _).trans ((uZ_n _ _ (by omega)).trans (rfl))
              have hlyy92 : ly ry80 qy77 := by unfold ly; omega
              have hoky840 := okS.one 0 0 f4 (k := ky76) (by omega) hqy77 (fun j a1 a2 a3 a4 => hfry83 j (by omega)) hlyy92 (by omega) (by omega)
              have hoky84 : okS ry80 p (M) (E) := hoky840.mono (by omega) (by omega)
              refine z_lv (lv' := [(0, .ref (ad i)), (1, .int (zI ((b : Int)))), (2, .int (zI ((s : Int)))), (3, .int (zI (r (p)))), (4, .int (zI (ll + 1)))]) [2, 3, 4, 5, 0] rfl ?_
              exact ih_lp2 _ (by omega) (ll + 1) ry80 t9 gvy79 rfl hcvy79 (fun j j1 j2 => by rw [hfvy79 _ (by omega)]; exact f3 j j1 j2) hoky84 (fun j a1 => (hfry83 j (by omega)).trans (f5 j a1)) hgy82 h9 (by rw [show ry80 p = r9 (p) from (congrFun hvy81 _).trans ((uZ_n _ _ (by omega)).trans (rfl))]; exact f6) (by omega)
        · refine z_iload C 0 dX10_evens_64 rfl ?_
          refine z_aload_n C 1 dX10_evens_66 rfl ?_
          refine z_get (v := .ref (ad (i + 14))) C (lt_A0 hN rfl) hay5 ((f3 _ (by omega) (by omega)).trans hg) rfl inA_X10 30 (by decide) q_1489 rfl rfl dX10_evens_67 ?_
          refine z_iload C 5 dX10_evens_70 rfl ?_
          refine z_iconst (z := 1) C dX10_evens_72 rfl ?_
          refine z_iadd C dX10_evens_73 ?_
          refine z_iald C (lt_A (c := 14) hN rfl) hay7 f7 ((ll + 1).toNat) (by omega) (by omega) (by decide) dX10_evens_74 ?_
          have hrfy93 := h9 ((ll + 1).toNat) (by omega)
          refine z_aload_n C 1 dX10_evens_75 rfl ?_
          refine z_get (v := .ref (ad (i + 14))) C (lt_A0 hN rfl) hay5 ((f3 _ (by omega) (by omega)).trans hg) rfl inA_X10 30 (by decide) q_1489 rfl rfl dX10_evens_76 ?_
          refine z_iload C 5 dX10_evens_79 rfl ?_
          refine z_iald C (lt_A (c := 14) hN rfl) hay7 f7 ((ll).toNat) (by omega) (by omega) (by decide) dX10_evens_81 ?_
          have hrfy94 := h9 ((ll).toNat) (by omega)
          refine z_isub C dX10_evens_82 ?_
          refine z_bipush (z := 8) C dX10_evens_83 (by decide) ?_
          refine z_idiv C dX10_evens_85 (by omega) (by omega) (by omega) ?_
          obtain ⟨xy95, exy95, hxy95⟩ : ∃ x9, ((t9 ((ll + 1).toNat)) - (t9 ((ll).toNat))).tdiv 8 = x9 ∧ (0 ≤ (t9 ((ll + 1).toNat)) - (t9 ((ll).toNat)) → 0 ≤ x9 ∧ 8 * x9 ≤ (t9 ((ll + 1).toNat)) - (t9 ((ll).toNat)) ∧ (t9 ((ll + 1).toNat)) - (t9 ((ll).toNat)) < 8 * x9 + 8) ∧ ((t9 ((ll + 1).toNat)) - (t9 ((ll).toNat)) ≤ 0 → x9 ≤ 0 ∧ (t9 ((ll + 1).toNat)) - (t9 ((ll).toNat)) ≤ 8 * x9 ∧ 8 * x9 < (t9 ((ll + 1).toNat)) - (t9 ((ll).toNat)) + 8) := tdk 8 (by decide)
          rw [exy95]
          refine z_iadd C dX10_evens_86 ?_
          refine z_istore (lv' := [(5, .int (zI ((t9 ((ll).toNat)) + xy95))), (0, .ref (ad i)), (1, .int (zI ((b : Int)))), (2, .int (zI ((s : Int)))), (3, .int (zI (r (p)))), (4, .int (zI (ll)))]) C dX10_evens_87 (by decide) rfl ?_
          refine z_iload C 5 dX10_evens_89 rfl ?_
          refine z_if_le (tgt := 119) C dX10_evens_91 (by decide) (by omega) (fun hby96 => ?_) (fun hby96 => ?_)
          · refine z_iload C 5 dX10_evens_119 rfl ?_
            refine z_if_ne (tgt := 138) C dX10_evens_121 (by decide) (by omega) (fun hby97 => ?_) (fun hby97 => ?_)
            · refine z_aload_n C 1 dX10_evens_138 rfl ?_
              refine z_iload_n C 2 dX10_evens_139 rfl ?_
              refine z_iload_n C 3 dX10_evens_140 rfl ?_
              refine z_iload C 5 dX10_evens_141 rfl ?_
              refine z_iconst (z := 4) C dX10_evens_143 rfl ?_
              refine z_iload C 0 dX10_evens_144 rfl ?_
              refine z_iconst (z := 0) C dX10_evens_146 rfl ?_
              refine z_cS (As := [.int (zI ((t9 ((ll).toNat)) + xy95)), .int (zI (0))]) (rest := [.int (zI (4)), .int (zI (ll)), .int (zI ((s : Int))), .int (zI ((b : Int))), .ref (ad i)]) C (c_X10_lesser l D A cs tt N ad _ ((t9 ((ll).toNat)) + xy95) (by omega) (0) (by omega)) ms_yX10_lesser q_1792 hd_yX10_lesser (by decide) (Nat.le_of_ble_eq_true rfl) (by decide) dX10_evens_147 rfl (kI0 fun vy98 gvy98 hvy98 => ?_)
              obtain ⟨hvy98, rfl⟩ := hvy98
              obtain ⟨ky99, hky99⟩ : ∃ k9 : Nat, (ll) = (k9 : Int) := ⟨((ll) : Int).toNat, by omega⟩
              obtain ⟨qy100, hqy100⟩ : ∃ q9 : Nat, p + 2 + 7 * ky99 = q9 := ⟨_, rfl⟩
              obtain ⟨⟨hKzy101, hIzy101, hWzy101, hDzy101, hTzy101, hnzy101⟩, hmzy101, hdzy101⟩ := okS.layer f4 (k := ky99) (by omega) hqy100
              refine z_cV (As := [.int (zI ((b : Int))), .int (zI ((s : Int))), .int (zI (ll)), .int (zI (4)), .int (zI (vy98))]) (rest := []) (ci := 12) C (c_X10_sets l D A cs tt N ad _ i hN _ ((f3 _ (by omega) (by omega)).trans hg) _ f2 b s p hp (by omega) (by omega) (ll) (4) (qy100 + 4) (by omega) (by omega) (by omega) (vy98)) (lt_A0 hN rfl) hay5 ((f3 _ (by omega) (by omega)).trans hg) rfl rfl mv_yX10_sets q_1908 hd_yX10_sets (by decide) (Nat.le_of_ble_eq_true rfl) (by decide) dX10_evens_150 rfl (kV0 fun gvy102 hvy102 => ?_)
              obtain ⟨hcvy102, hfvy102⟩ := hvy102
              obtain ⟨ry103, hvy104⟩ : ∃ rZ9 : Nat → Int, rZ9 = uZ r9 (qy100 + 4) (vy98) := ⟨_, rfl⟩
              rw [← hvy104] at hcvy102
              refine z_iinc (z := ll + 1) (lv' := [(4, .int (zI (ll + 1))), (5, .int (zI ((t9 ((ll).toNat)) + xy95))), (0, .ref (ad i)), (1, .int (zI ((b : Int)))), (2, .int (zI ((s : Int)))), (3, .int (zI (r (p))))]) (j := 5) C dX10_evens_153 rfl rfl (by decide) rfl ?_
              refine z_goto (tgt := 41) C dX10_evens_156 (by decide) ?_
              have hgy105 := (hfvy102 (i + 14) (ne_o (i := i) (c := 14) (d := 1) rfl)).trans f7
              have hfry106 : ∀ j, j ≠ qy100 + 4 → ry103 j = r9 j := fun j n0 => (congrFun hvy104 _).trans ((uZ_n _ _ n0).trans (rfl))
              have hwy108 : ry103 (p) = r9 (p) := (congrFun hvy104 _).trans ((uZ_n _ _ (by omega)).trans (rfl))
              have hwy109 : ry103 (qy100) = r9 (qy100) := (congrFun hvy104 _).trans ((uZ_n _ _ (by omega)).trans (rfl))
              have hwy110 : ry103 (qy100 + 1) = r9 (qy100 + 1) := (congrFun hvy104 _).trans ((uZ_n _ _ (by omega)).trans (rfl))
              have hwy111 : ry103 (qy100 + 2) = r9 (qy100 + 2) := (congrFun hvy104 _).trans ((uZ_n _ _ (by omega)).trans (rfl))
              have hwy112 : ry103 (qy100 + 3) = r9 (qy100 + 3) := (congrFun hvy104 _).trans ((uZ_n _ _ (by omega)).trans (rfl))
              have hwy113 : ry103 (qy100 + 4) = vy98 := (congrFun hvy104 _).trans (uZ_s _ _ _)
              have hwy114 : ry103 (qy100 + 6) = r9 (qy100 + 6) := (congrFun hvy104 _).trans ((uZ_n _ _ (by omega)).trans (rfl))
              have hlyy115 : ly ry103 qy100 := by unfold ly; omega
              have hoky1070 := okS.one 0 0 f4 (k := ky99) (by omega) hqy100 (fun j a1 a2 a3 a4 => hfry106 j (by omega)) hlyy115 (by omega) (by omega)
              have hoky107 : okS ry103 p (M) (E) := hoky1070.mono (by omega) (by omega)
              refine z_lv (lv' := [(0, .ref (ad i)), (1, .int (zI ((b : Int)))), (2, .int (zI ((s : Int)))), (3, .int (zI (r (p)))), (4, .int (zI (ll + 1)))]) [2, 3, 4, 5, 0] rfl ?_
              exact ih_lp2 _ (by omega) (ll + 1) ry103 t9 gvy102 rfl hcvy102 (fun j j1 j2 => by rw [hfvy102 _ (by omega)]; exact f3 j j1 j2) hoky107 (fun j a1 => (hfry106 j (by omega)).trans (f5 j a1)) hgy105 h9 (by rw [show ry103 p = r9 (p) from (congrFun hvy104 _).trans ((uZ_n _ _ (by omega)).trans (rfl))]; exact f6) (by omega)
            · refine z_iload C 0 dX10_evens_124 rfl ?_
              refine z_aload_n C 1 dX10_evens_126 rfl ?_
              refine z_get (v := .ref (ad (i + 14))) C (lt_A0 hN rfl) hay5 ((f3 _ (by omega) (by omega)).trans hg) rfl inA_X10 30 (by decide) q_1489 rfl rfl dX10_evens_127 ?_
              refine z_iconst (z := 0) C dX10_evens_130 rfl ?_
              refine z_iald C (lt_A (c := 14) hN rfl) hay7 f7 (0) (by omega) (by omega) (by decide) dX10_evens_131 ?_
              have hrfy116 := h9 (0) (by omega)
              refine z_bipush (z := 8) C dX10_evens_132 (by decide) ?_
              refine z_idiv C dX10_evens_134 (by omega) (by omega) (by omega) ?_
              obtain ⟨xy117, exy117, hxy117⟩ : ∃ x9, (t9 (0)).tdiv 8 = x9 ∧ (0 ≤ t9 (0) → 0 ≤ x9 ∧ 8 * x9 ≤ t9 (0) ∧ t9 (0) < 8 * x9 + 8) ∧ (t9 (0) ≤ 0 → x9 ≤ 0 ∧ t9 (0) ≤ 8 * x9 ∧ 8 * x9 < t9 (0) + 8) := tdk 8 (by decide)
              rw [exy117]
              refine z_isub C dX10_evens_135 ?_
              refine z_istore (lv' := [(5, .int (zI (((t9 ((ll).toNat)) + xy95) - xy117))), (0, .ref (ad i)), (1, .int (zI ((b : Int)))), (2, .int (zI ((s : Int)))), (3, .int (zI (r (p)))), (4, .int (zI (ll)))]) C dX10_evens_136 (by decide) rfl ?_
              refine z_aload_n C 1 dX10_evens_138 rfl ?_
              refine z_iload_n C 2 dX10_evens_139 rfl ?_
              refine z_iload_n C 3 dX10_evens_140 rfl ?_
              refine z_iload C 5 dX10_evens_141 rfl ?_
              refine z_iconst (z := 4) C dX10_evens_143 rfl ?_
              refine z_iload C 0 dX10_evens_144 rfl ?_
              refine z_iconst (z := 0) C dX10_evens_146 rfl ?_
              refine z_cS (As := [.int (zI (((t9 ((ll).toNat)) + xy95) - xy117)), .int (zI (0))]) (rest := [.int (zI (4)), .int (zI (ll)), .int (zI ((s : Int))), .int (zI ((b : Int))), .ref (ad i)]) C (c_X10_lesser l D A cs tt N ad _ (((t9 ((ll).toNat)) + xy95) - xy117) (by omega) (0) (by omega)) ms_yX10_lesser q_1792 hd_yX10_lesser (by decide) (Nat.le_of_ble_eq_true rfl) (by decide) dX10_evens_147 rfl (kI0 fun vy118 gvy118 hvy118 => ?_)
              obtain ⟨hvy118, rfl⟩ := hvy118
              obtain ⟨ky119, hky119⟩ : ∃ k9 : Nat, (ll) = (k9 : Int) := ⟨((ll) : Int).toNat, by omega⟩
              obtain ⟨qy120, hqy120⟩ : ∃ q9 : Nat, p + 2 + 7 * ky119 = q9 := ⟨_, rfl⟩
              obtain ⟨⟨hKzy121, hIzy121, hWzy121, hDzy121, hTzy121, hnzy121⟩, hmzy121, hdzy121⟩ := okS.layer f4 (k := ky119) (by omega) hqy120
              refine z_cV (As := [.int (zI ((b : Int))), .int (zI ((s : Int))), .int (zI (ll)), .int (zI (4)), .int (zI (vy118))]) (rest := []) (ci := 12) C (c_X10_sets l D A cs tt N ad _ i hN _ ((f3 _ (by omega) (by omega)).trans hg) _ f2 b s p hp (by omega) (by omega) (ll) (4) (qy120 + 4) (by omega) (by omega) (by omega) (vy118)) (lt_A0 hN rfl) hay5 ((f3 _ (by omega) (by omega)).trans hg) rfl rfl mv_yX10_sets q_1908 hd_yX10_sets (by decide) (Nat.le_of_ble_eq_true rfl) (by decide) dX10_evens_150 rfl (kV0 fun gvy122 hvy122 => ?_)
              obtain ⟨hcvy122, hfvy122⟩ := hvy122
              obtain ⟨ry123, hvy124⟩ : ∃ rZ9 : Nat → Int, rZ9 = uZ r9 (qy120 + 4) (vy118) := ⟨_, rfl⟩
              rw [← hvy124] at hcvy122
              refine z_iinc (z := ll + 1) (lv' := [(4, .int (zI (ll + 1))), (5, .int (zI (((t9 ((ll).toNat)) + xy95) - xy117))), (0, .ref (ad i)), (1, .int (zI ((b : Int)))), (2, .int (zI ((s : Int)))), (3, .int (zI (r (p))))]) (j := 5) C dX10_evens_153 rfl rfl (by decide) rfl ?_
              refine z_goto (tgt := 41) C dX10_evens_156 (by decide) ?_
              have hgy125 := (hfvy122 (i + 14) (ne_o (i := i) (c := 14) (d := 1) rfl)).trans f7
              have hfry126 : ∀ j, j ≠ qy120 + 4 → ry123 j = r9 j := fun j n0 => (congrFun hvy124 _).trans ((uZ_n _ _ n0).trans (rfl))
              have hwy128 : ry123 (p) = r9 (p) := (congrFun hvy124 _).trans ((uZ_n _ _ (by omega)).trans (rfl))
              have hwy129 : ry123 (qy120) = r9 (qy120) := (congrFun hvy124 _).trans ((uZ_n _ _ (by omega)).trans (rfl))
              have hwy130 : ry123 (qy120 + 1) = r9 (qy120 + 1) := (congrFun hvy124 _).trans ((uZ_n _ _ (by omega)).trans (rfl))
              have hwy131 : ry123 (qy120 + 2) = r9 (qy120 + 2) := (congrFun hvy124 _).trans ((uZ_n _ _ (by omega)).trans (rfl))
              have hwy132 : ry123 (qy120 + 3) = r9 (qy120 + 3) := (congrFun hvy124 _).trans ((uZ_n _ _ (by omega)).trans (rfl))
              have hwy133 : ry123 (qy120 + 4) = vy118 := (congrFun hvy124 _).trans (uZ_s _ _ _)
              have hwy134 : ry123 (qy120 + 6) = r9 (qy120 + 6) := (congrFun hvy124 _).trans ((uZ_n _ _ (by omega)).trans (rfl))
              have hlyy135 : ly ry123 qy120 := by unfold ly; omega
              have hoky1270 := okS.one 0 0 f4 (k := ky119) (by omega) hqy120 (fun j a1 a2 a3 a4 => hfry126 j (by omega)) hlyy135 (by omega) (by omega)
              have hoky127 : okS ry123 p (M) (E) := hoky1270.mono (by omega) (by omega)
              refine z_lv (lv' := [(0, .ref (ad i)), (1, .int (zI ((b : Int)))), (2, .int (zI ((s : Int)))), (3, .int (zI (r (p)))), (4, .int (zI (ll + 1)))]) [2, 3, 4, 5, 0] rfl ?_
              exact ih_lp2 _ (by omega) (ll + 1) ry123 t9 gvy122 rfl hcvy122 (fun j j1 j2 => by rw [hfvy122 _ (by omega)]; exact f3 j j1 j2) hoky127 (fun j a1 => (hfry126 j (by omega)).trans (f5 j a1)) hgy125 h9 (by rw [show ry123 p = r9 (p) from (congrFun hvy124 _).trans ((uZ_n _ _ (by omega)).trans (rfl))]; exact f6) (by omega)
          · refine z_iload C 0 dX10_evens_94 rfl ?_
            refine z_aload_n C 1 dX10_evens_96 rfl ?_
            refine z_get (v := .ref (ad (i + 14))) C (lt_A0 hN rfl) hay5 ((f3 _ (by omega) (by omega)).trans hg) rfl inA_X10 30 (by decide) q_1489 rfl rfl dX10_evens_97 ?_
            refine z_iload C 5 dX10_evens_100 rfl ?_
            refine z_iald C (lt_A (c := 14) hN rfl) hay7 f7 ((ll).toNat) (by omega) (by omega) (by decide) dX10_evens_102 ?_
            have hrfy136 := h9 ((ll).toNat) (by omega)
            refine z_aload_n C 1 dX10_evens_103 rfl ?_
            refine z_get (v := .ref (ad (i + 14))) C (lt_A0 hN rfl) hay5 ((f3 _ (by omega) (by omega)).trans hg) rfl inA_X10 30 (by decide) q_1489 rfl rfl dX10_evens_104 ?_
            refine z_iload C 5 dX10_evens_107 rfl ?_
            refine z_iconst (z := 1) C dX10_evens_109 rfl ?_
            refine z_isub C dX10_evens_110 ?_
            refine z_iald C (lt_A (c := 14) hN rfl) hay7 f7 ((ll - 1).toNat) (by omega) (by omega) (by decide) dX10_evens_111 ?_
            have hrfy137 := h9 ((ll - 1).toNat) (by omega)
            refine z_isub C dX10_evens_112 ?_
            refine z_bipush (z := 8) C dX10_evens_113 (by decide) ?_
            refine z_idiv C dX10_evens_115 (by omega) (by omega) (by omega) ?_
            obtain ⟨xy138, exy138, hxy138⟩ : ∃ x9, ((t9 ((ll).toNat)) - (t9 ((ll - 1).toNat))).tdiv 8 = x9 ∧ (0 ≤ (t9 ((ll).toNat)) - (t9 ((ll - 1).toNat)) → 0 ≤ x9 ∧ 8 * x9 ≤ (t9 ((ll).toNat)) - (t9 ((ll - 1).toNat)) ∧ (t9 ((ll).toNat)) - (t9 ((ll - 1).toNat)) < 8 * x9 + 8) ∧ ((t9 ((ll).toNat)) - (t9 ((ll - 1).toNat)) ≤ 0 → x9 ≤ 0 ∧ (t9 ((ll).toNat)) - (t9 ((ll - 1).toNat)) ≤ 8 * x9 ∧ 8 * x9 < (t9 ((ll).toNat)) - (t9 ((ll - 1).toNat)) + 8) := tdk 8 (by decide)
            rw [exy138]
            refine z_isub C dX10_evens_116 ?_
            refine z_istore (lv' := [(5, .int (zI (((t9 ((ll).toNat)) + xy95) - xy138))), (0, .ref (ad i)), (1, .int (zI ((b : Int)))), (2, .int (zI ((s : Int)))), (3, .int (zI (r (p)))), (4, .int (zI (ll)))]) C dX10_evens_117 (by decide) rfl ?_
            refine z_iload C 5 dX10_evens_119 rfl ?_
            refine z_if_ne (tgt := 138) C dX10_evens_121 (by decide) (by omega) (fun hby139 => ?_) (fun hby139 => ?_)
            · refine z_aload_n C 1 dX10_evens_138 rfl ?_
              refine z_iload_n C 2 dX10_evens_139 rfl ?_
              refine z_iload_n C 3 dX10_evens_140 rfl ?_
              refine z_iload C 5 dX10_evens_141 rfl ?_
              refine z_iconst (z := 4) C dX10_evens_143 rfl ?_
              refine z_iload C 0 dX10_evens_144 rfl ?_
              refine z_iconst (z := 0) C dX10_evens_146 rfl ?_
              refine z_cS (As := [.int (zI (((t9 ((ll).toNat)) + xy95) - xy138)), .int (zI (0))]) (rest := [.int (zI (4)), .int (zI (ll)), .int (zI ((s : Int))), .int (zI ((b : Int))), .ref (ad i)]) C (c_X10_lesser l D A cs tt N ad _ (((t9 ((ll).toNat)) + xy95) - xy138) (by omega) (0) (by omega)) ms_yX10_lesser q_1792 hd_yX10_lesser (by decide) (Nat.le_of_ble_eq_true rfl) (by decide) dX10_evens_147 rfl (kI0 fun vy140 gvy140 hvy140 => ?_)
              obtain ⟨hvy140, rfl⟩ := hvy140
              obtain ⟨ky141, hky141⟩ : ∃ k9 : Nat, (ll) = (k9 : Int) := ⟨((ll) : Int).toNat, by omega⟩
              obtain ⟨qy142, hqy142⟩ : ∃ q9 : Nat, p + 2 + 7 * ky141 = q9 := ⟨_, rfl⟩
              obtain ⟨⟨hKzy143, hIzy143, hWzy143, hDzy143, hTzy143, hnzy143⟩, hmzy143, hdzy143⟩ := okS.layer f4 (k := ky141) (by omega) hqy142
              refine z_cV (As := [.int (zI ((b : Int))), .int (zI ((s : Int))), .int (zI (ll)), .int (zI (4)), .int (zI (vy140))]) (rest := []) (ci := 12) C (c_X10_sets l D A cs tt N ad _ i hN _ ((f3 _ (by omega) (by omega)).trans hg) _ f2 b s p hp (by omega) (by omega) (ll) (4) (qy142 + 4) (by omega) (by omega) (by omega) (vy140)) (lt_A0 hN rfl) hay5 ((f3 _ (by omega) (by omega)).trans hg) rfl rfl mv_yX10_sets q_1908 hd_yX10_sets (by decide) (Nat.le_of_ble_eq_true rfl) (by decide) dX10_evens_150 rfl (kV0 fun gvy144 hvy144 => ?_)
              obtain ⟨hcvy144, hfvy144⟩ := hvy144
              obtain ⟨ry145, hvy146⟩ : ∃ rZ9 : Nat → Int, rZ9 = uZ r9 (qy142 + 4) (vy140) := ⟨_, rfl⟩
              rw [← hvy146] at hcvy144
              refine z_iinc (z := ll + 1) (lv' := [(4, .int (zI (ll + 1))), (5, .int (zI (((t9 ((ll).toNat)) + xy95) - xy138))), (0, .ref (ad i)), (1, .int (zI ((b : Int)))), (2, .int (zI ((s : Int)))), (3, .int (zI (r (p))))]) (j := 5) C dX10_evens_153 rfl rfl (by decide) rfl ?_
              refine z_goto (tgt := 41) C dX10_evens_156 (by decide) ?_
              have hgy147 := (hfvy144 (i + 14) (ne_o (i := i) (c := 14) (d := 1) rfl)).trans f7
              have hfry148 : ∀ j, j ≠ qy142 + 4 → ry145 j = r9 j := fun j n0 => (congrFun hvy146 _).trans ((uZ_n _ _ n0).trans (rfl))
              have hwy150 : ry145 (p) = r9 (p) := (congrFun hvy146 _).trans ((uZ_n _ _ (by omega)).trans (rfl))
              have hwy151 : ry145 (qy142) = r9 (qy142) := (congrFun hvy146 _).trans ((uZ_n _ _ (by omega)).trans (rfl))
              have hwy152 : ry145 (qy142 + 1) = r9 (qy142 + 1) := (congrFun hvy146 _).trans ((uZ_n _ _ (by omega)).trans (rfl))
              have hwy153 : ry145 (qy142 + 2) = r9 (qy142 + 2) := (congrFun hvy146 _).trans ((uZ_n _ _ (by omega)).trans (rfl))
              have hwy154 : ry145 (qy142 + 3) = r9 (qy142 + 3) := (congrFun hvy146 _).trans ((uZ_n _ _ (by omega)).trans (rfl))
              have hwy155 : ry145 (qy142 + 4) = vy140 := (congrFun hvy146 _).trans (uZ_s _ _ _)
              have hwy156 : ry145 (qy142 + 6) = r9 (qy142 + 6) := (congrFun hvy146 _).trans ((uZ_n _ _ (by omega)).trans (rfl))
              have hlyy157 : ly ry145 qy142 := by unfold ly; omega
              have hoky1490 := okS.one 0 0 f4 (k := ky141) (by omega) hqy142 (fun j a1 a2 a3 a4 => hfry148 j (by omega)) hlyy157 (by omega) (by omega)
              have hoky149 : okS ry145 p (M) (E) := hoky1490.mono (by omega) (by omega)
              refine z_lv (lv' := [(0, .ref (ad i)), (1, .int (zI ((b : Int)))), (2, .int (zI ((s : Int)))), (3, .int (zI (r (p)))), (4, .int (zI (ll + 1)))]) [2, 3, 4, 5, 0] rfl ?_
              exact ih_lp2 _ (by omega) (ll + 1) ry145 t9 gvy144 rfl hcvy144 (fun j j1 j2 => by rw [hfvy144 _ (by omega)]; exact f3 j j1 j2) hoky149 (fun j a1 => (hfry148 j (by omega)).trans (f5 j a1)) hgy147 h9 (by rw [show ry145 p = r9 (p) from (congrFun hvy146 _).trans ((uZ_n _ _ (by omega)).trans (rfl))]; exact f6) (by omega)
            · refine z_iload C 0 dX10_evens_124 rfl ?_
              refine z_aload_n C 1 dX10_evens_126 rfl ?_
              refine z_get (v := .ref (ad (i + 14))) C (lt_A0 hN rfl) hay5 ((f3 _ (by omega) (by omega)).trans hg) rfl inA_X10 30 (by decide) q_1489 rfl rfl dX10_evens_127 ?_
              refine z_iconst (z := 0) C dX10_evens_130 rfl ?_
              refine z_iald C (lt_A (c := 14) hN rfl) hay7 f7 (0) (by omega) (by omega) (by decide) dX10_evens_131 ?_
              have hrfy158 := h9 (0) (by omega)
              refine z_bipush (z := 8) C dX10_evens_132 (by decide) ?_
              refine z_idiv C dX10_evens_134 (by omega) (by omega) (by omega) ?_
              obtain ⟨xy159, exy159, hxy159⟩ : ∃ x9, (t9 (0)).tdiv 8 = x9 ∧ (0 ≤ t9 (0) → 0 ≤ x9 ∧ 8 * x9 ≤ t9 (0) ∧ t9 (0) < 8 * x9 + 8) ∧ (t9 (0) ≤ 0 → x9 ≤ 0 ∧ t9 (0) ≤ 8 * x9 ∧ 8 * x9 < t9 (0) + 8) := tdk 8 (by decide)
              rw [exy159]
              refine z_isub C dX10_evens_135 ?_
              refine z_istore (lv' := [(5, .int (zI ((((t9 ((ll).toNat)) + xy95) - xy138) - xy159))), (0, .ref (ad i)), (1, .int (zI ((b : Int)))), (2, .int (zI ((s : Int)))), (3, .int (zI (r (p)))), (4, .int (zI (ll)))]) C dX10_evens_136 (by decide) rfl ?_
              refine z_aload_n C 1 dX10_evens_138 rfl ?_
              refine z_iload_n C 2 dX10_evens_139 rfl ?_
              refine z_iload_n C 3 dX10_evens_140 rfl ?_
              refine z_iload C 5 dX10_evens_141 rfl ?_
              refine z_iconst (z := 4) C dX10_evens_143 rfl ?_
              refine z_iload C 0 dX10_evens_144 rfl ?_
              refine z_iconst (z := 0) C dX10_evens_146 rfl ?_
              refine z_cS (As := [.int (zI ((((t9 ((ll).toNat)) + xy95) - xy138) - xy159)), .int (zI (0))]) (rest := [.int (zI (4)), .int (zI (ll)), .int (zI ((s : Int))), .int (zI ((b : Int))), .ref (ad i)]) C (c_X10_lesser l D A cs tt N ad _ ((((t9 ((ll).toNat)) + xy95) - xy138) - xy159) (by omega) (0) (by omega)) ms_yX10_lesser q_1792 hd_yX10_lesser (by decide) (Nat.le_of_ble_eq_true rfl) (by decide) dX10_evens_147 rfl (kI0 fun vy160 gvy160 hvy160 => ?_)
              obtain ⟨hvy160, rfl⟩ := hvy160
              obtain ⟨ky161, hky161⟩ : ∃ k9 : Nat, (ll) = (k9 : Int) := ⟨((ll) : Int).toNat, by omega⟩
              obtain ⟨qy162, hqy162⟩ : ∃ q9 : Nat, p + 2 + 7 * ky161 = q9 := ⟨_, rfl⟩
              obtain ⟨⟨hKzy163, hIzy163, hWzy163, hDzy163, hTzy163, hnzy163⟩, hmzy163, hdzy163⟩ := okS.layer f4 (k := ky161) (by omega) hqy162
              refine z_cV (As := [.int (zI ((b : Int))), .int (zI ((s : Int))), .int (zI (ll)), .int (zI (4)), .int (zI (vy160))]) (rest := []) (ci := 12) C (c_X10_sets l D A cs tt N ad _ i hN _ ((f3 _ (by omega) (by omega)).trans hg) _ f2 b s p hp (by omega) (by omega) (ll) (4) (qy162 + 4) (by omega) (by omega) (by omega) (vy160)) (lt_A0 hN rfl) hay5 ((f3 _ (by omega) (by omega)).trans hg) rfl rfl mv_yX10_sets q_1908 hd_yX10_sets (by decide) (Nat.le_of_ble_eq_true rfl) (by decide) dX10_evens_150 rfl (kV0 fun gvy164 hvy164 => ?_)
              obtain ⟨hcvy164, hfvy164⟩ := hvy164
              obtain ⟨ry165, hvy166⟩ : ∃ rZ9 : Nat → Int, rZ9 = uZ r9 (qy162 + 4) (vy160) := ⟨_, rfl⟩
              rw [← hvy166] at hcvy164
              refine z_iinc (z := ll + 1) (lv' := [(4, .int (zI (ll + 1))), (5, .int (zI ((((t9 ((ll).toNat)) + xy95) - xy138) - xy159))), (0, .ref (ad i)), (1, .int (zI ((b : Int)))), (2, .int (zI ((s : Int)))), (3, .int (zI (r (p))))]) (j := 5) C dX10_evens_153 rfl rfl (by decide) rfl ?_
              refine z_goto (tgt := 41) C dX10_evens_156 (by decide) ?_
              have hgy167 := (hfvy164 (i + 14) (ne_o (i := i) (c := 14) (d := 1) rfl)).trans f7
              have hfry168 : ∀ j, j ≠ qy162 + 4 → ry165 j = r9 j := fun j n0 => (congrFun hvy166 _).trans ((uZ_n _ _ n0).trans (rfl))
              have hwy170 : ry165 (p) = r9 (p) := (congrFun hvy166 _).trans ((uZ_n _ _ (by omega)).trans (rfl))
              have hwy171 : ry165 (qy162) = r9 (qy162) := (congrFun hvy166 _).trans ((uZ_n _ _ (by omega)).trans (rfl))
              have hwy172 : ry165 (qy162 + 1) = r9 (qy162 + 1) := (congrFun hvy166 _).trans ((uZ_n _ _ (by omega)).trans (rfl))
              have hwy173 : ry165 (qy162 + 2) = r9 (qy162 + 2) := (congrFun hvy166 _).trans ((uZ_n _ _ (by omega)).trans (rfl))
              have hwy174 : ry165 (qy162 + 3) = r9 (qy162 + 3) := (congrFun hvy166 _).trans ((uZ_n _ _ (by omega)).trans (rfl))
              have hwy175 : ry165 (qy162 + 4) = vy160 := (congrFun hvy166 _).trans (uZ_s _ _ _)
              have hwy176 : ry165 (qy162 + 6) = r9 (qy162 + 6) := (congrFun hvy166 _).trans ((uZ_n _ _ (by omega)).trans (rfl))
              have hlyy177 : ly ry165 qy162 := by unfold ly; omega
              have hoky1690 := okS.one 0 0 f4 (k := ky161) (by omega) hqy162 (fun j a1 a2 a3 a4 => hfry168 j (by omega)) hlyy177 (by omega) (by omega)
              have hoky169 : okS ry165 p (M) (E) := hoky1690.mono (by omega) (by omega)
              refine z_lv (lv' := [(0, .ref (ad i)), (1, .int (zI ((b : Int)))), (2, .int (zI ((s : Int)))), (3, .int (zI (r (p)))), (4, .int (zI (ll + 1)))]) [2, 3, 4, 5, 0] rfl ?_
              exact ih_lp2 _ (by omega) (ll + 1) ry165 t9 gvy164 rfl hcvy164 (fun j j1 j2 => by rw [hfvy164 _ (by omega)]; exact f3 j j1 j2) hoky169 (fun j a1 => (hfry168 j (by omega)).trans (f5 j a1)) hgy167 h9 (by rw [show ry165 p = r9 (p) from (congrFun hvy166 _).trans ((uZ_n _ _ (by omega)).trans (rfl))]; exact f6) (by omega)
  have lp1 : ∀ (n9 : Nat) (ll : Int) (t9 : Nat → Int) (g1 : Nat → va_E), (13 - ll).toNat = n9 → (g1 (i + 14) = iA cs 14 t9) → (∀ j, j ≠ i + 14 → g1 j = g j) → (∀ k, k < ll.toNat → -300 ≤ t9 k ∧ t9 k ≤ 0) → (0 ≤ ll ∧ ll ≤ r p) → zV pZ l eZ ({ frames := 3, cells := 0, slots := 0, locals := 180 } : Room) sZ mZ ([.ref (ad i), .int (zI ((b : Int))), .int (zI ((s : Int)))] : List Value).toArray below meth cZ (MQ below (zPost D A (rV0 N ad fun g' => (∃ r' : Nat → Int, g' (i + 1) = iA cs 29200 r' ∧ okS r' p (M) (E) ∧ (∀ j, j < p ∨ p + 86 ≤ j → r' j = r j)) ∧ (∃ t' : Nat → Int, g' (i + 14) = iA cs 14 t') ∧ ∀ j, j ≠ i + 1 → j ≠ i + 14 → g' j = g j)) ([.ref (ad i), .int (zI ((b : Int))), .int (zI ((s : Int)))] : List Value).toArray sZ ({ frames := 3, cells := 0, slots := 0, locals := 180 } : Room).cells ({ frames := 3, cells := 0, slots := 0, locals := 180 } : Room).slots A) D A 6 (N) ad g1 (0) (0) 10 [(0, .ref (ad i)), (1, .int (zI ((b : Int)))), (2, .int (zI ((s : Int)))), (3, .int (zI (r (p)))), (4, .int (zI (ll)))] [] := by
    intro n9
    induction n9 using Nat.strongRecOn with
    | ind n9 ih_lp1 =>
      intro ll t9 g1 hm9 f2 f3 h9 hv
      have hay178 : zAt ad (i) (ad i) := rfl
      have hay179 : zAt ad (i + 1) (ad (i + 1)) := rfl
      have hay180 : zAt ad (i + 14) (ad (i + 14)) := rfl
      refine z_iload C 4 dX10_evens_10 rfl ?_
      refine z_iload_n C 3 dX10_evens_12 rfl ?_
      refine z_icmp_ge (tgt := 38) C dX10_evens_13 (by decide) (by omega) (by omega) (fun hby181 => ?_) (fun hby181 => ?_)
      · refine z_iconst (z := 0) C dX10_evens_38 rfl ?_
        refine z_istore (lv' := [(4, .int (zI (0))), (0, .ref (ad i)), (1, .int (zI ((b : Int)))), (2, .int (zI ((s : Int)))), (3, .int (zI (r (p))))]) C dX10_evens_39 (by decide) rfl ?_
        refine z_lv (lv' := [(0, .ref (ad i)), (1, .int (zI ((b : Int)))), (2, .int (zI ((s : Int)))), (3, .int (zI (r (p)))), (4, .int (zI (0)))]) [1, 2, 3, 4, 0] rfl ?_
        exact lp2 _ (0) r t9 g1 rfl ((f3 _ (by omega)).trans ha1) (fun j j1 j2 => f3 j j2) ho (fun j _ => rfl) f2 (fun k hk => h9 k (by omega)) rfl (by omega)
      · refine z_aload_n C 0 dX10_evens_16 rfl ?_
        refine z_get (v := .ref (ad (i + 14))) C (lt_A0 hN rfl) hay178 ((f3 _ (by omega)).trans hg) rfl inA_X10 30 (by decide) q_1489 rfl rfl dX10_evens_17 ?_
        refine z_iload C 4 dX10_evens_20 rfl ?_
        refine z_aload_n C 0 dX10_evens_22 rfl ?_
        refine z_iload_n C 1 dX10_evens_23 rfl ?_
        refine z_iload_n C 2 dX10_evens_24 rfl ?_
        refine z_iload C 4 dX10_evens_25 rfl ?_
        refine z_iconst (z := 4) C dX10_evens_27 rfl ?_
        obtain ⟨ky182, hky182⟩ : ∃ k9 : Nat, (ll) = (k9 : Int) := ⟨((ll) : Int).toNat, by omega⟩
        obtain ⟨qy183, hqy183⟩ : ∃ q9 : Nat, p + 2 + 7 * ky182 = q9 := ⟨_, rfl⟩
        obtain ⟨⟨hKzy184, hIzy184, hWzy184, hDzy184, hTzy184, hnzy184⟩, hmzy184, hdzy184⟩ := okS.layer ho (k := ky182) (by omega) hqy183
        refine z_cV (As := [.int (zI ((b : Int))), .int (zI ((s : Int))), .int (zI (ll)), .int (zI (4))]) (rest := [.int (zI (ll)), .ref (ad (i + 14))]) (ci := 12) C (c_X10_of l D A cs tt N ad _ i hN _ ((f3 _ (by omega)).trans hg) _ ((f3 _ (by omega)).trans ha1) b s p hp (by omega) (by omega) (ll) (4) (qy183 + 4) (by omega) (by omega) (by omega)) (lt_A0 hN rfl) hay178 ((f3 _ (by omega)).trans hg) rfl rfl mv_yX10_of q_1749 hd_yX10_of (by decide) (Nat.le_of_ble_eq_true rfl) (by decide) dX10_evens_28 rfl (kI0 fun vy185 gvy185 hvy185 => ?_)
        obtain ⟨rfl, rfl⟩ := hvy185
        refine z_iast C (lt_A (c := 14) hN rfl) hay180 f2 ((ll).toNat) (by omega) (by omega) (by decide) dX10_evens_31 (fun gy186 egy187 => ?_)
        have hgy188 := up_s egy187
        refine z_iinc (z := ll + 1) (lv' := [(4, .int (zI (ll + 1))), (0, .ref (ad i)), (1, .int (zI ((b : Int)))), (2, .int (zI ((s : Int)))), (3, .int (zI (r (p))))]) (j := 4) C dX10_evens_32 rfl rfl (by decide) rfl ?_
        refine z_goto (tgt := 10) C dX10_evens_35 (by decide) ?_
        refine z_lv (lv' := [(0, .ref (ad i)), (1, .int (zI ((b : Int)))), (2, .int (zI ((s : Int)))), (3, .int (zI (r (p)))), (4, .int (zI (ll + 1)))]) [1, 2, 3, 4, 0] rfl ?_
        exact ih_lp1 _ (by omega) (ll + 1) _ gy186 rfl hgy188 (fun j j1 => by rw [egy187, va_up_ne _ _ (by omega)]; exact f3 j j1) (by rw [show (ll + 1).toNat = ll.toNat + 1 by omega]; exact uZ_all h9 (by omega) rfl) (by omega)
  refine z_aload_n C 0 dX10_evens_0 rfl ?_
  refine z_iload_n C 1 dX10_evens_1 rfl ?_
  refine z_iload_n C 2 dX10_evens_2 rfl ?_
  refine z_cV (As := [.int (zI ((b : Int))), .int (zI ((s : Int)))]) (rest := []) (ci := 12) C (c_X10_many l D A cs tt N ad _ i hN _ hg _ ha1 b s p hp (by omega) (by omega)) (lt_A0 hN rfl) hay1 hg rfl rfl mv_yX10_many q_1733 hd_yX10_many (by decide) (Nat.le_of_ble_eq_true rfl) (by decide) dX10_evens_3 rfl (kI0 fun vy189 gvy189 hvy189 => ?_)
  obtain ⟨rfl, rfl⟩ := hvy189
  refine z_istore_n (lv' := [(3, .int (zI (r (p)))), (0, .ref (ad i)), (1, .int (zI ((b : Int)))), (2, .int (zI ((s : Int))))]) C dX10_evens_6 rfl (by decide) rfl ?_
  refine z_iconst (z := 0) C dX10_evens_7 rfl ?_
  refine z_istore (lv' := [(4, .int (zI (0))), (3, .int (zI (r (p)))), (0, .ref (ad i)), (1, .int (zI ((b : Int)))), (2, .int (zI ((s : Int))))]) C dX10_evens_8 (by decide) rfl ?_
  refine z_lv (lv' := [(0, .ref (ad i)), (1, .int (zI ((b : Int)))), (2, .int (zI ((s : Int)))), (3, .int (zI (r (p)))), (4, .int (zI (0)))]) [2, 3, 4, 1, 0] rfl ?_
  exact lp1 _ (0) _ g rfl ha14 (fun j j1 => by rfl) (fun k hk => absurd hk (by omega)) (by omega)

set_option maxRecDepth 100000 in
set_option maxHeartbeats 4000000 in
theorem c_X10_ages (l : Launch) (D : va_G) (A : Nat → Prop) (cs : Nat → ClassId) (tt : Nat) (N : Nat) (ad : Nat → Nat) (g : Nat → va_E) (i : Nat) (hN : i + 30 ≤ N) (F : Nat → Int) (hg : g i = mC ad i F) (r : Nat → Int) (ha1 : g (i + 1) = iA cs 29200 r) (ki : Nat → Int) (ha15 : g (i + 15) = iA cs 12 ki) (b s p : Nat) (hp : b + 6 + 86 * s = p) (hb : b + 350 ≤ 29200) (hs : s < 4) (M E : Int) (hM : M ≤ 138500) (hE : E ≤ 400000000) (ho : okS r p M E) (z1 : Int) (hz1 : -2147483648 ≤ z1 ∧ z1 ≤ 2147483647) : zM l yX10_ages cX10_ages 5 none ({ frames := 5, cells := 0, slots := 0, locals := 300 } : Room) D A cs tt N ad g [.ref (ad i), .int (zI ((b : Int))), .int (zI ((s : Int))), .int (zI (z1))] (rV0 N ad fun g' => (∃ r' : Nat → Int, g' (i + 1) = iA cs 29200 r' ∧ okS r' p (M) (E) ∧ (∀ j, j < p ∨ p + 86 ≤ j → r' j = r j)) ∧ (∃ t' : Nat → Int, g' (i + 15) = iA cs 12 t') ∧ ∀ j, j ≠ i + 1 → j ≠ i + 15 → g' j = g j) := by
  have hay1 : zAt ad (i) (ad i) := rfl
  have hay2 : zAt ad (i + 1) (ad (i + 1)) := rfl
  have hay3 : zAt ad (i + 15) (ad (i + 15)) := rfl
  have hmky4 := ho.1
  refine z_of (by decide) (Nat.le_of_ble_eq_true rfl) ?_
  intro pZ eZ sZ mZ below meth cZ C hr hlk hnm
  refine z_lv (lv' := [(0, .ref (ad i)), (1, .int (zI ((b : Int)))), (2, .int (zI ((s : Int)))), (3, .int (zI (z1)))]) [0, 1, 2, 3] rfl ?_
  have hq := ho.q hE
  have lp2 : ∀ (n9 : Nat) (ll : Int) (r9 : Nat → Int) (t9 : Nat → Int) (g1 : Nat → va_E), (13 - ll).toNat = n9 → (g1 (i + 1) = iA cs 29200 r9) → (∀ j, j ≠ i + 1 → j ≠ i + 15 → g1 j = g j) → (okS r9 p M E) → (∀ j, j < p ∨ p + 86 ≤ j → r9 j = r j) → (g1 (i + 15) = iA cs 12 t9) → (∀ k, k < (r p).toNat → 0 ≤ t9 k ∧ t9 k ≤ 4) → (r9 p = r p) → (0 ≤ ll ∧ ll ≤ r p) → zV pZ l eZ ({ frames := 5, cells := 0, slots := 0, locals := 300 } : Room) sZ mZ ([.ref (ad i), .int (zI ((b : Int))), .int (zI ((s : Int))), .int (zI (z1))] : List Value).toArray below meth cZ (MQ below (zPost D A (rV0 N ad fun g' => (∃ r' : Nat → Int, g' (i + 1) = iA cs 29200 r' ∧ okS r' p (M) (E) ∧ (∀ j, j < p ∨ p + 86 ≤ j → r' j = r j)) ∧ (∃ t' : Nat → Int, g' (i + 15) = iA cs 12 t') ∧ ∀ j, j ≠ i + 1 → j ≠ i + 15 → g' j = g j)) ([.ref (ad i), .int (zI ((b : Int))), .int (zI ((s : Int))), .int (zI (z1))] : List Value).toArray sZ ({ frames := 5, cells := 0, slots := 0, locals := 300 } : Room).cells ({ frames := 5, cells := 0, slots := 0, locals := 300 } : Room).slots A) D A 5 (N) ad g1 (0) (0) 39 [(0, .ref (ad i)), (1, .int (zI ((b : Int)))), (2, .int (zI ((s : Int)))), (4, .int (zI (ll)))] [] := by
    intro n9
    induction n9 using Nat.strongRecOn with
    | ind n9 ih_lp2 =>
      intro ll r9 t9 g1 hm9 f2 f3 f4 f5 f7 h9 f6 hv
      have hay5 : zAt ad (i) (ad i) := rfl
      have hay6 : zAt ad (i + 1) (ad (i + 1)) := rfl
      have hm9 := f4.1
      have hay7 : zAt ad (i + 15) (ad (i + 15)) := rfl
      refine z_iload C 3 dX10_ages_39 rfl ?_
      refine z_aload_n C 0 dX10_ages_41 rfl ?_
      refine z_iload_n C 1 dX10_ages_42 rfl ?_
      refine z_iload_n C 2 dX10_ages_43 rfl ?_
      refine z_cV (As := [.int (zI ((b : Int))), .int (zI ((s : Int)))]) (rest := [.int (zI (ll))]) (ci := 12) C (c_X10_many l D A cs tt N ad _ i hN _ ((f3 _ (by omega) (by omega)).trans hg) _ f2 b s p hp (by omega) (by omega)) (lt_A0 hN rfl) hay5 ((f3 _ (by omega) (by omega)).trans hg) rfl rfl mv_yX10_many q_1733 hd_yX10_many (by decide) (Nat.le_of_ble_eq_true rfl) (by decide) dX10_ages_44 rfl (kI0 fun vy8 gvy8 hvy8 => ?_)
      obtain ⟨rfl, rfl⟩ := hvy8
      refine z_icmp_ge (tgt := 92) C dX10_ages_47 (by decide) (by omega) (by omega) (fun hby9 => ?_) (fun hby9 => ?_)
      · exact z_vret C hr hlk dX10_ages_92 (by decide) (by decide) ⟨rfl, rfl, rfl, ⟨_, f2, f4, f5⟩, ⟨_, f7⟩, fun j j1 j2 => by exact f3 j j1 j2⟩
      · refine z_aload_n C 0 dX10_ages_50 rfl ?_
        refine z_iload_n C 1 dX10_ages_51 rfl ?_
        refine z_iload_n C 2 dX10_ages_52 rfl ?_
        refine z_iload C 3 dX10_ages_53 rfl ?_
        refine z_iconst (z := 0) C dX10_ages_55 rfl ?_
        refine z_aload_n C 0 dX10_ages_56 rfl ?_
        refine z_get (v := .ref (ad (i + 15))) C (lt_A0 hN rfl) hay5 ((f3 _ (by omega) (by omega)).trans hg) rfl inA_X10 31 (by decide) q_1490 rfl rfl dX10_ages_57 ?_
        refine z_iload C 3 dX10_ages_60 rfl ?_
        refine z_iald C (lt_A (c := 15) hN rfl) hay7 f7 ((ll).toNat) (by omega) (by omega) (by decide) dX10_ages_62 ?_
        have hrfy10 := h9 ((ll).toNat) (by omega)
        obtain ⟨ky11, hky11⟩ : ∃ k9 : Nat, (ll) = (k9 : Int) := ⟨((ll) : Int).toNat, by omega⟩
        obtain ⟨qy12, hqy12⟩ : ∃ q9 : Nat, p + 2 + 7 * ky11 = q9 := ⟨_, rfl⟩
        obtain ⟨⟨hKzy13, hIzy13, hWzy13, hDzy13, hTzy13, hnzy13⟩, hmzy13, hdzy13⟩ := okS.layer f4 (k := ky11) (by omega) hqy12
        refine z_cV (As := [.int (zI ((b : Int))), .int (zI ((s : Int))), .int (zI (ll)), .int (zI (0)), .int (zI (t9 ((ll).toNat)))]) (rest := []) (ci := 12) C (c_X10_sets l D A cs tt N ad _ i hN _ ((f3 _ (by omega) (by omega)).trans hg) _ f2 b s p hp (by omega) (by omega) (ll) (0) (qy12) (by omega) (by omega) (by omega) (t9 ((ll).toNat))) (lt_A0 hN rfl) hay5 ((f3 _ (by omega) (by omega)).trans hg) rfl rfl mv_yX10_sets q_1908 hd_yX10_sets (by decide) (Nat.le_of_ble_eq_true rfl) (by decide) dX10_ages_63 rfl (kV0 fun gvy14 hvy14 => ?_)
        obtain ⟨hcvy14, hfvy14⟩ := hvy14
        obtain ⟨ry15, hvy16⟩ : ∃ rZ9 : Nat → Int, rZ9 = uZ r9 (qy12) (t9 ((ll).toNat)) := ⟨_, rfl⟩
        rw [← hvy16] at hcvy14
        refine z_aload_n C 0 dX10_ages_66 rfl ?_
        refine z_iload_n C 1 dX10_ages_67 rfl ?_
        refine z_iload_n C 2 dX10_ages_68 rfl ?_
        refine z_iload C 3 dX10_ages_69 rfl ?_
        refine z_iconst (z := 5) C dX10_ages_71 rfl ?_
        refine z_aload_n C 0 dX10_ages_72 rfl ?_
        refine z_iload_n C 1 dX10_ages_73 rfl ?_
        refine z_iload_n C 2 dX10_ages_74 rfl ?_
        refine z_iload C 3 dX10_ages_75 rfl ?_
        refine z_iconst (z := 5) C dX10_ages_77 rfl ?_
        have hgy17 := (hfvy14 (i) (ne_o (i := i) (c := 0) (d := 1) rfl)).trans ((f3 _ (by omega) (by omega)).trans hg)
        refine z_cV (As := [.int (zI ((b : Int))), .int (zI ((s : Int))), .int (zI (ll)), .int (zI (5))]) (rest := [.int (zI (5)), .int (zI (ll)), .int (zI ((s : Int))), .int (zI ((b : Int))), .ref (ad i)]) (ci := 12) C (c_X10_of l D A cs tt N ad _ i hN _ hgy17 _ hcvy14 b s p hp (by omega) (by omega) (ll) (5) (qy12 + 5) (by omega) (by omega) (by omega)) (lt_A0 hN rfl) hay5 hgy17 rfl rfl mv_yX10_of q_1749 hd_yX10_of (by decide) (Nat.le_of_ble_eq_true rfl) (by decide) dX10_ages_78 rfl (kI0 fun vy18 gvy18 hvy18 => ?_)
        obtain ⟨rfl, rfl⟩ := hvy18
        rw [show ry15 (qy12 + 5) = r9 (qy12 + 5) from (congrFun hvy16 _).trans ((uZ_n _ _ (by omega)).trans (rfl))]
        refine z_iconst (z := 1) C dX10_ages_81 rfl ?_
        refine z_iadd C dX10_ages_82 ?_
        refine z_cV (As := [.int (zI ((b : Int))), .int (zI ((s : Int))), .int (zI (ll)), .int (zI (5)), .int (zI ((r9 (qy12 + 5)) + 1))]) (rest := []) (ci := 12) C (c_X10_sets l D A cs tt N ad _ i hN _ hgy17 _ hcvy14 b s p hp (by omega) (by omega) (ll) (5) (qy12 + 5) (by omega) (by omega) (by omega) ((r9 (qy12 + 5)) + 1)) (lt_A0 hN rfl) hay5 hgy17 rfl rfl mv_yX10_sets q_1908 hd_yX10_sets (by decide) (Nat.le_of_ble_eq_true rfl) (by decide) dX10_ages_83 rfl (kV0 fun gvy19 hvy19 => ?_)
        obtain ⟨hcvy19, hfvy19⟩ := hvy19
        obtain ⟨ry20, hvy21⟩ : ∃ rZ9 : Nat → Int, rZ9 = uZ ry15 (qy12 + 5) ((r9 (qy12 + 5)) + 1) := ⟨_, rfl⟩
        rw [← hvy21] at hcvy19
        refine z_iinc (z := ll + 1) (lv' := [(4, .int (zI (ll + 1))), (0, .ref (ad i)), (1, .int (zI ((b : Int)))), (2, .int (zI ((s : Int))))]) (j := 3) C dX10_ages_86 rfl rfl (by decide) rfl ?_
        refine z_goto (tgt := 39) C dX10_ages_89 (by decide) ?_
        have hgy22 := (hfvy14 (i + 15) (ne_o (i := i) (c := 15) (d := 1) rfl)).trans f7
        have hgy23 := (hfvy19 (i + 15) (ne_o (i := i) (c := 15) (d := 1) rfl)).trans hgy22
        have hfry24 : ∀ j, j ≠ qy12 + 5 → j ≠ qy12 → ry20 j = r9 j := fun j n0 n1 => (congrFun hvy21 _).trans ((uZ_n _ _ n0).trans ((congrFun hvy16 _).trans ((uZ_n _ _ n1).trans (rfl))))
        have hwy26 : ry20 (p) = r9 (p) := (congrFun hvy21 _).trans ((uZ_n _ _ (by omega)).trans ((congrFun hvy16 _).trans ((uZ_n _ _ (by omega)).trans (rfl))))
        have hwy27 : ry20 (qy12) = t9 ((ll).toNat) := (congrFun hvy21 _).trans ((uZ_n _ _ (by omega)).trans ((congrFun hvy16 _).trans (uZ_s _ _ _)))
        have hwy28 : ry20 (qy12 + 1) = r9 (qy12 + 1) := (congrFun hvy21 _).trans ((uZ_n _ _ (by omega)).trans ((congrFun hvy16 _).trans ((uZ_n _ _ (by omega)).trans (rfl))))
        have hwy29 : ry20 (qy12 + 2) = r9 (qy12 + 2) := (congrFun hvy21 _).trans ((uZ_n _ _ (by omega)).trans ((congrFun hvy16 _).trans ((uZ_n _ _ (by omega)).trans (rfl))))
        have hwy30 : ry20 (qy12 + 3) = r9 (qy12 + 3) := (congrFun hvy21 _).trans ((uZ_n _ _ (by omega)).trans ((congrFun hvy16 _).trans ((uZ_n _ _ (by omega)).trans (rfl))))
        have hwy31 : ry20 (qy12 + 4) = r9 (qy12 + 4) := (congrFun hvy21 _).trans ((uZ_n _ _ (by omega)).trans ((congrFun hvy16 _).trans ((uZ_n _ _ (by omega)).trans (rfl))))
        have hwy32 : ry20 (qy12 + 6) = r9 (qy12 + 6) := (congrFun hvy21 _).trans ((uZ_n _ _ (by omega)).trans ((congrFun hvy16 _).trans ((uZ_n _ _ (by omega)).trans (rfl))))
        have hlyy33 : ly ry20 qy12 := by unfold ly; omega
        have hoky250 := okS.one 0 0 f4 (k := ky11) (by omega) hqy12 (fun j a1 a2 a3 a4 => hfry24 j (by omega) (by omega)) hlyy33 (by omega) (by omega)
        have hoky25 : okS ry20 p (M) (E) := hoky250.mono (by omega) (by omega)
        refine z_lv (lv' := [(0, .ref (ad i)), (1, .int (zI ((b : Int)))), (2, .int (zI ((s : Int)))), (4, .int (zI (ll + 1)))]) [1, 2, 3, 0] rfl ?_
        exact ih_lp2 _ (by omega) (ll + 1) ry20 t9 gvy19 rfl hcvy19 (fun j j1 j2 => by rw [hfvy19 _ (by omega)]; rw [hfvy14 _ (by omega)]; exact f3 j j1 j2) hoky25 (fun j a1 => (hfry24 j (by omega) (by omega)).trans (f5 j a1)) hgy23 h9 (by rw [show ry20 p = r9 (p) from (congrFun hvy21 _).trans ((uZ_n _ _ (by omega)).trans ((congrFun hvy16 _).trans ((uZ_n _ _ (by omega)).trans (rfl))))]; exact f6) (by omega)
  have lp1 : ∀ (n9 : Nat) (ll : Int) (t9 : Nat → Int) (g1 : Nat → va_E), (13 - ll).toNat = n9 → (g1 (i + 15) = iA cs 12 t9) → (∀ j, j ≠ i + 15 → g1 j = g j) → (∀ k, k < ll.toNat → 0 ≤ t9 k ∧ t9 k ≤ 4) → (0 ≤ ll ∧ ll ≤ r p) → zV pZ l eZ ({ frames := 5, cells := 0, slots := 0, locals := 300 } : Room) sZ mZ ([.ref (ad i), .int (zI ((b : Int))), .int (zI ((s : Int))), .int (zI (z1))] : List Value).toArray below meth cZ (MQ below (zPost D A (rV0 N ad fun g' => (∃ r' : Nat → Int, g' (i + 1) = iA cs 29200 r' ∧ okS r' p (M) (E) ∧ (∀ j, j < p ∨ p + 86 ≤ j → r' j = r j)) ∧ (∃ t' : Nat → Int, g' (i + 15) = iA cs 12 t') ∧ ∀ j, j ≠ i + 1 → j ≠ i + 15 → g' j = g j)) ([.ref (ad i), .int (zI ((b : Int))), .int (zI ((s : Int))), .int (zI (z1))] : List Value).toArray sZ ({ frames := 5, cells := 0, slots := 0, locals := 300 } : Room).cells ({ frames := 5, cells := 0, slots := 0, locals := 300 } : Room).slots A) D A 5 (N) ad g1 (0) (0) 3 [(0, .ref (ad i)), (1, .int (zI ((b : Int)))), (2, .int (zI ((s : Int)))), (3, .int (zI (z1))), (4, .int (zI (ll)))] [] := by
    intro n9
    induction n9 using Nat.strongRecOn with
    | ind n9 ih_lp1 =>
      intro ll t9 g1 hm9 f2 f3 h9 hv
      have hay34 : zAt ad (i) (ad i) := rfl
      have hay35 : zAt ad (i + 1) (ad (i + 1)) := rfl
      have hay36 : zAt ad (i + 15) (ad (i + 15)) := rfl
      refine z_iload C 4 dX10_ages_3 rfl ?_
      refine z_aload_n C 0 dX10_ages_5 rfl ?_
      refine z_iload_n C 1 dX10_ages_6 rfl ?_
      refine z_iload_n C 2 dX10_ages_7 rfl ?_
      refine z_cV (As := [.int (zI ((b : Int))), .int (zI ((s : Int)))]) (rest := [.int (zI (ll))]) (ci := 12) C (c_X10_many l D A cs tt N ad _ i hN _ ((f3 _ (by omega)).trans hg) _ ((f3 _ (by omega)).trans ha1) b s p hp (by omega) (by omega)) (lt_A0 hN rfl) hay34 ((f3 _ (by omega)).trans hg) rfl rfl mv_yX10_many q_1733 hd_yX10_many (by decide) (Nat.le_of_ble_eq_true rfl) (by decide) dX10_ages_8 rfl (kI0 fun vy37 gvy37 hvy37 => ?_)
      obtain ⟨rfl, rfl⟩ := hvy37
      refine z_icmp_ge (tgt := 36) C dX10_ages_11 (by decide) (by omega) (by omega) (fun hby38 => ?_) (fun hby38 => ?_)
      · refine z_iconst (z := 0) C dX10_ages_36 rfl ?_
        refine z_istore (lv' := [(4, .int (zI (0))), (0, .ref (ad i)), (1, .int (zI ((b : Int)))), (2, .int (zI ((s : Int)))), (3, .int (zI (z1)))]) C dX10_ages_37 (by decide) rfl ?_
        refine z_lv (lv' := [(0, .ref (ad i)), (1, .int (zI ((b : Int)))), (2, .int (zI ((s : Int)))), (4, .int (zI (0)))]) [1, 2, 3, 0] rfl ?_
        exact lp2 _ (0) r t9 g1 rfl ((f3 _ (by omega)).trans ha1) (fun j j1 j2 => f3 j j2) ho (fun j _ => rfl) f2 (fun k hk => h9 k (by omega)) rfl (by omega)
      · refine z_aload_n C 0 dX10_ages_14 rfl ?_
        refine z_get (v := .ref (ad (i + 15))) C (lt_A0 hN rfl) hay34 ((f3 _ (by omega)).trans hg) rfl inA_X10 31 (by decide) q_1490 rfl rfl dX10_ages_15 ?_
        refine z_iload C 4 dX10_ages_18 rfl ?_
        refine z_aload_n C 0 dX10_ages_20 rfl ?_
        refine z_iload_n C 1 dX10_ages_21 rfl ?_
        refine z_iload_n C 2 dX10_ages_22 rfl ?_
        refine z_iload C 4 dX10_ages_23 rfl ?_
        refine z_iload_n C 3 dX10_ages_25 rfl ?_
        refine z_cV (As := [.int (zI ((b : Int))), .int (zI ((s : Int))), .int (zI (ll)), .int (zI (z1))]) (rest := [.int (zI (ll)), .ref (ad (i + 15))]) (ci := 12) C (c_X10_kindThen l D A cs tt N ad _ i hN _ ((f3 _ (by omega)).trans hg) _ ((f3 _ (by omega)).trans ha1) b s p hp (by omega) (by omega) hq (ll) (by omega) (z1) (by omega)) (lt_A0 hN rfl) hay34 ((f3 _ (by omega)).trans hg) rfl rfl mv_yX10_kindThen q_1944 hd_yX10_kindThen (by decide) (Nat.le_of_ble_eq_true rfl) (by decide) dX10_ages_26 rfl (kI0 fun vy39 gvy39 hvy39 => ?_)
        obtain ⟨hvy39, rfl⟩ := hvy39
        refine z_iast C (lt_A (c := 15) hN rfl) hay36 f2 ((ll).toNat) (by omega) (by omega) (by decide) dX10_ages_29 (fun gy40 egy41 => ?_)
        have hgy42 := up_s egy41
        refine z_iinc (z := ll + 1) (lv' := [(4, .int (zI (ll + 1))), (0, .ref (ad i)), (1, .int (zI ((b : Int)))), (2, .int (zI ((s : Int)))), (3, .int (zI (z1)))]) (j := 4) C dX10_ages_30 rfl rfl (by decide) rfl ?_
        refine z_goto (tgt := 3) C dX10_ages_33 (by decide) ?_
        refine z_lv (lv' := [(0, .ref (ad i)), (1, .int (zI ((b : Int)))), (2, .int (zI ((s : Int)))), (3, .int (zI (z1))), (4, .int (zI (ll + 1)))]) [1, 2, 3, 4, 0] rfl ?_
        exact ih_lp1 _ (by omega) (ll + 1) _ gy40 rfl hgy42 (fun j j1 => by rw [egy41, va_up_ne _ _ (by omega)]; exact f3 j j1) (by rw [show (ll + 1).toNat = ll.toNat + 1 by omega]; exact uZ_all h9 (by omega) rfl) (by omega)
  refine z_iconst (z := 0) C dX10_ages_0 rfl ?_
  refine z_istore (lv' := [(4, .int (zI (0))), (0, .ref (ad i)), (1, .int (zI ((b : Int)))), (2, .int (zI ((s : Int)))), (3, .int (zI (z1)))]) C dX10_ages_1 (by decide) rfl ?_
  refine z_lv (lv' := [(0, .ref (ad i)), (1, .int (zI ((b : Int)))), (2, .int (zI ((s : Int)))), (3, .int (zI (z1))), (4, .int (zI (0)))]) [1, 2, 3, 4, 0] rfl ?_
  exact lp1 _ (0) _ g rfl ha15 (fun j j1 => by rfl) (fun k hk => absurd hk (by omega)) (by omega)
end
section
-- 78.words.lean.txt
-- words of refh
theorem q_1472 : (Jvm.Cond.fieldLink "SnowRecorderModel" (198 : Nat) "SnowRecorderModel" "slopes" "I") ∈ AW := AW_m7 32 (by decide +kernel) (by decide +kernel)
theorem q_1473 : (Jvm.Cond.fieldLink "SnowRecorderModel" (153 : Nat) "SnowRecorderModel" "hourMany" "I") ∈ AW := AW_m7 33 (by decide +kernel) (by decide +kernel)
theorem q_1484 : (Jvm.Cond.fieldLink "SnowRecorderModel" (160 : Nat) "SnowRecorderModel" "warmer" "I") ∈ AW := AW_m7 44 (by decide +kernel) (by decide +kernel)
theorem q_1487 : (Jvm.Cond.fieldLink "SnowRecorderModel" (167 : Nat) "SnowRecorderModel" "otherMuch" "I") ∈ AW := AW_m7 47 (by decide +kernel) (by decide +kernel)
theorem q_1488 : (Jvm.Cond.fieldLink "SnowRecorderModel" (163 : Nat) "SnowRecorderModel" "isClear" "Z") ∈ AW := AW_m7 48 (by decide +kernel) (by decide +kernel)
theorem q_1717 : (Jvm.Cond.methodLink "SnowRecorderModel" (135 : Nat) ({ cls := "SnowRecorderModel", name := "setsMany", desc := "(III)V" } : Jvm.MethodName)) ∈ AW := AW_m8 37 (by decide +kernel) (by decide +kernel)
theorem q_1719 : (Jvm.Cond.instanceMethod ({ cls := "SnowRecorderModel", name := "setsMany", desc := "(III)V" } : Jvm.MethodName)) ∈ AW := AW_m8 39 (by decide +kernel) (by decide +kernel)
theorem q_1720 : (Jvm.Cond.code ({ cls := "SnowRecorderModel", name := "setsMany", desc := "(III)V" } : Jvm.MethodName) prog_12_method_12_code (4 : Nat) (Option.none : Option Jvm.ClassFile.FieldType)) ∈ AW := AW_m8 40 (by decide +kernel) (by decide +kernel)
theorem q_1827 : (Jvm.Cond.methodLink "SnowRecorderModel" (195 : Nat) ({ cls := "SnowRecorderModel", name := "airOf", desc := "(I)I" } : Jvm.MethodName)) ∈ AW := AW_m8 147 (by decide +kernel) (by decide +kernel)
theorem q_1829 : (Jvm.Cond.instanceMethod ({ cls := "SnowRecorderModel", name := "airOf", desc := "(I)I" } : Jvm.MethodName)) ∈ AW := AW_m8 149 (by decide +kernel) (by decide +kernel)
theorem q_1830 : (Jvm.Cond.code ({ cls := "SnowRecorderModel", name := "airOf", desc := "(I)I" } : Jvm.MethodName) prog_12_method_23_code (3 : Nat) (Option.some Jvm.ClassFile.FieldType.int)) ∈ AW := AW_m8 150 (by decide +kernel) (by decide +kernel)
theorem q_1831 : (Jvm.Cond.methodLink "SnowRecorderModel" (156 : Nat) ({ cls := "SnowRecorderModel", name := "hourOf", desc := "(I)I" } : Jvm.MethodName)) ∈ AW := AW_m8 151 (by decide +kernel) (by decide +kernel)
theorem q_1833 : (Jvm.Cond.instanceMethod ({ cls := "SnowRecorderModel", name := "hourOf", desc := "(I)I" } : Jvm.MethodName)) ∈ AW := AW_m8 153 (by decide +kernel) (by decide +kernel)
theorem q_1834 : (Jvm.Cond.code ({ cls := "SnowRecorderModel", name := "hourOf", desc := "(I)I" } : Jvm.MethodName) prog_12_method_22_code (2 : Nat) (Option.some Jvm.ClassFile.FieldType.int)) ∈ AW := AW_m8 154 (by decide +kernel) (by decide +kernel)
theorem q_1885 : (Jvm.Cond.methodLink "SnowRecorderModel" (219 : Nat) ({ cls := "SnowRecorderModel", name := "hour", desc := "(I)V" } : Jvm.MethodName)) ∈ AW := AW_m8 205 (by decide +kernel) (by decide +kernel)
theorem q_1887 : (Jvm.Cond.instanceMethod ({ cls := "SnowRecorderModel", name := "hour", desc := "(I)V" } : Jvm.MethodName)) ∈ AW := AW_m8 207 (by decide +kernel) (by decide +kernel)
theorem q_1888 : (Jvm.Cond.code ({ cls := "SnowRecorderModel", name := "hour", desc := "(I)V" } : Jvm.MethodName) prog_12_method_35_code (4 : Nat) (Option.none : Option Jvm.ClassFile.FieldType)) ∈ AW := AW_m8 208 (by decide +kernel) (by decide +kernel)
theorem q_1889 : (Jvm.Cond.methodLink "SnowRecorderModel" (201 : Nat) ({ cls := "SnowRecorderModel", name := "fallsNow", desc := "(III)V" } : Jvm.MethodName)) ∈ AW := AW_m8 209 (by decide +kernel) (by decide +kernel)
theorem q_1891 : (Jvm.Cond.instanceMethod ({ cls := "SnowRecorderModel", name := "fallsNow", desc := "(III)V" } : Jvm.MethodName)) ∈ AW := AW_m8 211 (by decide +kernel) (by decide +kernel)
theorem q_1892 : (Jvm.Cond.code ({ cls := "SnowRecorderModel", name := "fallsNow", desc := "(III)V" } : Jvm.MethodName) prog_12_method_24_code (5 : Nat) (Option.none : Option Jvm.ClassFile.FieldType)) ∈ AW := AW_m8 212 (by decide +kernel) (by decide +kernel)
theorem q_1893 : (Jvm.Cond.methodLink "SnowRecorderModel" (170 : Nat) ({ cls := "SnowRecorderModel", name := "drops", desc := "(IIIII)V" } : Jvm.MethodName)) ∈ AW := AW_m8 213 (by decide +kernel) (by decide +kernel)
theorem q_1895 : (Jvm.Cond.instanceMethod ({ cls := "SnowRecorderModel", name := "drops", desc := "(IIIII)V" } : Jvm.MethodName)) ∈ AW := AW_m8 215 (by decide +kernel) (by decide +kernel)
theorem q_1896 : (Jvm.Cond.code ({ cls := "SnowRecorderModel", name := "drops", desc := "(IIIII)V" } : Jvm.MethodName) prog_12_method_21_code (6 : Nat) (Option.none : Option Jvm.ClassFile.FieldType)) ∈ AW := AW_m8 216 (by decide +kernel) (by decide +kernel)
theorem q_1897 : (Jvm.Cond.methodLink "SnowRecorderModel" (146 : Nat) ({ cls := "SnowRecorderModel", name := "comes", desc := "(IIIIII)V" } : Jvm.MethodName)) ∈ AW := AW_m8 217 (by decide +kernel) (by decide +kernel)
theorem q_1899 : (Jvm.Cond.instanceMethod ({ cls := "SnowRecorderModel", name := "comes", desc := "(IIIIII)V" } : Jvm.MethodName)) ∈ AW := AW_m8 219 (by decide +kernel) (by decide +kernel)
theorem q_1900 : (Jvm.Cond.code ({ cls := "SnowRecorderModel", name := "comes", desc := "(IIIIII)V" } : Jvm.MethodName) prog_12_method_20_code (8 : Nat) (Option.none : Option Jvm.ClassFile.FieldType)) ∈ AW := AW_m8 220 (by decide +kernel) (by decide +kernel)
theorem q_1901 : (Jvm.Cond.methodLink "SnowRecorderModel" (139 : Nat) ({ cls := "SnowRecorderModel", name := "joins", desc := "(II)V" } : Jvm.MethodName)) ∈ AW := AW_m8 221 (by decide +kernel) (by decide +kernel)
theorem q_1903 : (Jvm.Cond.instanceMethod ({ cls := "SnowRecorderModel", name := "joins", desc := "(II)V" } : Jvm.MethodName)) ∈ AW := AW_m8 223 (by decide +kernel) (by decide +kernel)
theorem q_1904 : (Jvm.Cond.code ({ cls := "SnowRecorderModel", name := "joins", desc := "(II)V" } : Jvm.MethodName) prog_12_method_19_code (10 : Nat) (Option.none : Option Jvm.ClassFile.FieldType)) ∈ AW := AW_m8 224 (by decide +kernel) (by decide +kernel)
theorem q_1905 : (Jvm.Cond.methodLink "SnowRecorderModel" (128 : Nat) ({ cls := "SnowRecorderModel", name := "greater", desc := "(II)I" } : Jvm.MethodName)) ∈ AW := AW_m8 225 (by decide +kernel) (by decide +kernel)
theorem q_1906 : (Jvm.Cond.static ({ cls := "SnowRecorderModel", name := "greater", desc := "(II)I" } : Jvm.MethodName)) ∈ AW := AW_m8 226 (by decide +kernel) (by decide +kernel)
theorem q_1907 : (Jvm.Cond.code ({ cls := "SnowRecorderModel", name := "greater", desc := "(II)I" } : Jvm.MethodName) prog_12_method_7_code (2 : Nat) (Option.some Jvm.ClassFile.FieldType.int)) ∈ AW := AW_m8 227 (by decide +kernel) (by decide +kernel)
theorem q_1916 : (Jvm.Cond.methodLink "SnowRecorderModel" (204 : Nat) ({ cls := "SnowRecorderModel", name := "topped", desc := "(III)V" } : Jvm.MethodName)) ∈ AW := AW_m8 236 (by decide +kernel) (by decide +kernel)
theorem q_1918 : (Jvm.Cond.instanceMethod ({ cls := "SnowRecorderModel", name := "topped", desc := "(III)V" } : Jvm.MethodName)) ∈ AW := AW_m8 238 (by decide +kernel) (by decide +kernel)
theorem q_1919 : (Jvm.Cond.code ({ cls := "SnowRecorderModel", name := "topped", desc := "(III)V" } : Jvm.MethodName) prog_12_method_26_code (5 : Nat) (Option.none : Option Jvm.ClassFile.FieldType)) ∈ AW := AW_m8 239 (by decide +kernel) (by decide +kernel)
theorem q_1920 : (Jvm.Cond.methodLink "SnowRecorderModel" (173 : Nat) ({ cls := "SnowRecorderModel", name := "warms", desc := "(III)V" } : Jvm.MethodName)) ∈ AW := AW_m9 0 (by decide +kernel) (by decide +kernel)
theorem q_1922 : (Jvm.Cond.instanceMethod ({ cls := "SnowRecorderModel", name := "warms", desc := "(III)V" } : Jvm.MethodName)) ∈ AW := AW_m9 2 (by decide +kernel) (by decide +kernel)
theorem q_1923 : (Jvm.Cond.code ({ cls := "SnowRecorderModel", name := "warms", desc := "(III)V" } : Jvm.MethodName) prog_12_method_25_code (9 : Nat) (Option.none : Option Jvm.ClassFile.FieldType)) ∈ AW := AW_m9 3 (by decide +kernel) (by decide +kernel)
theorem q_1924 : (Jvm.Cond.methodLink "SnowRecorderModel" (207 : Nat) ({ cls := "SnowRecorderModel", name := "evens", desc := "(II)V" } : Jvm.MethodName)) ∈ AW := AW_m9 4 (by decide +kernel) (by decide +kernel)
theorem q_1926 : (Jvm.Cond.instanceMethod ({ cls := "SnowRecorderModel", name := "evens", desc := "(II)V" } : Jvm.MethodName)) ∈ AW := AW_m9 6 (by decide +kernel) (by decide +kernel)
theorem q_1927 : (Jvm.Cond.code ({ cls := "SnowRecorderModel", name := "evens", desc := "(II)V" } : Jvm.MethodName) prog_12_method_27_code (6 : Nat) (Option.none : Option Jvm.ClassFile.FieldType)) ∈ AW := AW_m9 7 (by decide +kernel) (by decide +kernel)
theorem q_1928 : (Jvm.Cond.methodLink "SnowRecorderModel" (210 : Nat) ({ cls := "SnowRecorderModel", name := "sinks", desc := "(II)V" } : Jvm.MethodName)) ∈ AW := AW_m9 8 (by decide +kernel) (by decide +kernel)
theorem q_1930 : (Jvm.Cond.instanceMethod ({ cls := "SnowRecorderModel", name := "sinks", desc := "(II)V" } : Jvm.MethodName)) ∈ AW := AW_m9 10 (by decide +kernel) (by decide +kernel)
theorem q_1931 : (Jvm.Cond.code ({ cls := "SnowRecorderModel", name := "sinks", desc := "(II)V" } : Jvm.MethodName) prog_12_method_29_code (6 : Nat) (Option.none : Option Jvm.ClassFile.FieldType)) ∈ AW := AW_m9 11 (by decide +kernel) (by decide +kernel)
theorem q_1936 : (Jvm.Cond.methodLink "SnowRecorderModel" (213 : Nat) ({ cls := "SnowRecorderModel", name := "presses", desc := "(II)V" } : Jvm.MethodName)) ∈ AW := AW_m9 16 (by decide +kernel) (by decide +kernel)
theorem q_1938 : (Jvm.Cond.instanceMethod ({ cls := "SnowRecorderModel", name := "presses", desc := "(II)V" } : Jvm.MethodName)) ∈ AW := AW_m9 18 (by decide +kernel) (by decide +kernel)
theorem q_1939 : (Jvm.Cond.code ({ cls := "SnowRecorderModel", name := "presses", desc := "(II)V" } : Jvm.MethodName) prog_12_method_31_code (10 : Nat) (Option.none : Option Jvm.ClassFile.FieldType)) ∈ AW := AW_m9 19 (by decide +kernel) (by decide +kernel)
theorem q_1940 : (Jvm.Cond.methodLink "SnowRecorderModel" (216 : Nat) ({ cls := "SnowRecorderModel", name := "ages", desc := "(III)V" } : Jvm.MethodName)) ∈ AW := AW_m9 20 (by decide +kernel) (by decide +kernel)
theorem q_1942 : (Jvm.Cond.instanceMethod ({ cls := "SnowRecorderModel", name := "ages", desc := "(III)V" } : Jvm.MethodName)) ∈ AW := AW_m9 22 (by decide +kernel) (by decide +kernel)
theorem q_1943 : (Jvm.Cond.code ({ cls := "SnowRecorderModel", name := "ages", desc := "(III)V" } : Jvm.MethodName) prog_12_method_34_code (5 : Nat) (Option.none : Option Jvm.ClassFile.FieldType)) ∈ AW := AW_m9 23 (by decide +kernel) (by decide +kernel)
theorem s_100 : Cond.selects "SnowRecorderModel" ({ cls := "SnowRecorderModel", name := "ages", desc := "(III)V" } : Jvm.MethodName) ({ cls := "SnowRecorderModel", name := "ages", desc := "(III)V" } : Jvm.MethodName) ∈ AW := AW_m 100 (by decide +kernel) (by decide +kernel)
theorem s_55 : Cond.selects "SnowRecorderModel" ({ cls := "SnowRecorderModel", name := "setsMany", desc := "(III)V" } : Jvm.MethodName) ({ cls := "SnowRecorderModel", name := "setsMany", desc := "(III)V" } : Jvm.MethodName) ∈ AW := AW_m 55 (by decide +kernel) (by decide +kernel)
theorem s_76 : Cond.selects "SnowRecorderModel" ({ cls := "SnowRecorderModel", name := "airOf", desc := "(I)I" } : Jvm.MethodName) ({ cls := "SnowRecorderModel", name := "airOf", desc := "(I)I" } : Jvm.MethodName) ∈ AW := AW_m 76 (by decide +kernel) (by decide +kernel)
theorem s_77 : Cond.selects "SnowRecorderModel" ({ cls := "SnowRecorderModel", name := "hourOf", desc := "(I)I" } : Jvm.MethodName) ({ cls := "SnowRecorderModel", name := "hourOf", desc := "(I)I" } : Jvm.MethodName) ∈ AW := AW_m 77 (by decide +kernel) (by decide +kernel)
theorem s_87 : Cond.selects "SnowRecorderModel" ({ cls := "SnowRecorderModel", name := "hour", desc := "(I)V" } : Jvm.MethodName) ({ cls := "SnowRecorderModel", name := "hour", desc := "(I)V" } : Jvm.MethodName) ∈ AW := AW_m 87 (by decide +kernel) (by decide +kernel)
theorem s_88 : Cond.selects "SnowRecorderModel" ({ cls := "SnowRecorderModel", name := "fallsNow", desc := "(III)V" } : Jvm.MethodName) ({ cls := "SnowRecorderModel", name := "fallsNow", desc := "(III)V" } : Jvm.MethodName) ∈ AW := AW_m 88 (by decide +kernel) (by decide +kernel)
theorem s_89 : Cond.selects "SnowRecorderModel" ({ cls := "SnowRecorderModel", name := "drops", desc := "(IIIII)V" } : Jvm.MethodName) ({ cls := "SnowRecorderModel", name := "drops", desc := "(IIIII)V" } : Jvm.MethodName) ∈ AW := AW_m 89 (by decide +kernel) (by decide +kernel)
theorem s_90 : Cond.selects "SnowRecorderModel" ({ cls := "SnowRecorderModel", name := "comes", desc := "(IIIIII)V" } : Jvm.MethodName) ({ cls := "SnowRecorderModel", name := "comes", desc := "(IIIIII)V" } : Jvm.MethodName) ∈ AW := AW_m 90 (by decide +kernel) (by decide +kernel)
theorem s_91 : Cond.selects "SnowRecorderModel" ({ cls := "SnowRecorderModel", name := "joins", desc := "(II)V" } : Jvm.MethodName) ({ cls := "SnowRecorderModel", name := "joins", desc := "(II)V" } : Jvm.MethodName) ∈ AW := AW_m 91 (by decide +kernel) (by decide +kernel)
theorem s_94 : Cond.selects "SnowRecorderModel" ({ cls := "SnowRecorderModel", name := "topped", desc := "(III)V" } : Jvm.MethodName) ({ cls := "SnowRecorderModel", name := "topped", desc := "(III)V" } : Jvm.MethodName) ∈ AW := AW_m 94 (by decide +kernel) (by decide +kernel)
theorem s_95 : Cond.selects "SnowRecorderModel" ({ cls := "SnowRecorderModel", name := "warms", desc := "(III)V" } : Jvm.MethodName) ({ cls := "SnowRecorderModel", name := "warms", desc := "(III)V" } : Jvm.MethodName) ∈ AW := AW_m 95 (by decide +kernel) (by decide +kernel)
theorem s_96 : Cond.selects "SnowRecorderModel" ({ cls := "SnowRecorderModel", name := "evens", desc := "(II)V" } : Jvm.MethodName) ({ cls := "SnowRecorderModel", name := "evens", desc := "(II)V" } : Jvm.MethodName) ∈ AW := AW_m 96 (by decide +kernel) (by decide +kernel)
theorem s_97 : Cond.selects "SnowRecorderModel" ({ cls := "SnowRecorderModel", name := "sinks", desc := "(II)V" } : Jvm.MethodName) ({ cls := "SnowRecorderModel", name := "sinks", desc := "(II)V" } : Jvm.MethodName) ∈ AW := AW_m 97 (by decide +kernel) (by decide +kernel)
theorem s_99 : Cond.selects "SnowRecorderModel" ({ cls := "SnowRecorderModel", name := "presses", desc := "(II)V" } : Jvm.MethodName) ({ cls := "SnowRecorderModel", name := "presses", desc := "(II)V" } : Jvm.MethodName) ∈ AW := AW_m 99 (by decide +kernel) (by decide +kernel)
theorem hd_yX10_setsMany : yX10_setsMany.cls ≠ "java/lang/invoke/MethodHandle" ∧ yX10_setsMany.cls ≠ "java/lang/invoke/VarHandle" ∧ (parseMethodDescriptor yX10_setsMany.desc).map (fun d => d.parameters.length) = some 3 := by decide +kernel
theorem hd_yX10_warms : yX10_warms.cls ≠ "java/lang/invoke/MethodHandle" ∧ yX10_warms.cls ≠ "java/lang/invoke/VarHandle" ∧ (parseMethodDescriptor yX10_warms.desc).map (fun d => d.parameters.length) = some 3 := by decide +kernel
theorem hd_yX10_greater : yX10_greater.cls ≠ "java/lang/invoke/MethodHandle" ∧ yX10_greater.cls ≠ "java/lang/invoke/VarHandle" ∧ (parseMethodDescriptor yX10_greater.desc).map (fun d => d.parameters.length) = some 2 := by decide +kernel
theorem hd_yX10_joins : yX10_joins.cls ≠ "java/lang/invoke/MethodHandle" ∧ yX10_joins.cls ≠ "java/lang/invoke/VarHandle" ∧ (parseMethodDescriptor yX10_joins.desc).map (fun d => d.parameters.length) = some 2 := by decide +kernel
theorem hd_yX10_comes : yX10_comes.cls ≠ "java/lang/invoke/MethodHandle" ∧ yX10_comes.cls ≠ "java/lang/invoke/VarHandle" ∧ (parseMethodDescriptor yX10_comes.desc).map (fun d => d.parameters.length) = some 6 := by decide +kernel
theorem hd_yX10_hourOf : yX10_hourOf.cls ≠ "java/lang/invoke/MethodHandle" ∧ yX10_hourOf.cls ≠ "java/lang/invoke/VarHandle" ∧ (parseMethodDescriptor yX10_hourOf.desc).map (fun d => d.parameters.length) = some 1 := by decide +kernel
theorem hd_yX10_drops : yX10_drops.cls ≠ "java/lang/invoke/MethodHandle" ∧ yX10_drops.cls ≠ "java/lang/invoke/VarHandle" ∧ (parseMethodDescriptor yX10_drops.desc).map (fun d => d.parameters.length) = some 5 := by decide +kernel
theorem hd_yX10_fallsNow : yX10_fallsNow.cls ≠ "java/lang/invoke/MethodHandle" ∧ yX10_fallsNow.cls ≠ "java/lang/invoke/VarHandle" ∧ (parseMethodDescriptor yX10_fallsNow.desc).map (fun d => d.parameters.length) = some 3 := by decide +kernel
theorem hd_yX10_topped : yX10_topped.cls ≠ "java/lang/invoke/MethodHandle" ∧ yX10_topped.cls ≠ "java/lang/invoke/VarHandle" ∧ (parseMethodDescriptor yX10_topped.desc).map (fun d => d.parameters.length) = some 3 := by decide +kernel
theorem hd_yX10_evens : yX10_evens.cls ≠ "java/lang/invoke/MethodHandle" ∧ yX10_evens.cls ≠ "java/lang/invoke/VarHandle" ∧ (parseMethodDescriptor yX10_evens.desc).map (fun d => d.parameters.length) = some 2 := by decide +kernel
theorem hd_yX10_sinks : yX10_sinks.cls ≠ "java/lang/invoke/MethodHandle" ∧ yX10_sinks.cls ≠ "java/lang/invoke/VarHandle" ∧ (parseMethodDescriptor yX10_sinks.desc).map (fun d => d.parameters.length) = some 2 := by decide +kernel
theorem hd_yX10_presses : yX10_presses.cls ≠ "java/lang/invoke/MethodHandle" ∧ yX10_presses.cls ≠ "java/lang/invoke/VarHandle" ∧ (parseMethodDescriptor yX10_presses.desc).map (fun d => d.parameters.length) = some 2 := by decide +kernel
theorem hd_yX10_ages : yX10_ages.cls ≠ "java/lang/invoke/MethodHandle" ∧ yX10_ages.cls ≠ "java/lang/invoke/VarHandle" ∧ (parseMethodDescriptor yX10_ages.desc).map (fun d => d.parameters.length) = some 3 := by decide +kernel
theorem hd_yX10_airOf : yX10_airOf.cls ≠ "java/lang/invoke/MethodHandle" ∧ yX10_airOf.cls ≠ "java/lang/invoke/VarHandle" ∧ (parseMethodDescriptor yX10_airOf.desc).map (fun d => d.parameters.length) = some 1 := by decide +kernel
theorem hd_yX10_hour : yX10_hour.cls ≠ "java/lang/invoke/MethodHandle" ∧ yX10_hour.cls ≠ "java/lang/invoke/VarHandle" ∧ (parseMethodDescriptor yX10_hour.desc).map (fun d => d.parameters.length) = some 1 := by decide +kernel
theorem mv_yX10_setsMany : zWv yX10_setsMany cX10_setsMany 4 none := ⟨q_1719, s_55, q_15, q_1720⟩
theorem mv_yX10_warms : zWv yX10_warms cX10_warms 9 none := ⟨q_1922, s_95, q_15, q_1923⟩
theorem ms_yX10_greater : zWs yX10_greater cX10_greater 2 (some .int) := ⟨q_1906, q_15, q_1907⟩
theorem mv_yX10_joins : zWv yX10_joins cX10_joins 10 none := ⟨q_1903, s_91, q_15, q_1904⟩
theorem mv_yX10_comes : zWv yX10_comes cX10_comes 8 none := ⟨q_1899, s_90, q_15, q_1900⟩
theorem mv_yX10_hourOf : zWv yX10_hourOf cX10_hourOf 2 (some .int) := ⟨q_1833, s_77, q_15, q_1834⟩
theorem mv_yX10_drops : zWv yX10_drops cX10_drops 6 none := ⟨q_1895, s_89, q_15, q_1896⟩
theorem mv_yX10_fallsNow : zWv yX10_fallsNow cX10_fallsNow 5 none := ⟨q_1891, s_88, q_15, q_1892⟩
theorem mv_yX10_topped : zWv yX10_topped cX10_topped 5 none := ⟨q_1918, s_94, q_15, q_1919⟩
theorem mv_yX10_evens : zWv yX10_evens cX10_evens 6 none := ⟨q_1926, s_96, q_15, q_1927⟩
theorem mv_yX10_sinks : zWv yX10_sinks cX10_sinks 6 none := ⟨q_1930, s_97, q_15, q_1931⟩
theorem mv_yX10_presses : zWv yX10_presses cX10_presses 10 none := ⟨q_1938, s_99, q_15, q_1939⟩
theorem mv_yX10_ages : zWv yX10_ages cX10_ages 5 none := ⟨q_1942, s_100, q_15, q_1943⟩
theorem mv_yX10_airOf : zWv yX10_airOf cX10_airOf 3 (some .int) := ⟨q_1829, s_76, q_15, q_1830⟩
theorem mv_yX10_hour : zWv yX10_hour cX10_hour 4 none := ⟨q_1887, s_87, q_15, q_1888⟩
end
