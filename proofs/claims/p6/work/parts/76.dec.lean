-- decode rows of refp
theorem dX10_freezes_0 : decode cX10_freezes 0 = .ok (.aload_n 0, 1) := by decide +kernel
theorem dX10_freezes_1 : decode cX10_freezes 1 = .ok (.getfield 9, 3) := by decide +kernel
theorem dX10_freezes_4 : decode cX10_freezes 4 = .ok (.iload_n 1, 1) := by decide +kernel
theorem dX10_freezes_5 : decode cX10_freezes 5 = .ok (.iconst 2, 1) := by decide +kernel
theorem dX10_freezes_6 : decode cX10_freezes 6 = .ok (.iadd, 1) := by decide +kernel
theorem dX10_freezes_7 : decode cX10_freezes 7 = .ok (.iaload, 1) := by decide +kernel
theorem dX10_freezes_8 : decode cX10_freezes 8 = .ok (.aload_n 0, 1) := by decide +kernel
theorem dX10_freezes_9 : decode cX10_freezes 9 = .ok (.getfield 9, 3) := by decide +kernel
theorem dX10_freezes_12 : decode cX10_freezes 12 = .ok (.iload_n 1, 1) := by decide +kernel
theorem dX10_freezes_13 : decode cX10_freezes 13 = .ok (.iconst 1, 1) := by decide +kernel
theorem dX10_freezes_14 : decode cX10_freezes 14 = .ok (.iadd, 1) := by decide +kernel
theorem dX10_freezes_15 : decode cX10_freezes 15 = .ok (.iaload, 1) := by decide +kernel
theorem dX10_freezes_16 : decode cX10_freezes 16 = .ok (.aload_n 0, 1) := by decide +kernel
theorem dX10_freezes_17 : decode cX10_freezes 17 = .ok (.getfield 9, 3) := by decide +kernel
theorem dX10_freezes_20 : decode cX10_freezes 20 = .ok (.iload_n 1, 1) := by decide +kernel
theorem dX10_freezes_21 : decode cX10_freezes 21 = .ok (.iconst 4, 1) := by decide +kernel
theorem dX10_freezes_22 : decode cX10_freezes 22 = .ok (.iadd, 1) := by decide +kernel
theorem dX10_freezes_23 : decode cX10_freezes 23 = .ok (.iaload, 1) := by decide +kernel
theorem dX10_freezes_24 : decode cX10_freezes 24 = .ok (.ineg, 1) := by decide +kernel
theorem dX10_freezes_25 : decode cX10_freezes 25 = .ok (.imul, 1) := by decide +kernel
theorem dX10_freezes_26 : decode cX10_freezes 26 = .ok (.bipush 100, 2) := by decide +kernel
theorem dX10_freezes_28 : decode cX10_freezes 28 = .ok (.idiv, 1) := by decide +kernel
theorem dX10_freezes_29 : decode cX10_freezes 29 = .ok (.invokestatic 143, 3) := by decide +kernel
theorem dX10_freezes_32 : decode cX10_freezes 32 = .ok (.istore_n 2, 1) := by decide +kernel
theorem dX10_freezes_33 : decode cX10_freezes 33 = .ok (.aload_n 0, 1) := by decide +kernel
theorem dX10_freezes_34 : decode cX10_freezes 34 = .ok (.getfield 9, 3) := by decide +kernel
theorem dX10_freezes_37 : decode cX10_freezes 37 = .ok (.iload_n 1, 1) := by decide +kernel
theorem dX10_freezes_38 : decode cX10_freezes 38 = .ok (.iconst 4, 1) := by decide +kernel
theorem dX10_freezes_39 : decode cX10_freezes 39 = .ok (.iadd, 1) := by decide +kernel
theorem dX10_freezes_40 : decode cX10_freezes 40 = .ok (.aload_n 0, 1) := by decide +kernel
theorem dX10_freezes_41 : decode cX10_freezes 41 = .ok (.getfield 9, 3) := by decide +kernel
theorem dX10_freezes_44 : decode cX10_freezes 44 = .ok (.iload_n 1, 1) := by decide +kernel
theorem dX10_freezes_45 : decode cX10_freezes 45 = .ok (.iconst 2, 1) := by decide +kernel
theorem dX10_freezes_46 : decode cX10_freezes 46 = .ok (.iadd, 1) := by decide +kernel
theorem dX10_freezes_47 : decode cX10_freezes 47 = .ok (.iaload, 1) := by decide +kernel
theorem dX10_freezes_48 : decode cX10_freezes 48 = .ok (.iload_n 2, 1) := by decide +kernel
theorem dX10_freezes_49 : decode cX10_freezes 49 = .ok (.if_icmp .le 7, 3) := by decide +kernel
theorem dX10_freezes_56 : decode cX10_freezes 56 = .ok (.iconst 0, 1) := by decide +kernel
theorem dX10_freezes_57 : decode cX10_freezes 57 = .ok (.aload_n 0, 1) := by decide +kernel
theorem dX10_freezes_58 : decode cX10_freezes 58 = .ok (.getfield 9, 3) := by decide +kernel
theorem dX10_freezes_61 : decode cX10_freezes 61 = .ok (.iload_n 1, 1) := by decide +kernel
theorem dX10_freezes_62 : decode cX10_freezes 62 = .ok (.iconst 4, 1) := by decide +kernel
theorem dX10_freezes_63 : decode cX10_freezes 63 = .ok (.iadd, 1) := by decide +kernel
theorem dX10_freezes_64 : decode cX10_freezes 64 = .ok (.iaload, 1) := by decide +kernel
theorem dX10_freezes_65 : decode cX10_freezes 65 = .ok (.bipush 100, 2) := by decide +kernel
theorem dX10_freezes_67 : decode cX10_freezes 67 = .ok (.iload_n 2, 1) := by decide +kernel
theorem dX10_freezes_68 : decode cX10_freezes 68 = .ok (.imul, 1) := by decide +kernel
theorem dX10_freezes_69 : decode cX10_freezes 69 = .ok (.aload_n 0, 1) := by decide +kernel
theorem dX10_freezes_70 : decode cX10_freezes 70 = .ok (.getfield 9, 3) := by decide +kernel
theorem dX10_freezes_73 : decode cX10_freezes 73 = .ok (.iload_n 1, 1) := by decide +kernel
theorem dX10_freezes_74 : decode cX10_freezes 74 = .ok (.iconst 1, 1) := by decide +kernel
theorem dX10_freezes_75 : decode cX10_freezes 75 = .ok (.iadd, 1) := by decide +kernel
theorem dX10_freezes_76 : decode cX10_freezes 76 = .ok (.iaload, 1) := by decide +kernel
theorem dX10_freezes_77 : decode cX10_freezes 77 = .ok (.idiv, 1) := by decide +kernel
theorem dX10_freezes_78 : decode cX10_freezes 78 = .ok (.iadd, 1) := by decide +kernel
theorem dX10_freezes_79 : decode cX10_freezes 79 = .ok (.invokestatic 143, 3) := by decide +kernel
theorem dX10_freezes_82 : decode cX10_freezes 82 = .ok (.iastore, 1) := by decide +kernel
theorem dX10_freezes_83 : decode cX10_freezes 83 = .ok (.aload_n 0, 1) := by decide +kernel
theorem dX10_freezes_84 : decode cX10_freezes 84 = .ok (.getfield 9, 3) := by decide +kernel
theorem dX10_freezes_87 : decode cX10_freezes 87 = .ok (.iload_n 1, 1) := by decide +kernel
theorem dX10_freezes_88 : decode cX10_freezes 88 = .ok (.iconst 1, 1) := by decide +kernel
theorem dX10_freezes_89 : decode cX10_freezes 89 = .ok (.iadd, 1) := by decide +kernel
theorem dX10_freezes_90 : decode cX10_freezes 90 = .ok (.dup2, 1) := by decide +kernel
theorem dX10_freezes_91 : decode cX10_freezes 91 = .ok (.iaload, 1) := by decide +kernel
theorem dX10_freezes_92 : decode cX10_freezes 92 = .ok (.iload_n 2, 1) := by decide +kernel
theorem dX10_freezes_93 : decode cX10_freezes 93 = .ok (.iadd, 1) := by decide +kernel
theorem dX10_freezes_94 : decode cX10_freezes 94 = .ok (.iastore, 1) := by decide +kernel
theorem dX10_freezes_95 : decode cX10_freezes 95 = .ok (.aload_n 0, 1) := by decide +kernel
theorem dX10_freezes_96 : decode cX10_freezes 96 = .ok (.getfield 9, 3) := by decide +kernel
theorem dX10_freezes_99 : decode cX10_freezes 99 = .ok (.iload_n 1, 1) := by decide +kernel
theorem dX10_freezes_100 : decode cX10_freezes 100 = .ok (.iconst 2, 1) := by decide +kernel
theorem dX10_freezes_101 : decode cX10_freezes 101 = .ok (.iadd, 1) := by decide +kernel
theorem dX10_freezes_102 : decode cX10_freezes 102 = .ok (.dup2, 1) := by decide +kernel
theorem dX10_freezes_103 : decode cX10_freezes 103 = .ok (.iaload, 1) := by decide +kernel
theorem dX10_freezes_104 : decode cX10_freezes 104 = .ok (.iload_n 2, 1) := by decide +kernel
theorem dX10_freezes_105 : decode cX10_freezes 105 = .ok (.isub, 1) := by decide +kernel
theorem dX10_freezes_106 : decode cX10_freezes 106 = .ok (.iastore, 1) := by decide +kernel
theorem dX10_freezes_107 : decode cX10_freezes 107 = .ok (.iload_n 2, 1) := by decide +kernel
theorem dX10_freezes_108 : decode cX10_freezes 108 = .ok (.ifCond .le 12, 3) := by decide +kernel
theorem dX10_freezes_120 : decode cX10_freezes 120 = .ok (.return_, 1) := by decide +kernel
theorem dX10_freezes_111 : decode cX10_freezes 111 = .ok (.aload_n 0, 1) := by decide +kernel
theorem dX10_freezes_112 : decode cX10_freezes 112 = .ok (.getfield 9, 3) := by decide +kernel
theorem dX10_freezes_115 : decode cX10_freezes 115 = .ok (.iload_n 1, 1) := by decide +kernel
theorem dX10_freezes_116 : decode cX10_freezes 116 = .ok (.iconst 0, 1) := by decide +kernel
theorem dX10_freezes_117 : decode cX10_freezes 117 = .ok (.iadd, 1) := by decide +kernel
theorem dX10_freezes_118 : decode cX10_freezes 118 = .ok (.iconst 3, 1) := by decide +kernel
theorem dX10_freezes_119 : decode cX10_freezes 119 = .ok (.iastore, 1) := by decide +kernel
theorem dX10_freezes_52 : decode cX10_freezes 52 = .ok (.iconst 0, 1) := by decide +kernel
theorem dX10_freezes_53 : decode cX10_freezes 53 = .ok (.goto 29, 3) := by decide +kernel
theorem dX10_sinks_9 : decode cX10_sinks 9 = .ok (.iload_n 3, 1) := by decide +kernel
theorem dX10_sinks_10 : decode cX10_sinks 10 = .ok (.ifCond .lt 145, 3) := by decide +kernel
theorem dX10_sinks_155 : decode cX10_sinks 155 = .ok (.return_, 1) := by decide +kernel
theorem dX10_sinks_13 : decode cX10_sinks 13 = .ok (.iload_n 1, 1) := by decide +kernel
theorem dX10_sinks_14 : decode cX10_sinks 14 = .ok (.iload_n 2, 1) := by decide +kernel
theorem dX10_sinks_15 : decode cX10_sinks 15 = .ok (.iload_n 3, 1) := by decide +kernel
theorem dX10_sinks_16 : decode cX10_sinks 16 = .ok (.invokestatic 113, 3) := by decide +kernel
theorem dX10_sinks_19 : decode cX10_sinks 19 = .ok (.istore 4, 2) := by decide +kernel
theorem dX10_sinks_21 : decode cX10_sinks 21 = .ok (.aload_n 0, 1) := by decide +kernel
theorem dX10_sinks_22 : decode cX10_sinks 22 = .ok (.getfield 9, 3) := by decide +kernel
theorem dX10_sinks_25 : decode cX10_sinks 25 = .ok (.iload 4, 2) := by decide +kernel
theorem dX10_sinks_27 : decode cX10_sinks 27 = .ok (.iconst 2, 1) := by decide +kernel
theorem dX10_sinks_28 : decode cX10_sinks 28 = .ok (.iadd, 1) := by decide +kernel
theorem dX10_sinks_29 : decode cX10_sinks 29 = .ok (.iaload, 1) := by decide +kernel
theorem dX10_sinks_30 : decode cX10_sinks 30 = .ok (.ifCond .le 21, 3) := by decide +kernel
theorem dX10_sinks_51 : decode cX10_sinks 51 = .ok (.aload_n 0, 1) := by decide +kernel
theorem dX10_sinks_52 : decode cX10_sinks 52 = .ok (.getfield 9, 3) := by decide +kernel
theorem dX10_sinks_55 : decode cX10_sinks 55 = .ok (.iload 4, 2) := by decide +kernel
theorem dX10_sinks_57 : decode cX10_sinks 57 = .ok (.iconst 2, 1) := by decide +kernel
theorem dX10_sinks_58 : decode cX10_sinks 58 = .ok (.iadd, 1) := by decide +kernel
theorem dX10_sinks_59 : decode cX10_sinks 59 = .ok (.iaload, 1) := by decide +kernel
theorem dX10_sinks_60 : decode cX10_sinks 60 = .ok (.aload_n 0, 1) := by decide +kernel
theorem dX10_sinks_61 : decode cX10_sinks 61 = .ok (.getfield 9, 3) := by decide +kernel
theorem dX10_sinks_64 : decode cX10_sinks 64 = .ok (.iload 4, 2) := by decide +kernel
theorem dX10_sinks_66 : decode cX10_sinks 66 = .ok (.iconst 1, 1) := by decide +kernel
theorem dX10_sinks_67 : decode cX10_sinks 67 = .ok (.iadd, 1) := by decide +kernel
theorem dX10_sinks_68 : decode cX10_sinks 68 = .ok (.iaload, 1) := by decide +kernel
theorem dX10_sinks_69 : decode cX10_sinks 69 = .ok (.aload_n 0, 1) := by decide +kernel
theorem dX10_sinks_70 : decode cX10_sinks 70 = .ok (.getfield 28, 3) := by decide +kernel
theorem dX10_sinks_73 : decode cX10_sinks 73 = .ok (.iconst 5, 1) := by decide +kernel
theorem dX10_sinks_74 : decode cX10_sinks 74 = .ok (.aload_n 0, 1) := by decide +kernel
theorem dX10_sinks_75 : decode cX10_sinks 75 = .ok (.getfield 9, 3) := by decide +kernel
theorem dX10_sinks_78 : decode cX10_sinks 78 = .ok (.iload 4, 2) := by decide +kernel
theorem dX10_sinks_80 : decode cX10_sinks 80 = .ok (.iconst 0, 1) := by decide +kernel
theorem dX10_sinks_81 : decode cX10_sinks 81 = .ok (.iadd, 1) := by decide +kernel
theorem dX10_sinks_82 : decode cX10_sinks 82 = .ok (.iaload, 1) := by decide +kernel
theorem dX10_sinks_83 : decode cX10_sinks 83 = .ok (.iadd, 1) := by decide +kernel
theorem dX10_sinks_84 : decode cX10_sinks 84 = .ok (.iaload, 1) := by decide +kernel
theorem dX10_sinks_85 : decode cX10_sinks 85 = .ok (.imul, 1) := by decide +kernel
theorem dX10_sinks_86 : decode cX10_sinks 86 = .ok (.bipush 100, 2) := by decide +kernel
theorem dX10_sinks_88 : decode cX10_sinks 88 = .ok (.idiv, 1) := by decide +kernel
theorem dX10_sinks_89 : decode cX10_sinks 89 = .ok (.isub, 1) := by decide +kernel
theorem dX10_sinks_90 : decode cX10_sinks 90 = .ok (.istore 5, 2) := by decide +kernel
theorem dX10_sinks_92 : decode cX10_sinks 92 = .ok (.iload 5, 2) := by decide +kernel
theorem dX10_sinks_94 : decode cX10_sinks 94 = .ok (.ifCond .gt 6, 3) := by decide +kernel
theorem dX10_sinks_100 : decode cX10_sinks 100 = .ok (.aload_n 0, 1) := by decide +kernel
theorem dX10_sinks_101 : decode cX10_sinks 101 = .ok (.getfield 9, 3) := by decide +kernel
theorem dX10_sinks_104 : decode cX10_sinks 104 = .ok (.iload 4, 2) := by decide +kernel
theorem dX10_sinks_106 : decode cX10_sinks 106 = .ok (.iconst 2, 1) := by decide +kernel
theorem dX10_sinks_107 : decode cX10_sinks 107 = .ok (.iadd, 1) := by decide +kernel
theorem dX10_sinks_108 : decode cX10_sinks 108 = .ok (.dup2, 1) := by decide +kernel
theorem dX10_sinks_109 : decode cX10_sinks 109 = .ok (.iaload, 1) := by decide +kernel
theorem dX10_sinks_110 : decode cX10_sinks 110 = .ok (.iload 5, 2) := by decide +kernel
theorem dX10_sinks_112 : decode cX10_sinks 112 = .ok (.isub, 1) := by decide +kernel
theorem dX10_sinks_113 : decode cX10_sinks 113 = .ok (.iastore, 1) := by decide +kernel
theorem dX10_sinks_114 : decode cX10_sinks 114 = .ok (.iload_n 3, 1) := by decide +kernel
theorem dX10_sinks_115 : decode cX10_sinks 115 = .ok (.ifCond .ne 14, 3) := by decide +kernel
theorem dX10_sinks_129 : decode cX10_sinks 129 = .ok (.aload_n 0, 1) := by decide +kernel
theorem dX10_sinks_130 : decode cX10_sinks 130 = .ok (.getfield 9, 3) := by decide +kernel
theorem dX10_sinks_133 : decode cX10_sinks 133 = .ok (.iload_n 1, 1) := by decide +kernel
theorem dX10_sinks_134 : decode cX10_sinks 134 = .ok (.iload_n 2, 1) := by decide +kernel
theorem dX10_sinks_135 : decode cX10_sinks 135 = .ok (.iload_n 3, 1) := by decide +kernel
theorem dX10_sinks_136 : decode cX10_sinks 136 = .ok (.iconst 1, 1) := by decide +kernel
theorem dX10_sinks_137 : decode cX10_sinks 137 = .ok (.isub, 1) := by decide +kernel
theorem dX10_sinks_138 : decode cX10_sinks 138 = .ok (.invokestatic 113, 3) := by decide +kernel
theorem dX10_sinks_141 : decode cX10_sinks 141 = .ok (.iconst 2, 1) := by decide +kernel
theorem dX10_sinks_142 : decode cX10_sinks 142 = .ok (.iadd, 1) := by decide +kernel
theorem dX10_sinks_143 : decode cX10_sinks 143 = .ok (.dup2, 1) := by decide +kernel
theorem dX10_sinks_144 : decode cX10_sinks 144 = .ok (.iaload, 1) := by decide +kernel
theorem dX10_sinks_145 : decode cX10_sinks 145 = .ok (.iload 5, 2) := by decide +kernel
theorem dX10_sinks_147 : decode cX10_sinks 147 = .ok (.iadd, 1) := by decide +kernel
theorem dX10_sinks_148 : decode cX10_sinks 148 = .ok (.iastore, 1) := by decide +kernel
theorem dX10_sinks_149 : decode cX10_sinks 149 = .ok (.iinc 3 (-1), 3) := by decide +kernel
theorem dX10_sinks_152 : decode cX10_sinks 152 = .ok (.goto (-143), 3) := by decide +kernel
theorem dX10_sinks_118 : decode cX10_sinks 118 = .ok (.aload_n 0, 1) := by decide +kernel
theorem dX10_sinks_119 : decode cX10_sinks 119 = .ok (.iload_n 1, 1) := by decide +kernel
theorem dX10_sinks_120 : decode cX10_sinks 120 = .ok (.iload_n 2, 1) := by decide +kernel
theorem dX10_sinks_121 : decode cX10_sinks 121 = .ok (.iload 5, 2) := by decide +kernel
theorem dX10_sinks_123 : decode cX10_sinks 123 = .ok (.invokevirtual 150, 3) := by decide +kernel
theorem dX10_sinks_126 : decode cX10_sinks 126 = .ok (.goto 23, 3) := by decide +kernel
theorem dX10_sinks_97 : decode cX10_sinks 97 = .ok (.goto 52, 3) := by decide +kernel
theorem dX10_sinks_33 : decode cX10_sinks 33 = .ok (.aload_n 0, 1) := by decide +kernel
theorem dX10_sinks_34 : decode cX10_sinks 34 = .ok (.getfield 9, 3) := by decide +kernel
theorem dX10_sinks_37 : decode cX10_sinks 37 = .ok (.iload 4, 2) := by decide +kernel
theorem dX10_sinks_39 : decode cX10_sinks 39 = .ok (.iconst 4, 1) := by decide +kernel
theorem dX10_sinks_40 : decode cX10_sinks 40 = .ok (.iadd, 1) := by decide +kernel
theorem dX10_sinks_41 : decode cX10_sinks 41 = .ok (.iaload, 1) := by decide +kernel
theorem dX10_sinks_42 : decode cX10_sinks 42 = .ok (.ifCond .ge 9, 3) := by decide +kernel
theorem dX10_sinks_45 : decode cX10_sinks 45 = .ok (.aload_n 0, 1) := by decide +kernel
theorem dX10_sinks_46 : decode cX10_sinks 46 = .ok (.iload 4, 2) := by decide +kernel
theorem dX10_sinks_48 : decode cX10_sinks 48 = .ok (.invokevirtual 176, 3) := by decide +kernel
theorem dX10_sinks_0 : decode cX10_sinks 0 = .ok (.aload_n 0, 1) := by decide +kernel
theorem dX10_sinks_1 : decode cX10_sinks 1 = .ok (.iload_n 1, 1) := by decide +kernel
theorem dX10_sinks_2 : decode cX10_sinks 2 = .ok (.iload_n 2, 1) := by decide +kernel
theorem dX10_sinks_3 : decode cX10_sinks 3 = .ok (.invokevirtual 121, 3) := by decide +kernel
theorem dX10_sinks_6 : decode cX10_sinks 6 = .ok (.iconst 1, 1) := by decide +kernel
theorem dX10_sinks_7 : decode cX10_sinks 7 = .ok (.isub, 1) := by decide +kernel
theorem dX10_sinks_8 : decode cX10_sinks 8 = .ok (.istore_n 3, 1) := by decide +kernel
theorem dX10_load_0 : decode cX10_load 0 = .ok (.aload_n 0, 1) := by decide +kernel
theorem dX10_load_1 : decode cX10_load 1 = .ok (.iload_n 1, 1) := by decide +kernel
theorem dX10_load_2 : decode cX10_load 2 = .ok (.iload_n 2, 1) := by decide +kernel
theorem dX10_load_3 : decode cX10_load 3 = .ok (.iload_n 3, 1) := by decide +kernel
theorem dX10_load_4 : decode cX10_load 4 = .ok (.invokevirtual 180, 3) := by decide +kernel
theorem dX10_load_7 : decode cX10_load 7 = .ok (.aload_n 0, 1) := by decide +kernel
theorem dX10_load_8 : decode cX10_load 8 = .ok (.iload_n 1, 1) := by decide +kernel
theorem dX10_load_9 : decode cX10_load 9 = .ok (.iload_n 2, 1) := by decide +kernel
theorem dX10_load_10 : decode cX10_load 10 = .ok (.iload_n 3, 1) := by decide +kernel
theorem dX10_load_11 : decode cX10_load 11 = .ok (.invokevirtual 125, 3) := by decide +kernel
theorem dX10_load_14 : decode cX10_load 14 = .ok (.iconst 2, 1) := by decide +kernel
theorem dX10_load_15 : decode cX10_load 15 = .ok (.idiv, 1) := by decide +kernel
theorem dX10_load_16 : decode cX10_load 16 = .ok (.iadd, 1) := by decide +kernel
theorem dX10_load_17 : decode cX10_load 17 = .ok (.ireturn, 1) := by decide +kernel
theorem dX10_presses_2 : decode cX10_presses 2 = .ok (.iload_n 3, 1) := by decide +kernel
theorem dX10_presses_3 : decode cX10_presses 3 = .ok (.aload_n 0, 1) := by decide +kernel
theorem dX10_presses_4 : decode cX10_presses 4 = .ok (.iload_n 1, 1) := by decide +kernel
theorem dX10_presses_5 : decode cX10_presses 5 = .ok (.iload_n 2, 1) := by decide +kernel
theorem dX10_presses_6 : decode cX10_presses 6 = .ok (.invokevirtual 121, 3) := by decide +kernel
theorem dX10_presses_9 : decode cX10_presses 9 = .ok (.if_icmp .ge 93, 3) := by decide +kernel
theorem dX10_presses_102 : decode cX10_presses 102 = .ok (.return_, 1) := by decide +kernel
theorem dX10_presses_12 : decode cX10_presses 12 = .ok (.aload_n 0, 1) := by decide +kernel
theorem dX10_presses_13 : decode cX10_presses 13 = .ok (.iload_n 1, 1) := by decide +kernel
theorem dX10_presses_14 : decode cX10_presses 14 = .ok (.iload_n 2, 1) := by decide +kernel
theorem dX10_presses_15 : decode cX10_presses 15 = .ok (.iload_n 3, 1) := by decide +kernel
theorem dX10_presses_16 : decode cX10_presses 16 = .ok (.iconst 3, 1) := by decide +kernel
theorem dX10_presses_17 : decode cX10_presses 17 = .ok (.invokevirtual 117, 3) := by decide +kernel
theorem dX10_presses_20 : decode cX10_presses 20 = .ok (.istore 4, 2) := by decide +kernel
theorem dX10_presses_22 : decode cX10_presses 22 = .ok (.iload 4, 2) := by decide +kernel
theorem dX10_presses_24 : decode cX10_presses 24 = .ok (.i2l, 1) := by decide +kernel
theorem dX10_presses_25 : decode cX10_presses 25 = .ok (.aload_n 0, 1) := by decide +kernel
theorem dX10_presses_26 : decode cX10_presses 26 = .ok (.iload_n 1, 1) := by decide +kernel
theorem dX10_presses_27 : decode cX10_presses 27 = .ok (.iload_n 2, 1) := by decide +kernel
theorem dX10_presses_28 : decode cX10_presses 28 = .ok (.iload_n 3, 1) := by decide +kernel
theorem dX10_presses_29 : decode cX10_presses 29 = .ok (.invokevirtual 183, 3) := by decide +kernel
theorem dX10_presses_32 : decode cX10_presses 32 = .ok (.i2l, 1) := by decide +kernel
theorem dX10_presses_33 : decode cX10_presses 33 = .ok (.lmul, 1) := by decide +kernel
theorem dX10_presses_34 : decode cX10_presses 34 = .ok (.aload_n 0, 1) := by decide +kernel
theorem dX10_presses_35 : decode cX10_presses 35 = .ok (.getfield 28, 3) := by decide +kernel
theorem dX10_presses_38 : decode cX10_presses 38 = .ok (.bipush 10, 2) := by decide +kernel
theorem dX10_presses_40 : decode cX10_presses 40 = .ok (.aload_n 0, 1) := by decide +kernel
theorem dX10_presses_41 : decode cX10_presses 41 = .ok (.iload_n 1, 1) := by decide +kernel
theorem dX10_presses_42 : decode cX10_presses 42 = .ok (.iload_n 2, 1) := by decide +kernel
theorem dX10_presses_43 : decode cX10_presses 43 = .ok (.iload_n 3, 1) := by decide +kernel
theorem dX10_presses_44 : decode cX10_presses 44 = .ok (.iconst 0, 1) := by decide +kernel
theorem dX10_presses_45 : decode cX10_presses 45 = .ok (.invokevirtual 117, 3) := by decide +kernel
theorem dX10_presses_48 : decode cX10_presses 48 = .ok (.iadd, 1) := by decide +kernel
theorem dX10_presses_49 : decode cX10_presses 49 = .ok (.iaload, 1) := by decide +kernel
theorem dX10_presses_50 : decode cX10_presses 50 = .ok (.i2l, 1) := by decide +kernel
theorem dX10_presses_51 : decode cX10_presses 51 = .ok (.ldiv, 1) := by decide +kernel
theorem dX10_presses_52 : decode cX10_presses 52 = .ok (.lstore 5, 2) := by decide +kernel
theorem dX10_presses_54 : decode cX10_presses 54 = .ok (.iload 4, 2) := by decide +kernel
theorem dX10_presses_56 : decode cX10_presses 56 = .ok (.i2l, 1) := by decide +kernel
theorem dX10_presses_57 : decode cX10_presses 57 = .ok (.lload 5, 2) := by decide +kernel
theorem dX10_presses_59 : decode cX10_presses 59 = .ok (.lsub, 1) := by decide +kernel
theorem dX10_presses_60 : decode cX10_presses 60 = .ok (.lstore 7, 2) := by decide +kernel
theorem dX10_presses_62 : decode cX10_presses 62 = .ok (.aload_n 0, 1) := by decide +kernel
theorem dX10_presses_63 : decode cX10_presses 63 = .ok (.iload_n 1, 1) := by decide +kernel
theorem dX10_presses_64 : decode cX10_presses 64 = .ok (.iload_n 2, 1) := by decide +kernel
theorem dX10_presses_65 : decode cX10_presses 65 = .ok (.iload_n 3, 1) := by decide +kernel
theorem dX10_presses_66 : decode cX10_presses 66 = .ok (.invokevirtual 125, 3) := by decide +kernel
theorem dX10_presses_69 : decode cX10_presses 69 = .ok (.istore 9, 2) := by decide +kernel
theorem dX10_presses_71 : decode cX10_presses 71 = .ok (.aload_n 0, 1) := by decide +kernel
theorem dX10_presses_72 : decode cX10_presses 72 = .ok (.iload_n 1, 1) := by decide +kernel
theorem dX10_presses_73 : decode cX10_presses 73 = .ok (.iload_n 2, 1) := by decide +kernel
theorem dX10_presses_74 : decode cX10_presses 74 = .ok (.iload_n 3, 1) := by decide +kernel
theorem dX10_presses_75 : decode cX10_presses 75 = .ok (.iconst 3, 1) := by decide +kernel
theorem dX10_presses_76 : decode cX10_presses 76 = .ok (.lload 7, 2) := by decide +kernel
theorem dX10_presses_78 : decode cX10_presses 78 = .ok (.iload 9, 2) := by decide +kernel
theorem dX10_presses_80 : decode cX10_presses 80 = .ok (.i2l, 1) := by decide +kernel
theorem dX10_presses_81 : decode cX10_presses 81 = .ok (.lcmp, 1) := by decide +kernel
theorem dX10_presses_82 : decode cX10_presses 82 = .ok (.ifCond .ge 8, 3) := by decide +kernel
theorem dX10_presses_90 : decode cX10_presses 90 = .ok (.lload 7, 2) := by decide +kernel
theorem dX10_presses_92 : decode cX10_presses 92 = .ok (.l2i, 1) := by decide +kernel
theorem dX10_presses_93 : decode cX10_presses 93 = .ok (.invokevirtual 131, 3) := by decide +kernel
theorem dX10_presses_96 : decode cX10_presses 96 = .ok (.iinc 3 1, 3) := by decide +kernel
theorem dX10_presses_99 : decode cX10_presses 99 = .ok (.goto (-97), 3) := by decide +kernel
theorem dX10_presses_85 : decode cX10_presses 85 = .ok (.iload 9, 2) := by decide +kernel
theorem dX10_presses_87 : decode cX10_presses 87 = .ok (.goto 6, 3) := by decide +kernel
theorem dX10_presses_0 : decode cX10_presses 0 = .ok (.iconst 0, 1) := by decide +kernel
theorem dX10_presses_1 : decode cX10_presses 1 = .ok (.istore_n 3, 1) := by decide +kernel
theorem dX10_evens_41 : decode cX10_evens 41 = .ok (.iload 4, 2) := by decide +kernel
theorem dX10_evens_43 : decode cX10_evens 43 = .ok (.iload_n 3, 1) := by decide +kernel
theorem dX10_evens_44 : decode cX10_evens 44 = .ok (.if_icmp .ge 115, 3) := by decide +kernel
theorem dX10_evens_159 : decode cX10_evens 159 = .ok (.return_, 1) := by decide +kernel
theorem dX10_evens_47 : decode cX10_evens 47 = .ok (.aload_n 0, 1) := by decide +kernel
theorem dX10_evens_48 : decode cX10_evens 48 = .ok (.getfield 59, 3) := by decide +kernel
theorem dX10_evens_51 : decode cX10_evens 51 = .ok (.iload 4, 2) := by decide +kernel
theorem dX10_evens_53 : decode cX10_evens 53 = .ok (.iaload, 1) := by decide +kernel
theorem dX10_evens_54 : decode cX10_evens 54 = .ok (.istore 5, 2) := by decide +kernel
theorem dX10_evens_56 : decode cX10_evens 56 = .ok (.iload 4, 2) := by decide +kernel
theorem dX10_evens_58 : decode cX10_evens 58 = .ok (.iconst 1, 1) := by decide +kernel
theorem dX10_evens_59 : decode cX10_evens 59 = .ok (.iadd, 1) := by decide +kernel
theorem dX10_evens_60 : decode cX10_evens 60 = .ok (.iload_n 3, 1) := by decide +kernel
theorem dX10_evens_61 : decode cX10_evens 61 = .ok (.if_icmp .ge 28, 3) := by decide +kernel
theorem dX10_evens_89 : decode cX10_evens 89 = .ok (.iload 4, 2) := by decide +kernel
theorem dX10_evens_91 : decode cX10_evens 91 = .ok (.ifCond .le 28, 3) := by decide +kernel
theorem dX10_evens_119 : decode cX10_evens 119 = .ok (.iload 4, 2) := by decide +kernel
theorem dX10_evens_121 : decode cX10_evens 121 = .ok (.ifCond .ne 17, 3) := by decide +kernel
theorem dX10_evens_138 : decode cX10_evens 138 = .ok (.aload_n 0, 1) := by decide +kernel
theorem dX10_evens_139 : decode cX10_evens 139 = .ok (.iload_n 1, 1) := by decide +kernel
theorem dX10_evens_140 : decode cX10_evens 140 = .ok (.iload_n 2, 1) := by decide +kernel
theorem dX10_evens_141 : decode cX10_evens 141 = .ok (.iload 4, 2) := by decide +kernel
theorem dX10_evens_143 : decode cX10_evens 143 = .ok (.iconst 4, 1) := by decide +kernel
theorem dX10_evens_144 : decode cX10_evens 144 = .ok (.iload 5, 2) := by decide +kernel
theorem dX10_evens_146 : decode cX10_evens 146 = .ok (.iconst 0, 1) := by decide +kernel
theorem dX10_evens_147 : decode cX10_evens 147 = .ok (.invokestatic 143, 3) := by decide +kernel
theorem dX10_evens_150 : decode cX10_evens 150 = .ok (.invokevirtual 131, 3) := by decide +kernel
theorem dX10_evens_153 : decode cX10_evens 153 = .ok (.iinc 4 1, 3) := by decide +kernel
theorem dX10_evens_156 : decode cX10_evens 156 = .ok (.goto (-115), 3) := by decide +kernel
theorem dX10_evens_124 : decode cX10_evens 124 = .ok (.iload 5, 2) := by decide +kernel
theorem dX10_evens_126 : decode cX10_evens 126 = .ok (.aload_n 0, 1) := by decide +kernel
theorem dX10_evens_127 : decode cX10_evens 127 = .ok (.getfield 59, 3) := by decide +kernel
theorem dX10_evens_130 : decode cX10_evens 130 = .ok (.iconst 0, 1) := by decide +kernel
theorem dX10_evens_131 : decode cX10_evens 131 = .ok (.iaload, 1) := by decide +kernel
theorem dX10_evens_132 : decode cX10_evens 132 = .ok (.bipush 8, 2) := by decide +kernel
theorem dX10_evens_134 : decode cX10_evens 134 = .ok (.idiv, 1) := by decide +kernel
theorem dX10_evens_135 : decode cX10_evens 135 = .ok (.isub, 1) := by decide +kernel
theorem dX10_evens_136 : decode cX10_evens 136 = .ok (.istore 5, 2) := by decide +kernel
theorem dX10_evens_94 : decode cX10_evens 94 = .ok (.iload 5, 2) := by decide +kernel
theorem dX10_evens_96 : decode cX10_evens 96 = .ok (.aload_n 0, 1) := by decide +kernel
theorem dX10_evens_97 : decode cX10_evens 97 = .ok (.getfield 59, 3) := by decide +kernel
theorem dX10_evens_100 : decode cX10_evens 100 = .ok (.iload 4, 2) := by decide +kernel
theorem dX10_evens_102 : decode cX10_evens 102 = .ok (.iaload, 1) := by decide +kernel
theorem dX10_evens_103 : decode cX10_evens 103 = .ok (.aload_n 0, 1) := by decide +kernel
theorem dX10_evens_104 : decode cX10_evens 104 = .ok (.getfield 59, 3) := by decide +kernel
theorem dX10_evens_107 : decode cX10_evens 107 = .ok (.iload 4, 2) := by decide +kernel
theorem dX10_evens_109 : decode cX10_evens 109 = .ok (.iconst 1, 1) := by decide +kernel
theorem dX10_evens_110 : decode cX10_evens 110 = .ok (.isub, 1) := by decide +kernel
theorem dX10_evens_111 : decode cX10_evens 111 = .ok (.iaload, 1) := by decide +kernel
theorem dX10_evens_112 : decode cX10_evens 112 = .ok (.isub, 1) := by decide +kernel
theorem dX10_evens_113 : decode cX10_evens 113 = .ok (.bipush 8, 2) := by decide +kernel
theorem dX10_evens_115 : decode cX10_evens 115 = .ok (.idiv, 1) := by decide +kernel
theorem dX10_evens_116 : decode cX10_evens 116 = .ok (.isub, 1) := by decide +kernel
theorem dX10_evens_117 : decode cX10_evens 117 = .ok (.istore 5, 2) := by decide +kernel
theorem dX10_evens_64 : decode cX10_evens 64 = .ok (.iload 5, 2) := by decide +kernel
theorem dX10_evens_66 : decode cX10_evens 66 = .ok (.aload_n 0, 1) := by decide +kernel
theorem dX10_evens_67 : decode cX10_evens 67 = .ok (.getfield 59, 3) := by decide +kernel
theorem dX10_evens_70 : decode cX10_evens 70 = .ok (.iload 4, 2) := by decide +kernel
theorem dX10_evens_72 : decode cX10_evens 72 = .ok (.iconst 1, 1) := by decide +kernel
theorem dX10_evens_73 : decode cX10_evens 73 = .ok (.iadd, 1) := by decide +kernel
theorem dX10_evens_74 : decode cX10_evens 74 = .ok (.iaload, 1) := by decide +kernel
theorem dX10_evens_75 : decode cX10_evens 75 = .ok (.aload_n 0, 1) := by decide +kernel
theorem dX10_evens_76 : decode cX10_evens 76 = .ok (.getfield 59, 3) := by decide +kernel
theorem dX10_evens_79 : decode cX10_evens 79 = .ok (.iload 4, 2) := by decide +kernel
theorem dX10_evens_81 : decode cX10_evens 81 = .ok (.iaload, 1) := by decide +kernel
theorem dX10_evens_82 : decode cX10_evens 82 = .ok (.isub, 1) := by decide +kernel
theorem dX10_evens_83 : decode cX10_evens 83 = .ok (.bipush 8, 2) := by decide +kernel
theorem dX10_evens_85 : decode cX10_evens 85 = .ok (.idiv, 1) := by decide +kernel
theorem dX10_evens_86 : decode cX10_evens 86 = .ok (.iadd, 1) := by decide +kernel
theorem dX10_evens_87 : decode cX10_evens 87 = .ok (.istore 5, 2) := by decide +kernel
theorem dX10_evens_10 : decode cX10_evens 10 = .ok (.iload 4, 2) := by decide +kernel
theorem dX10_evens_12 : decode cX10_evens 12 = .ok (.iload_n 3, 1) := by decide +kernel
theorem dX10_evens_13 : decode cX10_evens 13 = .ok (.if_icmp .ge 25, 3) := by decide +kernel
theorem dX10_evens_38 : decode cX10_evens 38 = .ok (.iconst 0, 1) := by decide +kernel
theorem dX10_evens_39 : decode cX10_evens 39 = .ok (.istore 4, 2) := by decide +kernel
theorem dX10_evens_16 : decode cX10_evens 16 = .ok (.aload_n 0, 1) := by decide +kernel
theorem dX10_evens_17 : decode cX10_evens 17 = .ok (.getfield 59, 3) := by decide +kernel
theorem dX10_evens_20 : decode cX10_evens 20 = .ok (.iload 4, 2) := by decide +kernel
theorem dX10_evens_22 : decode cX10_evens 22 = .ok (.aload_n 0, 1) := by decide +kernel
theorem dX10_evens_23 : decode cX10_evens 23 = .ok (.iload_n 1, 1) := by decide +kernel
theorem dX10_evens_24 : decode cX10_evens 24 = .ok (.iload_n 2, 1) := by decide +kernel
theorem dX10_evens_25 : decode cX10_evens 25 = .ok (.iload 4, 2) := by decide +kernel
theorem dX10_evens_27 : decode cX10_evens 27 = .ok (.iconst 4, 1) := by decide +kernel
theorem dX10_evens_28 : decode cX10_evens 28 = .ok (.invokevirtual 117, 3) := by decide +kernel
theorem dX10_evens_31 : decode cX10_evens 31 = .ok (.iastore, 1) := by decide +kernel
theorem dX10_evens_32 : decode cX10_evens 32 = .ok (.iinc 4 1, 3) := by decide +kernel
theorem dX10_evens_35 : decode cX10_evens 35 = .ok (.goto (-25), 3) := by decide +kernel
theorem dX10_evens_0 : decode cX10_evens 0 = .ok (.aload_n 0, 1) := by decide +kernel
theorem dX10_evens_1 : decode cX10_evens 1 = .ok (.iload_n 1, 1) := by decide +kernel
theorem dX10_evens_2 : decode cX10_evens 2 = .ok (.iload_n 2, 1) := by decide +kernel
theorem dX10_evens_3 : decode cX10_evens 3 = .ok (.invokevirtual 121, 3) := by decide +kernel
theorem dX10_evens_6 : decode cX10_evens 6 = .ok (.istore_n 3, 1) := by decide +kernel
theorem dX10_evens_7 : decode cX10_evens 7 = .ok (.iconst 0, 1) := by decide +kernel
theorem dX10_evens_8 : decode cX10_evens 8 = .ok (.istore 4, 2) := by decide +kernel
theorem dX10_ages_39 : decode cX10_ages 39 = .ok (.iload 4, 2) := by decide +kernel
theorem dX10_ages_41 : decode cX10_ages 41 = .ok (.aload_n 0, 1) := by decide +kernel
theorem dX10_ages_42 : decode cX10_ages 42 = .ok (.iload_n 1, 1) := by decide +kernel
theorem dX10_ages_43 : decode cX10_ages 43 = .ok (.iload_n 2, 1) := by decide +kernel
theorem dX10_ages_44 : decode cX10_ages 44 = .ok (.invokevirtual 121, 3) := by decide +kernel
theorem dX10_ages_47 : decode cX10_ages 47 = .ok (.if_icmp .ge 45, 3) := by decide +kernel
theorem dX10_ages_92 : decode cX10_ages 92 = .ok (.return_, 1) := by decide +kernel
theorem dX10_ages_50 : decode cX10_ages 50 = .ok (.aload_n 0, 1) := by decide +kernel
theorem dX10_ages_51 : decode cX10_ages 51 = .ok (.iload_n 1, 1) := by decide +kernel
theorem dX10_ages_52 : decode cX10_ages 52 = .ok (.iload_n 2, 1) := by decide +kernel
theorem dX10_ages_53 : decode cX10_ages 53 = .ok (.iload 4, 2) := by decide +kernel
theorem dX10_ages_55 : decode cX10_ages 55 = .ok (.iconst 0, 1) := by decide +kernel
theorem dX10_ages_56 : decode cX10_ages 56 = .ok (.aload_n 0, 1) := by decide +kernel
theorem dX10_ages_57 : decode cX10_ages 57 = .ok (.getfield 62, 3) := by decide +kernel
theorem dX10_ages_60 : decode cX10_ages 60 = .ok (.iload 4, 2) := by decide +kernel
theorem dX10_ages_62 : decode cX10_ages 62 = .ok (.iaload, 1) := by decide +kernel
theorem dX10_ages_63 : decode cX10_ages 63 = .ok (.invokevirtual 131, 3) := by decide +kernel
theorem dX10_ages_66 : decode cX10_ages 66 = .ok (.aload_n 0, 1) := by decide +kernel
theorem dX10_ages_67 : decode cX10_ages 67 = .ok (.iload_n 1, 1) := by decide +kernel
theorem dX10_ages_68 : decode cX10_ages 68 = .ok (.iload_n 2, 1) := by decide +kernel
theorem dX10_ages_69 : decode cX10_ages 69 = .ok (.iload 4, 2) := by decide +kernel
theorem dX10_ages_71 : decode cX10_ages 71 = .ok (.iconst 5, 1) := by decide +kernel
theorem dX10_ages_72 : decode cX10_ages 72 = .ok (.aload_n 0, 1) := by decide +kernel
theorem dX10_ages_73 : decode cX10_ages 73 = .ok (.iload_n 1, 1) := by decide +kernel
theorem dX10_ages_74 : decode cX10_ages 74 = .ok (.iload_n 2, 1) := by decide +kernel
theorem dX10_ages_75 : decode cX10_ages 75 = .ok (.iload 4, 2) := by decide +kernel
theorem dX10_ages_77 : decode cX10_ages 77 = .ok (.iconst 5, 1) := by decide +kernel
theorem dX10_ages_78 : decode cX10_ages 78 = .ok (.invokevirtual 117, 3) := by decide +kernel
theorem dX10_ages_81 : decode cX10_ages 81 = .ok (.iconst 1, 1) := by decide +kernel
theorem dX10_ages_82 : decode cX10_ages 82 = .ok (.iadd, 1) := by decide +kernel
theorem dX10_ages_83 : decode cX10_ages 83 = .ok (.invokevirtual 131, 3) := by decide +kernel
theorem dX10_ages_86 : decode cX10_ages 86 = .ok (.iinc 4 1, 3) := by decide +kernel
theorem dX10_ages_89 : decode cX10_ages 89 = .ok (.goto (-50), 3) := by decide +kernel
theorem dX10_ages_3 : decode cX10_ages 3 = .ok (.iload 4, 2) := by decide +kernel
theorem dX10_ages_5 : decode cX10_ages 5 = .ok (.aload_n 0, 1) := by decide +kernel
theorem dX10_ages_6 : decode cX10_ages 6 = .ok (.iload_n 1, 1) := by decide +kernel
theorem dX10_ages_7 : decode cX10_ages 7 = .ok (.iload_n 2, 1) := by decide +kernel
theorem dX10_ages_8 : decode cX10_ages 8 = .ok (.invokevirtual 121, 3) := by decide +kernel
theorem dX10_ages_11 : decode cX10_ages 11 = .ok (.if_icmp .ge 25, 3) := by decide +kernel
theorem dX10_ages_36 : decode cX10_ages 36 = .ok (.iconst 0, 1) := by decide +kernel
theorem dX10_ages_37 : decode cX10_ages 37 = .ok (.istore 4, 2) := by decide +kernel
theorem dX10_ages_14 : decode cX10_ages 14 = .ok (.aload_n 0, 1) := by decide +kernel
theorem dX10_ages_15 : decode cX10_ages 15 = .ok (.getfield 62, 3) := by decide +kernel
theorem dX10_ages_18 : decode cX10_ages 18 = .ok (.iload 4, 2) := by decide +kernel
theorem dX10_ages_20 : decode cX10_ages 20 = .ok (.aload_n 0, 1) := by decide +kernel
theorem dX10_ages_21 : decode cX10_ages 21 = .ok (.iload_n 1, 1) := by decide +kernel
theorem dX10_ages_22 : decode cX10_ages 22 = .ok (.iload_n 2, 1) := by decide +kernel
theorem dX10_ages_23 : decode cX10_ages 23 = .ok (.iload 4, 2) := by decide +kernel
theorem dX10_ages_25 : decode cX10_ages 25 = .ok (.iload_n 3, 1) := by decide +kernel
theorem dX10_ages_26 : decode cX10_ages 26 = .ok (.invokevirtual 192, 3) := by decide +kernel
theorem dX10_ages_29 : decode cX10_ages 29 = .ok (.iastore, 1) := by decide +kernel
theorem dX10_ages_30 : decode cX10_ages 30 = .ok (.iinc 4 1, 3) := by decide +kernel
theorem dX10_ages_33 : decode cX10_ages 33 = .ok (.goto (-30), 3) := by decide +kernel
theorem dX10_ages_0 : decode cX10_ages 0 = .ok (.iconst 0, 1) := by decide +kernel
theorem dX10_ages_1 : decode cX10_ages 1 = .ok (.istore 4, 2) := by decide +kernel
