-- decode rows of packm
theorem dX3_wet_0 : decode cX3_wet 0 = .ok (.iload_n 1, 1) := by decide +kernel
theorem dX3_wet_1 : decode cX3_wet 1 = .ok (.ifCond .le 21, 3) := by decide +kernel
theorem dX3_wet_22 : decode cX3_wet 22 = .ok (.aload_n 0, 1) := by decide +kernel
theorem dX3_wet_23 : decode cX3_wet 23 = .ok (.dup, 1) := by decide +kernel
theorem dX3_wet_24 : decode cX3_wet 24 = .ok (.getfield 15, 3) := by decide +kernel
theorem dX3_wet_27 : decode cX3_wet 27 = .ok (.iload_n 2, 1) := by decide +kernel
theorem dX3_wet_28 : decode cX3_wet 28 = .ok (.iadd, 1) := by decide +kernel
theorem dX3_wet_29 : decode cX3_wet 29 = .ok (.putfield 15, 3) := by decide +kernel
theorem dX3_wet_32 : decode cX3_wet 32 = .ok (.return_, 1) := by decide +kernel
theorem dX3_wet_4 : decode cX3_wet 4 = .ok (.aload_n 0, 1) := by decide +kernel
theorem dX3_wet_5 : decode cX3_wet 5 = .ok (.getfield 18, 3) := by decide +kernel
theorem dX3_wet_8 : decode cX3_wet 8 = .ok (.bipush 24, 2) := by decide +kernel
theorem dX3_wet_10 : decode cX3_wet 10 = .ok (.iload_n 1, 1) := by decide +kernel
theorem dX3_wet_11 : decode cX3_wet 11 = .ok (.iadd, 1) := by decide +kernel
theorem dX3_wet_12 : decode cX3_wet 12 = .ok (.iconst 1, 1) := by decide +kernel
theorem dX3_wet_13 : decode cX3_wet 13 = .ok (.isub, 1) := by decide +kernel
theorem dX3_wet_14 : decode cX3_wet 14 = .ok (.dup2, 1) := by decide +kernel
theorem dX3_wet_15 : decode cX3_wet 15 = .ok (.iaload, 1) := by decide +kernel
theorem dX3_wet_16 : decode cX3_wet 16 = .ok (.iload_n 2, 1) := by decide +kernel
theorem dX3_wet_17 : decode cX3_wet 17 = .ok (.iadd, 1) := by decide +kernel
theorem dX3_wet_18 : decode cX3_wet 18 = .ok (.iastore, 1) := by decide +kernel
theorem dX3_wet_19 : decode cX3_wet 19 = .ok (.goto 13, 3) := by decide +kernel
theorem dX3_add_0 : decode cX3_add 0 = .ok (.aload_n 0, 1) := by decide +kernel
theorem dX3_add_1 : decode cX3_add 1 = .ok (.getfield 9, 3) := by decide +kernel
theorem dX3_add_4 : decode cX3_add 4 = .ok (.bipush 12, 2) := by decide +kernel
theorem dX3_add_6 : decode cX3_add 6 = .ok (.if_icmp .ge 106, 3) := by decide +kernel
theorem dX3_add_112 : decode cX3_add 112 = .ok (.return_, 1) := by decide +kernel
theorem dX3_add_9 : decode cX3_add 9 = .ok (.aload_n 0, 1) := by decide +kernel
theorem dX3_add_10 : decode cX3_add 10 = .ok (.getfield 18, 3) := by decide +kernel
theorem dX3_add_13 : decode cX3_add 13 = .ok (.iconst 0, 1) := by decide +kernel
theorem dX3_add_14 : decode cX3_add 14 = .ok (.aload_n 0, 1) := by decide +kernel
theorem dX3_add_15 : decode cX3_add 15 = .ok (.getfield 9, 3) := by decide +kernel
theorem dX3_add_18 : decode cX3_add 18 = .ok (.iadd, 1) := by decide +kernel
theorem dX3_add_19 : decode cX3_add 19 = .ok (.iload_n 1, 1) := by decide +kernel
theorem dX3_add_20 : decode cX3_add 20 = .ok (.iastore, 1) := by decide +kernel
theorem dX3_add_21 : decode cX3_add 21 = .ok (.aload_n 0, 1) := by decide +kernel
theorem dX3_add_22 : decode cX3_add 22 = .ok (.getfield 18, 3) := by decide +kernel
theorem dX3_add_25 : decode cX3_add 25 = .ok (.bipush 12, 2) := by decide +kernel
theorem dX3_add_27 : decode cX3_add 27 = .ok (.aload_n 0, 1) := by decide +kernel
theorem dX3_add_28 : decode cX3_add 28 = .ok (.getfield 9, 3) := by decide +kernel
theorem dX3_add_31 : decode cX3_add 31 = .ok (.iadd, 1) := by decide +kernel
theorem dX3_add_32 : decode cX3_add 32 = .ok (.iload_n 2, 1) := by decide +kernel
theorem dX3_add_33 : decode cX3_add 33 = .ok (.iastore, 1) := by decide +kernel
theorem dX3_add_34 : decode cX3_add 34 = .ok (.aload_n 0, 1) := by decide +kernel
theorem dX3_add_35 : decode cX3_add 35 = .ok (.getfield 18, 3) := by decide +kernel
theorem dX3_add_38 : decode cX3_add 38 = .ok (.bipush 24, 2) := by decide +kernel
theorem dX3_add_40 : decode cX3_add 40 = .ok (.aload_n 0, 1) := by decide +kernel
theorem dX3_add_41 : decode cX3_add 41 = .ok (.getfield 9, 3) := by decide +kernel
theorem dX3_add_44 : decode cX3_add 44 = .ok (.iadd, 1) := by decide +kernel
theorem dX3_add_45 : decode cX3_add 45 = .ok (.iload_n 3, 1) := by decide +kernel
theorem dX3_add_46 : decode cX3_add 46 = .ok (.iastore, 1) := by decide +kernel
theorem dX3_add_47 : decode cX3_add 47 = .ok (.aload_n 0, 1) := by decide +kernel
theorem dX3_add_48 : decode cX3_add 48 = .ok (.getfield 18, 3) := by decide +kernel
theorem dX3_add_51 : decode cX3_add 51 = .ok (.bipush 36, 2) := by decide +kernel
theorem dX3_add_53 : decode cX3_add 53 = .ok (.aload_n 0, 1) := by decide +kernel
theorem dX3_add_54 : decode cX3_add 54 = .ok (.getfield 9, 3) := by decide +kernel
theorem dX3_add_57 : decode cX3_add 57 = .ok (.iadd, 1) := by decide +kernel
theorem dX3_add_58 : decode cX3_add 58 = .ok (.iload 4, 2) := by decide +kernel
theorem dX3_add_60 : decode cX3_add 60 = .ok (.iastore, 1) := by decide +kernel
theorem dX3_add_61 : decode cX3_add 61 = .ok (.aload_n 0, 1) := by decide +kernel
theorem dX3_add_62 : decode cX3_add 62 = .ok (.getfield 18, 3) := by decide +kernel
theorem dX3_add_65 : decode cX3_add 65 = .ok (.bipush 48, 2) := by decide +kernel
theorem dX3_add_67 : decode cX3_add 67 = .ok (.aload_n 0, 1) := by decide +kernel
theorem dX3_add_68 : decode cX3_add 68 = .ok (.getfield 9, 3) := by decide +kernel
theorem dX3_add_71 : decode cX3_add 71 = .ok (.iadd, 1) := by decide +kernel
theorem dX3_add_72 : decode cX3_add 72 = .ok (.iload 5, 2) := by decide +kernel
theorem dX3_add_74 : decode cX3_add 74 = .ok (.iastore, 1) := by decide +kernel
theorem dX3_add_75 : decode cX3_add 75 = .ok (.aload_n 0, 1) := by decide +kernel
theorem dX3_add_76 : decode cX3_add 76 = .ok (.getfield 18, 3) := by decide +kernel
theorem dX3_add_79 : decode cX3_add 79 = .ok (.bipush 60, 2) := by decide +kernel
theorem dX3_add_81 : decode cX3_add 81 = .ok (.aload_n 0, 1) := by decide +kernel
theorem dX3_add_82 : decode cX3_add 82 = .ok (.getfield 9, 3) := by decide +kernel
theorem dX3_add_85 : decode cX3_add 85 = .ok (.iadd, 1) := by decide +kernel
theorem dX3_add_86 : decode cX3_add 86 = .ok (.iconst 0, 1) := by decide +kernel
theorem dX3_add_87 : decode cX3_add 87 = .ok (.iastore, 1) := by decide +kernel
theorem dX3_add_88 : decode cX3_add 88 = .ok (.aload_n 0, 1) := by decide +kernel
theorem dX3_add_89 : decode cX3_add 89 = .ok (.getfield 18, 3) := by decide +kernel
theorem dX3_add_92 : decode cX3_add 92 = .ok (.bipush 72, 2) := by decide +kernel
theorem dX3_add_94 : decode cX3_add 94 = .ok (.aload_n 0, 1) := by decide +kernel
theorem dX3_add_95 : decode cX3_add 95 = .ok (.getfield 9, 3) := by decide +kernel
theorem dX3_add_98 : decode cX3_add 98 = .ok (.iadd, 1) := by decide +kernel
theorem dX3_add_99 : decode cX3_add 99 = .ok (.iload 6, 2) := by decide +kernel
theorem dX3_add_101 : decode cX3_add 101 = .ok (.iastore, 1) := by decide +kernel
theorem dX3_add_102 : decode cX3_add 102 = .ok (.aload_n 0, 1) := by decide +kernel
theorem dX3_add_103 : decode cX3_add 103 = .ok (.dup, 1) := by decide +kernel
theorem dX3_add_104 : decode cX3_add 104 = .ok (.getfield 9, 3) := by decide +kernel
theorem dX3_add_107 : decode cX3_add 107 = .ok (.iconst 1, 1) := by decide +kernel
theorem dX3_add_108 : decode cX3_add 108 = .ok (.iadd, 1) := by decide +kernel
theorem dX3_add_109 : decode cX3_add 109 = .ok (.putfield 9, 3) := by decide +kernel
theorem dX3_cool_0 : decode cX3_cool 0 = .ok (.aload_n 0, 1) := by decide +kernel
theorem dX3_cool_1 : decode cX3_cool 1 = .ok (.getfield 9, 3) := by decide +kernel
theorem dX3_cool_4 : decode cX3_cool 4 = .ok (.ifCond .le 32, 3) := by decide +kernel
theorem dX3_cool_36 : decode cX3_cool 36 = .ok (.return_, 1) := by decide +kernel
theorem dX3_cool_7 : decode cX3_cool 7 = .ok (.bipush 48, 2) := by decide +kernel
theorem dX3_cool_9 : decode cX3_cool 9 = .ok (.aload_n 0, 1) := by decide +kernel
theorem dX3_cool_10 : decode cX3_cool 10 = .ok (.getfield 9, 3) := by decide +kernel
theorem dX3_cool_13 : decode cX3_cool 13 = .ok (.iadd, 1) := by decide +kernel
theorem dX3_cool_14 : decode cX3_cool 14 = .ok (.iconst 1, 1) := by decide +kernel
theorem dX3_cool_15 : decode cX3_cool 15 = .ok (.isub, 1) := by decide +kernel
theorem dX3_cool_16 : decode cX3_cool 16 = .ok (.istore_n 2, 1) := by decide +kernel
theorem dX3_cool_17 : decode cX3_cool 17 = .ok (.aload_n 0, 1) := by decide +kernel
theorem dX3_cool_18 : decode cX3_cool 18 = .ok (.getfield 18, 3) := by decide +kernel
theorem dX3_cool_21 : decode cX3_cool 21 = .ok (.iload_n 2, 1) := by decide +kernel
theorem dX3_cool_22 : decode cX3_cool 22 = .ok (.dup2, 1) := by decide +kernel
theorem dX3_cool_23 : decode cX3_cool 23 = .ok (.iaload, 1) := by decide +kernel
theorem dX3_cool_24 : decode cX3_cool 24 = .ok (.iload_n 1, 1) := by decide +kernel
theorem dX3_cool_25 : decode cX3_cool 25 = .ok (.aload_n 0, 1) := by decide +kernel
theorem dX3_cool_26 : decode cX3_cool 26 = .ok (.getfield 18, 3) := by decide +kernel
theorem dX3_cool_29 : decode cX3_cool 29 = .ok (.iload_n 2, 1) := by decide +kernel
theorem dX3_cool_30 : decode cX3_cool 30 = .ok (.iaload, 1) := by decide +kernel
theorem dX3_cool_31 : decode cX3_cool 31 = .ok (.isub, 1) := by decide +kernel
theorem dX3_cool_32 : decode cX3_cool 32 = .ok (.iconst 4, 1) := by decide +kernel
theorem dX3_cool_33 : decode cX3_cool 33 = .ok (.idiv, 1) := by decide +kernel
theorem dX3_cool_34 : decode cX3_cool 34 = .ok (.iadd, 1) := by decide +kernel
theorem dX3_cool_35 : decode cX3_cool 35 = .ok (.iastore, 1) := by decide +kernel
theorem dX3_clear_0 : decode cX3_clear 0 = .ok (.aload_n 0, 1) := by decide +kernel
theorem dX3_clear_1 : decode cX3_clear 1 = .ok (.iconst 0, 1) := by decide +kernel
theorem dX3_clear_2 : decode cX3_clear 2 = .ok (.putfield 9, 3) := by decide +kernel
theorem dX3_clear_5 : decode cX3_clear 5 = .ok (.aload_n 0, 1) := by decide +kernel
theorem dX3_clear_6 : decode cX3_clear 6 = .ok (.iconst 0, 1) := by decide +kernel
theorem dX3_clear_7 : decode cX3_clear 7 = .ok (.putfield 15, 3) := by decide +kernel
theorem dX3_clear_10 : decode cX3_clear 10 = .ok (.return_, 1) := by decide +kernel
theorem dX3_freeze_0 : decode cX3_freeze 0 = .ok (.aload_n 0, 1) := by decide +kernel
theorem dX3_freeze_1 : decode cX3_freeze 1 = .ok (.getfield 18, 3) := by decide +kernel
theorem dX3_freeze_4 : decode cX3_freeze 4 = .ok (.bipush 12, 2) := by decide +kernel
theorem dX3_freeze_6 : decode cX3_freeze 6 = .ok (.iload_n 1, 1) := by decide +kernel
theorem dX3_freeze_7 : decode cX3_freeze 7 = .ok (.iadd, 1) := by decide +kernel
theorem dX3_freeze_8 : decode cX3_freeze 8 = .ok (.iaload, 1) := by decide +kernel
theorem dX3_freeze_9 : decode cX3_freeze 9 = .ok (.istore_n 2, 1) := by decide +kernel
theorem dX3_freeze_10 : decode cX3_freeze 10 = .ok (.aload_n 0, 1) := by decide +kernel
theorem dX3_freeze_11 : decode cX3_freeze 11 = .ok (.getfield 18, 3) := by decide +kernel
theorem dX3_freeze_14 : decode cX3_freeze 14 = .ok (.bipush 48, 2) := by decide +kernel
theorem dX3_freeze_16 : decode cX3_freeze 16 = .ok (.iload_n 1, 1) := by decide +kernel
theorem dX3_freeze_17 : decode cX3_freeze 17 = .ok (.iadd, 1) := by decide +kernel
theorem dX3_freeze_18 : decode cX3_freeze 18 = .ok (.iaload, 1) := by decide +kernel
theorem dX3_freeze_19 : decode cX3_freeze 19 = .ok (.ineg, 1) := by decide +kernel
theorem dX3_freeze_20 : decode cX3_freeze 20 = .ok (.istore_n 3, 1) := by decide +kernel
theorem dX3_freeze_21 : decode cX3_freeze 21 = .ok (.iload_n 2, 1) := by decide +kernel
theorem dX3_freeze_22 : decode cX3_freeze 22 = .ok (.i2l, 1) := by decide +kernel
theorem dX3_freeze_23 : decode cX3_freeze 23 = .ok (.iload_n 3, 1) := by decide +kernel
theorem dX3_freeze_24 : decode cX3_freeze 24 = .ok (.i2l, 1) := by decide +kernel
theorem dX3_freeze_25 : decode cX3_freeze 25 = .ok (.lmul, 1) := by decide +kernel
theorem dX3_freeze_26 : decode cX3_freeze 26 = .ok (.ldc2_w 62, 3) := by decide +kernel
theorem dX3_freeze_29 : decode cX3_freeze 29 = .ok (.invokestatic 36, 3) := by decide +kernel
theorem dX3_freeze_32 : decode cX3_freeze 32 = .ok (.aload_n 0, 1) := by decide +kernel
theorem dX3_freeze_33 : decode cX3_freeze 33 = .ok (.getfield 18, 3) := by decide +kernel
theorem dX3_freeze_36 : decode cX3_freeze 36 = .ok (.bipush 24, 2) := by decide +kernel
theorem dX3_freeze_38 : decode cX3_freeze 38 = .ok (.iload_n 1, 1) := by decide +kernel
theorem dX3_freeze_39 : decode cX3_freeze 39 = .ok (.iadd, 1) := by decide +kernel
theorem dX3_freeze_40 : decode cX3_freeze 40 = .ok (.iaload, 1) := by decide +kernel
theorem dX3_freeze_41 : decode cX3_freeze 41 = .ok (.invokestatic 46, 3) := by decide +kernel
theorem dX3_freeze_44 : decode cX3_freeze 44 = .ok (.istore 4, 2) := by decide +kernel
theorem dX3_freeze_46 : decode cX3_freeze 46 = .ok (.aload_n 0, 1) := by decide +kernel
theorem dX3_freeze_47 : decode cX3_freeze 47 = .ok (.getfield 18, 3) := by decide +kernel
theorem dX3_freeze_50 : decode cX3_freeze 50 = .ok (.bipush 12, 2) := by decide +kernel
theorem dX3_freeze_52 : decode cX3_freeze 52 = .ok (.iload_n 1, 1) := by decide +kernel
theorem dX3_freeze_53 : decode cX3_freeze 53 = .ok (.iadd, 1) := by decide +kernel
theorem dX3_freeze_54 : decode cX3_freeze 54 = .ok (.dup2, 1) := by decide +kernel
theorem dX3_freeze_55 : decode cX3_freeze 55 = .ok (.iaload, 1) := by decide +kernel
theorem dX3_freeze_56 : decode cX3_freeze 56 = .ok (.iload 4, 2) := by decide +kernel
theorem dX3_freeze_58 : decode cX3_freeze 58 = .ok (.iadd, 1) := by decide +kernel
theorem dX3_freeze_59 : decode cX3_freeze 59 = .ok (.iastore, 1) := by decide +kernel
theorem dX3_freeze_60 : decode cX3_freeze 60 = .ok (.aload_n 0, 1) := by decide +kernel
theorem dX3_freeze_61 : decode cX3_freeze 61 = .ok (.getfield 18, 3) := by decide +kernel
theorem dX3_freeze_64 : decode cX3_freeze 64 = .ok (.bipush 24, 2) := by decide +kernel
theorem dX3_freeze_66 : decode cX3_freeze 66 = .ok (.iload_n 1, 1) := by decide +kernel
theorem dX3_freeze_67 : decode cX3_freeze 67 = .ok (.iadd, 1) := by decide +kernel
theorem dX3_freeze_68 : decode cX3_freeze 68 = .ok (.dup2, 1) := by decide +kernel
theorem dX3_freeze_69 : decode cX3_freeze 69 = .ok (.iaload, 1) := by decide +kernel
theorem dX3_freeze_70 : decode cX3_freeze 70 = .ok (.iload 4, 2) := by decide +kernel
theorem dX3_freeze_72 : decode cX3_freeze 72 = .ok (.isub, 1) := by decide +kernel
theorem dX3_freeze_73 : decode cX3_freeze 73 = .ok (.iastore, 1) := by decide +kernel
theorem dX3_freeze_74 : decode cX3_freeze 74 = .ok (.aload_n 0, 1) := by decide +kernel
theorem dX3_freeze_75 : decode cX3_freeze 75 = .ok (.getfield 18, 3) := by decide +kernel
theorem dX3_freeze_78 : decode cX3_freeze 78 = .ok (.bipush 24, 2) := by decide +kernel
theorem dX3_freeze_80 : decode cX3_freeze 80 = .ok (.iload_n 1, 1) := by decide +kernel
theorem dX3_freeze_81 : decode cX3_freeze 81 = .ok (.iadd, 1) := by decide +kernel
theorem dX3_freeze_82 : decode cX3_freeze 82 = .ok (.iaload, 1) := by decide +kernel
theorem dX3_freeze_83 : decode cX3_freeze 83 = .ok (.ifCond .le 16, 3) := by decide +kernel
theorem dX3_freeze_99 : decode cX3_freeze 99 = .ok (.aload_n 0, 1) := by decide +kernel
theorem dX3_freeze_100 : decode cX3_freeze 100 = .ok (.getfield 18, 3) := by decide +kernel
theorem dX3_freeze_103 : decode cX3_freeze 103 = .ok (.bipush 48, 2) := by decide +kernel
theorem dX3_freeze_105 : decode cX3_freeze 105 = .ok (.iload_n 1, 1) := by decide +kernel
theorem dX3_freeze_106 : decode cX3_freeze 106 = .ok (.iadd, 1) := by decide +kernel
theorem dX3_freeze_107 : decode cX3_freeze 107 = .ok (.ldc2_w 62, 3) := by decide +kernel
theorem dX3_freeze_110 : decode cX3_freeze 110 = .ok (.iload 4, 2) := by decide +kernel
theorem dX3_freeze_112 : decode cX3_freeze 112 = .ok (.i2l, 1) := by decide +kernel
theorem dX3_freeze_113 : decode cX3_freeze 113 = .ok (.lmul, 1) := by decide +kernel
theorem dX3_freeze_114 : decode cX3_freeze 114 = .ok (.iload_n 2, 1) := by decide +kernel
theorem dX3_freeze_115 : decode cX3_freeze 115 = .ok (.i2l, 1) := by decide +kernel
theorem dX3_freeze_116 : decode cX3_freeze 116 = .ok (.invokestatic 36, 3) := by decide +kernel
theorem dX3_freeze_119 : decode cX3_freeze 119 = .ok (.iload_n 3, 1) := by decide +kernel
theorem dX3_freeze_120 : decode cX3_freeze 120 = .ok (.isub, 1) := by decide +kernel
theorem dX3_freeze_121 : decode cX3_freeze 121 = .ok (.iconst 0, 1) := by decide +kernel
theorem dX3_freeze_122 : decode cX3_freeze 122 = .ok (.invokestatic 46, 3) := by decide +kernel
theorem dX3_freeze_125 : decode cX3_freeze 125 = .ok (.iastore, 1) := by decide +kernel
theorem dX3_freeze_126 : decode cX3_freeze 126 = .ok (.iload 4, 2) := by decide +kernel
theorem dX3_freeze_128 : decode cX3_freeze 128 = .ok (.ifCond .le 12, 3) := by decide +kernel
theorem dX3_freeze_140 : decode cX3_freeze 140 = .ok (.return_, 1) := by decide +kernel
theorem dX3_freeze_131 : decode cX3_freeze 131 = .ok (.aload_n 0, 1) := by decide +kernel
theorem dX3_freeze_132 : decode cX3_freeze 132 = .ok (.getfield 18, 3) := by decide +kernel
theorem dX3_freeze_135 : decode cX3_freeze 135 = .ok (.iconst 0, 1) := by decide +kernel
theorem dX3_freeze_136 : decode cX3_freeze 136 = .ok (.iload_n 1, 1) := by decide +kernel
theorem dX3_freeze_137 : decode cX3_freeze 137 = .ok (.iadd, 1) := by decide +kernel
theorem dX3_freeze_138 : decode cX3_freeze 138 = .ok (.iconst 3, 1) := by decide +kernel
theorem dX3_freeze_139 : decode cX3_freeze 139 = .ok (.iastore, 1) := by decide +kernel
theorem dX3_freeze_86 : decode cX3_freeze 86 = .ok (.aload_n 0, 1) := by decide +kernel
theorem dX3_freeze_87 : decode cX3_freeze 87 = .ok (.getfield 18, 3) := by decide +kernel
theorem dX3_freeze_90 : decode cX3_freeze 90 = .ok (.bipush 48, 2) := by decide +kernel
theorem dX3_freeze_92 : decode cX3_freeze 92 = .ok (.iload_n 1, 1) := by decide +kernel
theorem dX3_freeze_93 : decode cX3_freeze 93 = .ok (.iadd, 1) := by decide +kernel
theorem dX3_freeze_94 : decode cX3_freeze 94 = .ok (.iconst 0, 1) := by decide +kernel
theorem dX3_freeze_95 : decode cX3_freeze 95 = .ok (.iastore, 1) := by decide +kernel
theorem dX3_freeze_96 : decode cX3_freeze 96 = .ok (.goto 30, 3) := by decide +kernel
theorem dX3_nextKind_0 : decode cX3_nextKind 0 = .ok (.aload_n 0, 1) := by decide +kernel
theorem dX3_nextKind_1 : decode cX3_nextKind 1 = .ok (.getfield 18, 3) := by decide +kernel
theorem dX3_nextKind_4 : decode cX3_nextKind 4 = .ok (.iconst 0, 1) := by decide +kernel
theorem dX3_nextKind_5 : decode cX3_nextKind 5 = .ok (.iload_n 1, 1) := by decide +kernel
theorem dX3_nextKind_6 : decode cX3_nextKind 6 = .ok (.iadd, 1) := by decide +kernel
theorem dX3_nextKind_7 : decode cX3_nextKind 7 = .ok (.iaload, 1) := by decide +kernel
theorem dX3_nextKind_8 : decode cX3_nextKind 8 = .ok (.istore_n 3, 1) := by decide +kernel
theorem dX3_nextKind_9 : decode cX3_nextKind 9 = .ok (.iload_n 3, 1) := by decide +kernel
theorem dX3_nextKind_10 : decode cX3_nextKind 10 = .ok (.ifCond .eq 8, 3) := by decide +kernel
theorem dX3_nextKind_18 : decode cX3_nextKind 18 = .ok (.iconst 1, 1) := by decide +kernel
theorem dX3_nextKind_19 : decode cX3_nextKind 19 = .ok (.goto 4, 3) := by decide +kernel
theorem dX3_nextKind_23 : decode cX3_nextKind 23 = .ok (.istore 4, 2) := by decide +kernel
theorem dX3_nextKind_25 : decode cX3_nextKind 25 = .ok (.aload_n 0, 1) := by decide +kernel
theorem dX3_nextKind_26 : decode cX3_nextKind 26 = .ok (.getfield 18, 3) := by decide +kernel
theorem dX3_nextKind_29 : decode cX3_nextKind 29 = .ok (.bipush 24, 2) := by decide +kernel
theorem dX3_nextKind_31 : decode cX3_nextKind 31 = .ok (.iload_n 1, 1) := by decide +kernel
theorem dX3_nextKind_32 : decode cX3_nextKind 32 = .ok (.iadd, 1) := by decide +kernel
theorem dX3_nextKind_33 : decode cX3_nextKind 33 = .ok (.iaload, 1) := by decide +kernel
theorem dX3_nextKind_34 : decode cX3_nextKind 34 = .ok (.ifCond .le 19, 3) := by decide +kernel
theorem dX3_nextKind_53 : decode cX3_nextKind 53 = .ok (.iload_n 2, 1) := by decide +kernel
theorem dX3_nextKind_54 : decode cX3_nextKind 54 = .ok (.bipush 20, 2) := by decide +kernel
theorem dX3_nextKind_56 : decode cX3_nextKind 56 = .ok (.if_icmp .lt 18, 3) := by decide +kernel
theorem dX3_nextKind_74 : decode cX3_nextKind 74 = .ok (.iload 4, 2) := by decide +kernel
theorem dX3_nextKind_76 : decode cX3_nextKind 76 = .ok (.ifCond .eq 21, 3) := by decide +kernel
theorem dX3_nextKind_79 : decode cX3_nextKind 79 = .ok (.aload_n 0, 1) := by decide +kernel
theorem dX3_nextKind_80 : decode cX3_nextKind 80 = .ok (.getfield 18, 3) := by decide +kernel
theorem dX3_nextKind_83 : decode cX3_nextKind 83 = .ok (.bipush 60, 2) := by decide +kernel
theorem dX3_nextKind_85 : decode cX3_nextKind 85 = .ok (.iload_n 1, 1) := by decide +kernel
theorem dX3_nextKind_86 : decode cX3_nextKind 86 = .ok (.iadd, 1) := by decide +kernel
theorem dX3_nextKind_87 : decode cX3_nextKind 87 = .ok (.iaload, 1) := by decide +kernel
theorem dX3_nextKind_88 : decode cX3_nextKind 88 = .ok (.bipush 24, 2) := by decide +kernel
theorem dX3_nextKind_90 : decode cX3_nextKind 90 = .ok (.if_icmp .lt 7, 3) := by decide +kernel
theorem dX3_nextKind_97 : decode cX3_nextKind 97 = .ok (.iload_n 3, 1) := by decide +kernel
theorem dX3_nextKind_98 : decode cX3_nextKind 98 = .ok (.ireturn, 1) := by decide +kernel
theorem dX3_nextKind_93 : decode cX3_nextKind 93 = .ok (.iconst 1, 1) := by decide +kernel
theorem dX3_nextKind_94 : decode cX3_nextKind 94 = .ok (.goto 4, 3) := by decide +kernel
theorem dX3_nextKind_59 : decode cX3_nextKind 59 = .ok (.iload_n 3, 1) := by decide +kernel
theorem dX3_nextKind_60 : decode cX3_nextKind 60 = .ok (.ifCond .eq 8, 3) := by decide +kernel
theorem dX3_nextKind_68 : decode cX3_nextKind 68 = .ok (.iconst 2, 1) := by decide +kernel
theorem dX3_nextKind_69 : decode cX3_nextKind 69 = .ok (.goto 4, 3) := by decide +kernel
theorem dX3_nextKind_73 : decode cX3_nextKind 73 = .ok (.ireturn, 1) := by decide +kernel
theorem dX3_nextKind_63 : decode cX3_nextKind 63 = .ok (.iload_n 3, 1) := by decide +kernel
theorem dX3_nextKind_64 : decode cX3_nextKind 64 = .ok (.iconst 1, 1) := by decide +kernel
theorem dX3_nextKind_65 : decode cX3_nextKind 65 = .ok (.if_icmp .ne 7, 3) := by decide +kernel
theorem dX3_nextKind_72 : decode cX3_nextKind 72 = .ok (.iload_n 3, 1) := by decide +kernel
theorem dX3_nextKind_37 : decode cX3_nextKind 37 = .ok (.iload 4, 2) := by decide +kernel
theorem dX3_nextKind_39 : decode cX3_nextKind 39 = .ok (.ifCond .ne 8, 3) := by decide +kernel
theorem dX3_nextKind_47 : decode cX3_nextKind 47 = .ok (.iconst 1, 1) := by decide +kernel
theorem dX3_nextKind_48 : decode cX3_nextKind 48 = .ok (.goto 4, 3) := by decide +kernel
theorem dX3_nextKind_52 : decode cX3_nextKind 52 = .ok (.ireturn, 1) := by decide +kernel
theorem dX3_nextKind_13 : decode cX3_nextKind 13 = .ok (.iload_n 3, 1) := by decide +kernel
theorem dX3_nextKind_14 : decode cX3_nextKind 14 = .ok (.iconst 2, 1) := by decide +kernel
theorem dX3_nextKind_15 : decode cX3_nextKind 15 = .ok (.if_icmp .ne 7, 3) := by decide +kernel
theorem dX3_nextKind_22 : decode cX3_nextKind 22 = .ok (.iconst 0, 1) := by decide +kernel
theorem dX3_nextKind_42 : decode cX3_nextKind 42 = .ok (.iload_n 3, 1) := by decide +kernel
theorem dX3_nextKind_43 : decode cX3_nextKind 43 = .ok (.iconst 4, 1) := by decide +kernel
theorem dX3_nextKind_44 : decode cX3_nextKind 44 = .ok (.if_icmp .ne 7, 3) := by decide +kernel
theorem dX3_nextKind_51 : decode cX3_nextKind 51 = .ok (.iload_n 3, 1) := by decide +kernel
theorem dX3_melt_9 : decode cX3_melt 9 = .ok (.iload_n 3, 1) := by decide +kernel
theorem dX3_melt_10 : decode cX3_melt 10 = .ok (.ifCond .lt 163, 3) := by decide +kernel
theorem dX3_melt_173 : decode cX3_melt 173 = .ok (.return_, 1) := by decide +kernel
theorem dX3_melt_13 : decode cX3_melt 13 = .ok (.iload_n 2, 1) := by decide +kernel
theorem dX3_melt_14 : decode cX3_melt 14 = .ok (.ifCond .le 159, 3) := by decide +kernel
theorem dX3_melt_17 : decode cX3_melt 17 = .ok (.aload_n 0, 1) := by decide +kernel
theorem dX3_melt_18 : decode cX3_melt 18 = .ok (.getfield 18, 3) := by decide +kernel
theorem dX3_melt_21 : decode cX3_melt 21 = .ok (.bipush 12, 2) := by decide +kernel
theorem dX3_melt_23 : decode cX3_melt 23 = .ok (.iload_n 3, 1) := by decide +kernel
theorem dX3_melt_24 : decode cX3_melt 24 = .ok (.iadd, 1) := by decide +kernel
theorem dX3_melt_25 : decode cX3_melt 25 = .ok (.iaload, 1) := by decide +kernel
theorem dX3_melt_26 : decode cX3_melt 26 = .ok (.istore 4, 2) := by decide +kernel
theorem dX3_melt_28 : decode cX3_melt 28 = .ok (.iload_n 2, 1) := by decide +kernel
theorem dX3_melt_29 : decode cX3_melt 29 = .ok (.i2l, 1) := by decide +kernel
theorem dX3_melt_30 : decode cX3_melt 30 = .ok (.iload 4, 2) := by decide +kernel
theorem dX3_melt_32 : decode cX3_melt 32 = .ok (.i2l, 1) := by decide +kernel
theorem dX3_melt_33 : decode cX3_melt 33 = .ok (.invokestatic 36, 3) := by decide +kernel
theorem dX3_melt_36 : decode cX3_melt 36 = .ok (.aload_n 0, 1) := by decide +kernel
theorem dX3_melt_37 : decode cX3_melt 37 = .ok (.getfield 18, 3) := by decide +kernel
theorem dX3_melt_40 : decode cX3_melt 40 = .ok (.bipush 48, 2) := by decide +kernel
theorem dX3_melt_42 : decode cX3_melt 42 = .ok (.iload_n 3, 1) := by decide +kernel
theorem dX3_melt_43 : decode cX3_melt 43 = .ok (.iadd, 1) := by decide +kernel
theorem dX3_melt_44 : decode cX3_melt 44 = .ok (.iaload, 1) := by decide +kernel
theorem dX3_melt_45 : decode cX3_melt 45 = .ok (.ineg, 1) := by decide +kernel
theorem dX3_melt_46 : decode cX3_melt 46 = .ok (.invokestatic 46, 3) := by decide +kernel
theorem dX3_melt_49 : decode cX3_melt 49 = .ok (.istore 5, 2) := by decide +kernel
theorem dX3_melt_51 : decode cX3_melt 51 = .ok (.aload_n 0, 1) := by decide +kernel
theorem dX3_melt_52 : decode cX3_melt 52 = .ok (.getfield 18, 3) := by decide +kernel
theorem dX3_melt_55 : decode cX3_melt 55 = .ok (.bipush 48, 2) := by decide +kernel
theorem dX3_melt_57 : decode cX3_melt 57 = .ok (.iload_n 3, 1) := by decide +kernel
theorem dX3_melt_58 : decode cX3_melt 58 = .ok (.iadd, 1) := by decide +kernel
theorem dX3_melt_59 : decode cX3_melt 59 = .ok (.dup2, 1) := by decide +kernel
theorem dX3_melt_60 : decode cX3_melt 60 = .ok (.iaload, 1) := by decide +kernel
theorem dX3_melt_61 : decode cX3_melt 61 = .ok (.iload 5, 2) := by decide +kernel
theorem dX3_melt_63 : decode cX3_melt 63 = .ok (.iadd, 1) := by decide +kernel
theorem dX3_melt_64 : decode cX3_melt 64 = .ok (.iastore, 1) := by decide +kernel
theorem dX3_melt_65 : decode cX3_melt 65 = .ok (.iload_n 2, 1) := by decide +kernel
theorem dX3_melt_66 : decode cX3_melt 66 = .ok (.iload 5, 2) := by decide +kernel
theorem dX3_melt_68 : decode cX3_melt 68 = .ok (.iload 4, 2) := by decide +kernel
theorem dX3_melt_70 : decode cX3_melt 70 = .ok (.imul, 1) := by decide +kernel
theorem dX3_melt_71 : decode cX3_melt 71 = .ok (.isub, 1) := by decide +kernel
theorem dX3_melt_72 : decode cX3_melt 72 = .ok (.istore_n 2, 1) := by decide +kernel
theorem dX3_melt_73 : decode cX3_melt 73 = .ok (.aload_n 0, 1) := by decide +kernel
theorem dX3_melt_74 : decode cX3_melt 74 = .ok (.getfield 18, 3) := by decide +kernel
theorem dX3_melt_77 : decode cX3_melt 77 = .ok (.bipush 48, 2) := by decide +kernel
theorem dX3_melt_79 : decode cX3_melt 79 = .ok (.iload_n 3, 1) := by decide +kernel
theorem dX3_melt_80 : decode cX3_melt 80 = .ok (.iadd, 1) := by decide +kernel
theorem dX3_melt_81 : decode cX3_melt 81 = .ok (.iaload, 1) := by decide +kernel
theorem dX3_melt_82 : decode cX3_melt 82 = .ok (.ifCond .ne 50, 3) := by decide +kernel
theorem dX3_melt_132 : decode cX3_melt 132 = .ok (.aload_n 0, 1) := by decide +kernel
theorem dX3_melt_133 : decode cX3_melt 133 = .ok (.getfield 18, 3) := by decide +kernel
theorem dX3_melt_136 : decode cX3_melt 136 = .ok (.bipush 12, 2) := by decide +kernel
theorem dX3_melt_138 : decode cX3_melt 138 = .ok (.iload_n 3, 1) := by decide +kernel
theorem dX3_melt_139 : decode cX3_melt 139 = .ok (.iadd, 1) := by decide +kernel
theorem dX3_melt_140 : decode cX3_melt 140 = .ok (.iaload, 1) := by decide +kernel
theorem dX3_melt_141 : decode cX3_melt 141 = .ok (.ifCond .le 4, 3) := by decide +kernel
theorem dX3_melt_145 : decode cX3_melt 145 = .ok (.aload_n 0, 1) := by decide +kernel
theorem dX3_melt_146 : decode cX3_melt 146 = .ok (.iload_n 3, 1) := by decide +kernel
theorem dX3_melt_147 : decode cX3_melt 147 = .ok (.putfield 9, 3) := by decide +kernel
theorem dX3_melt_150 : decode cX3_melt 150 = .ok (.aload_n 0, 1) := by decide +kernel
theorem dX3_melt_151 : decode cX3_melt 151 = .ok (.aload_n 0, 1) := by decide +kernel
theorem dX3_melt_152 : decode cX3_melt 152 = .ok (.getfield 9, 3) := by decide +kernel
theorem dX3_melt_155 : decode cX3_melt 155 = .ok (.aload_n 0, 1) := by decide +kernel
theorem dX3_melt_156 : decode cX3_melt 156 = .ok (.getfield 18, 3) := by decide +kernel
theorem dX3_melt_159 : decode cX3_melt 159 = .ok (.bipush 24, 2) := by decide +kernel
theorem dX3_melt_161 : decode cX3_melt 161 = .ok (.iload_n 3, 1) := by decide +kernel
theorem dX3_melt_162 : decode cX3_melt 162 = .ok (.iadd, 1) := by decide +kernel
theorem dX3_melt_163 : decode cX3_melt 163 = .ok (.iaload, 1) := by decide +kernel
theorem dX3_melt_164 : decode cX3_melt 164 = .ok (.invokevirtual 49, 3) := by decide +kernel
theorem dX3_melt_167 : decode cX3_melt 167 = .ok (.iinc 3 (-1), 3) := by decide +kernel
theorem dX3_melt_170 : decode cX3_melt 170 = .ok (.goto (-161), 3) := by decide +kernel
theorem dX3_melt_144 : decode cX3_melt 144 = .ok (.return_, 1) := by decide +kernel
theorem dX3_melt_85 : decode cX3_melt 85 = .ok (.iload_n 2, 1) := by decide +kernel
theorem dX3_melt_86 : decode cX3_melt 86 = .ok (.bipush 100, 2) := by decide +kernel
theorem dX3_melt_88 : decode cX3_melt 88 = .ok (.idiv, 1) := by decide +kernel
theorem dX3_melt_89 : decode cX3_melt 89 = .ok (.iload 4, 2) := by decide +kernel
theorem dX3_melt_91 : decode cX3_melt 91 = .ok (.invokestatic 46, 3) := by decide +kernel
theorem dX3_melt_94 : decode cX3_melt 94 = .ok (.istore 6, 2) := by decide +kernel
theorem dX3_melt_96 : decode cX3_melt 96 = .ok (.aload_n 0, 1) := by decide +kernel
theorem dX3_melt_97 : decode cX3_melt 97 = .ok (.getfield 18, 3) := by decide +kernel
theorem dX3_melt_100 : decode cX3_melt 100 = .ok (.bipush 12, 2) := by decide +kernel
theorem dX3_melt_102 : decode cX3_melt 102 = .ok (.iload_n 3, 1) := by decide +kernel
theorem dX3_melt_103 : decode cX3_melt 103 = .ok (.iadd, 1) := by decide +kernel
theorem dX3_melt_104 : decode cX3_melt 104 = .ok (.dup2, 1) := by decide +kernel
theorem dX3_melt_105 : decode cX3_melt 105 = .ok (.iaload, 1) := by decide +kernel
theorem dX3_melt_106 : decode cX3_melt 106 = .ok (.iload 6, 2) := by decide +kernel
theorem dX3_melt_108 : decode cX3_melt 108 = .ok (.isub, 1) := by decide +kernel
theorem dX3_melt_109 : decode cX3_melt 109 = .ok (.iastore, 1) := by decide +kernel
theorem dX3_melt_110 : decode cX3_melt 110 = .ok (.aload_n 0, 1) := by decide +kernel
theorem dX3_melt_111 : decode cX3_melt 111 = .ok (.getfield 18, 3) := by decide +kernel
theorem dX3_melt_114 : decode cX3_melt 114 = .ok (.bipush 24, 2) := by decide +kernel
theorem dX3_melt_116 : decode cX3_melt 116 = .ok (.iload_n 3, 1) := by decide +kernel
theorem dX3_melt_117 : decode cX3_melt 117 = .ok (.iadd, 1) := by decide +kernel
theorem dX3_melt_118 : decode cX3_melt 118 = .ok (.dup2, 1) := by decide +kernel
theorem dX3_melt_119 : decode cX3_melt 119 = .ok (.iaload, 1) := by decide +kernel
theorem dX3_melt_120 : decode cX3_melt 120 = .ok (.iload 6, 2) := by decide +kernel
theorem dX3_melt_122 : decode cX3_melt 122 = .ok (.iadd, 1) := by decide +kernel
theorem dX3_melt_123 : decode cX3_melt 123 = .ok (.iastore, 1) := by decide +kernel
theorem dX3_melt_124 : decode cX3_melt 124 = .ok (.iload_n 2, 1) := by decide +kernel
theorem dX3_melt_125 : decode cX3_melt 125 = .ok (.bipush 100, 2) := by decide +kernel
theorem dX3_melt_127 : decode cX3_melt 127 = .ok (.iload 6, 2) := by decide +kernel
theorem dX3_melt_129 : decode cX3_melt 129 = .ok (.imul, 1) := by decide +kernel
theorem dX3_melt_130 : decode cX3_melt 130 = .ok (.isub, 1) := by decide +kernel
theorem dX3_melt_131 : decode cX3_melt 131 = .ok (.istore_n 2, 1) := by decide +kernel
theorem dX3_melt_0 : decode cX3_melt 0 = .ok (.iload_n 1, 1) := by decide +kernel
theorem dX3_melt_1 : decode cX3_melt 1 = .ok (.istore_n 2, 1) := by decide +kernel
theorem dX3_melt_2 : decode cX3_melt 2 = .ok (.aload_n 0, 1) := by decide +kernel
theorem dX3_melt_3 : decode cX3_melt 3 = .ok (.getfield 9, 3) := by decide +kernel
theorem dX3_melt_6 : decode cX3_melt 6 = .ok (.iconst 1, 1) := by decide +kernel
theorem dX3_melt_7 : decode cX3_melt 7 = .ok (.isub, 1) := by decide +kernel
theorem dX3_melt_8 : decode cX3_melt 8 = .ok (.istore_n 3, 1) := by decide +kernel
theorem dX3_evenTemps_24 : decode cX3_evenTemps 24 = .ok (.iload_n 2, 1) := by decide +kernel
theorem dX3_evenTemps_25 : decode cX3_evenTemps 25 = .ok (.aload_n 0, 1) := by decide +kernel
theorem dX3_evenTemps_26 : decode cX3_evenTemps 26 = .ok (.getfield 9, 3) := by decide +kernel
theorem dX3_evenTemps_29 : decode cX3_evenTemps 29 = .ok (.if_icmp .ge 73, 3) := by decide +kernel
theorem dX3_evenTemps_102 : decode cX3_evenTemps 102 = .ok (.return_, 1) := by decide +kernel
theorem dX3_evenTemps_32 : decode cX3_evenTemps 32 = .ok (.aload_n 0, 1) := by decide +kernel
theorem dX3_evenTemps_33 : decode cX3_evenTemps 33 = .ok (.getfield 18, 3) := by decide +kernel
theorem dX3_evenTemps_36 : decode cX3_evenTemps 36 = .ok (.bipush 48, 2) := by decide +kernel
theorem dX3_evenTemps_38 : decode cX3_evenTemps 38 = .ok (.iload_n 2, 1) := by decide +kernel
theorem dX3_evenTemps_39 : decode cX3_evenTemps 39 = .ok (.iadd, 1) := by decide +kernel
theorem dX3_evenTemps_40 : decode cX3_evenTemps 40 = .ok (.iaload, 1) := by decide +kernel
theorem dX3_evenTemps_41 : decode cX3_evenTemps 41 = .ok (.istore_n 3, 1) := by decide +kernel
theorem dX3_evenTemps_42 : decode cX3_evenTemps 42 = .ok (.iload_n 2, 1) := by decide +kernel
theorem dX3_evenTemps_43 : decode cX3_evenTemps 43 = .ok (.iconst 1, 1) := by decide +kernel
theorem dX3_evenTemps_44 : decode cX3_evenTemps 44 = .ok (.iadd, 1) := by decide +kernel
theorem dX3_evenTemps_45 : decode cX3_evenTemps 45 = .ok (.aload_n 0, 1) := by decide +kernel
theorem dX3_evenTemps_46 : decode cX3_evenTemps 46 = .ok (.getfield 9, 3) := by decide +kernel
theorem dX3_evenTemps_49 : decode cX3_evenTemps 49 = .ok (.if_icmp .ge 22, 3) := by decide +kernel
theorem dX3_evenTemps_71 : decode cX3_evenTemps 71 = .ok (.iconst 0, 1) := by decide +kernel
theorem dX3_evenTemps_72 : decode cX3_evenTemps 72 = .ok (.istore 4, 2) := by decide +kernel
theorem dX3_evenTemps_74 : decode cX3_evenTemps 74 = .ok (.aload_n 0, 1) := by decide +kernel
theorem dX3_evenTemps_75 : decode cX3_evenTemps 75 = .ok (.getfield 18, 3) := by decide +kernel
theorem dX3_evenTemps_78 : decode cX3_evenTemps 78 = .ok (.bipush 48, 2) := by decide +kernel
theorem dX3_evenTemps_80 : decode cX3_evenTemps 80 = .ok (.iload_n 2, 1) := by decide +kernel
theorem dX3_evenTemps_81 : decode cX3_evenTemps 81 = .ok (.iadd, 1) := by decide +kernel
theorem dX3_evenTemps_82 : decode cX3_evenTemps 82 = .ok (.iload_n 3, 1) := by decide +kernel
theorem dX3_evenTemps_83 : decode cX3_evenTemps 83 = .ok (.iload_n 1, 1) := by decide +kernel
theorem dX3_evenTemps_84 : decode cX3_evenTemps 84 = .ok (.isub, 1) := by decide +kernel
theorem dX3_evenTemps_85 : decode cX3_evenTemps 85 = .ok (.iload 4, 2) := by decide +kernel
theorem dX3_evenTemps_87 : decode cX3_evenTemps 87 = .ok (.iadd, 1) := by decide +kernel
theorem dX3_evenTemps_88 : decode cX3_evenTemps 88 = .ok (.iconst 0, 1) := by decide +kernel
theorem dX3_evenTemps_89 : decode cX3_evenTemps 89 = .ok (.invokestatic 46, 3) := by decide +kernel
theorem dX3_evenTemps_92 : decode cX3_evenTemps 92 = .ok (.iastore, 1) := by decide +kernel
theorem dX3_evenTemps_93 : decode cX3_evenTemps 93 = .ok (.iload 4, 2) := by decide +kernel
theorem dX3_evenTemps_95 : decode cX3_evenTemps 95 = .ok (.istore_n 1, 1) := by decide +kernel
theorem dX3_evenTemps_96 : decode cX3_evenTemps 96 = .ok (.iinc 2 1, 3) := by decide +kernel
theorem dX3_evenTemps_99 : decode cX3_evenTemps 99 = .ok (.goto (-75), 3) := by decide +kernel
theorem dX3_evenTemps_52 : decode cX3_evenTemps 52 = .ok (.aload_n 0, 1) := by decide +kernel
theorem dX3_evenTemps_53 : decode cX3_evenTemps 53 = .ok (.getfield 18, 3) := by decide +kernel
theorem dX3_evenTemps_56 : decode cX3_evenTemps 56 = .ok (.bipush 48, 2) := by decide +kernel
theorem dX3_evenTemps_58 : decode cX3_evenTemps 58 = .ok (.iload_n 2, 1) := by decide +kernel
theorem dX3_evenTemps_59 : decode cX3_evenTemps 59 = .ok (.iadd, 1) := by decide +kernel
theorem dX3_evenTemps_60 : decode cX3_evenTemps 60 = .ok (.iconst 1, 1) := by decide +kernel
theorem dX3_evenTemps_61 : decode cX3_evenTemps 61 = .ok (.iadd, 1) := by decide +kernel
theorem dX3_evenTemps_62 : decode cX3_evenTemps 62 = .ok (.iaload, 1) := by decide +kernel
theorem dX3_evenTemps_63 : decode cX3_evenTemps 63 = .ok (.iload_n 3, 1) := by decide +kernel
theorem dX3_evenTemps_64 : decode cX3_evenTemps 64 = .ok (.isub, 1) := by decide +kernel
theorem dX3_evenTemps_65 : decode cX3_evenTemps 65 = .ok (.bipush 8, 2) := by decide +kernel
theorem dX3_evenTemps_67 : decode cX3_evenTemps 67 = .ok (.idiv, 1) := by decide +kernel
theorem dX3_evenTemps_68 : decode cX3_evenTemps 68 = .ok (.goto 4, 3) := by decide +kernel
theorem dX3_evenTemps_0 : decode cX3_evenTemps 0 = .ok (.aload_n 0, 1) := by decide +kernel
theorem dX3_evenTemps_1 : decode cX3_evenTemps 1 = .ok (.getfield 9, 3) := by decide +kernel
theorem dX3_evenTemps_4 : decode cX3_evenTemps 4 = .ok (.ifCond .le 16, 3) := by decide +kernel
theorem dX3_evenTemps_20 : decode cX3_evenTemps 20 = .ok (.iconst 0, 1) := by decide +kernel
theorem dX3_evenTemps_21 : decode cX3_evenTemps 21 = .ok (.istore_n 1, 1) := by decide +kernel
theorem dX3_evenTemps_22 : decode cX3_evenTemps 22 = .ok (.iconst 0, 1) := by decide +kernel
theorem dX3_evenTemps_23 : decode cX3_evenTemps 23 = .ok (.istore_n 2, 1) := by decide +kernel
theorem dX3_evenTemps_7 : decode cX3_evenTemps 7 = .ok (.aload_n 0, 1) := by decide +kernel
theorem dX3_evenTemps_8 : decode cX3_evenTemps 8 = .ok (.getfield 18, 3) := by decide +kernel
theorem dX3_evenTemps_11 : decode cX3_evenTemps 11 = .ok (.bipush 48, 2) := by decide +kernel
theorem dX3_evenTemps_13 : decode cX3_evenTemps 13 = .ok (.iaload, 1) := by decide +kernel
theorem dX3_evenTemps_14 : decode cX3_evenTemps 14 = .ok (.bipush 8, 2) := by decide +kernel
theorem dX3_evenTemps_16 : decode cX3_evenTemps 16 = .ok (.idiv, 1) := by decide +kernel
theorem dX3_evenTemps_17 : decode cX3_evenTemps 17 = .ok (.goto 4, 3) := by decide +kernel
theorem dX3_freezeAndSink_7 : decode cX3_freezeAndSink 7 = .ok (.iload_n 2, 1) := by decide +kernel
theorem dX3_freezeAndSink_8 : decode cX3_freezeAndSink 8 = .ok (.ifCond .lt 105, 3) := by decide +kernel
theorem dX3_freezeAndSink_113 : decode cX3_freezeAndSink 113 = .ok (.return_, 1) := by decide +kernel
theorem dX3_freezeAndSink_11 : decode cX3_freezeAndSink 11 = .ok (.aload_n 0, 1) := by decide +kernel
theorem dX3_freezeAndSink_12 : decode cX3_freezeAndSink 12 = .ok (.getfield 18, 3) := by decide +kernel
theorem dX3_freezeAndSink_15 : decode cX3_freezeAndSink 15 = .ok (.bipush 24, 2) := by decide +kernel
theorem dX3_freezeAndSink_17 : decode cX3_freezeAndSink 17 = .ok (.iload_n 2, 1) := by decide +kernel
theorem dX3_freezeAndSink_18 : decode cX3_freezeAndSink 18 = .ok (.iadd, 1) := by decide +kernel
theorem dX3_freezeAndSink_19 : decode cX3_freezeAndSink 19 = .ok (.iaload, 1) := by decide +kernel
theorem dX3_freezeAndSink_20 : decode cX3_freezeAndSink 20 = .ok (.ifCond .le 20, 3) := by decide +kernel
theorem dX3_freezeAndSink_40 : decode cX3_freezeAndSink 40 = .ok (.aload_n 0, 1) := by decide +kernel
theorem dX3_freezeAndSink_41 : decode cX3_freezeAndSink 41 = .ok (.getfield 18, 3) := by decide +kernel
theorem dX3_freezeAndSink_44 : decode cX3_freezeAndSink 44 = .ok (.bipush 12, 2) := by decide +kernel
theorem dX3_freezeAndSink_46 : decode cX3_freezeAndSink 46 = .ok (.iload_n 2, 1) := by decide +kernel
theorem dX3_freezeAndSink_47 : decode cX3_freezeAndSink 47 = .ok (.iadd, 1) := by decide +kernel
theorem dX3_freezeAndSink_48 : decode cX3_freezeAndSink 48 = .ok (.iaload, 1) := by decide +kernel
theorem dX3_freezeAndSink_49 : decode cX3_freezeAndSink 49 = .ok (.i2l, 1) := by decide +kernel
theorem dX3_freezeAndSink_50 : decode cX3_freezeAndSink 50 = .ok (.aload_n 1, 1) := by decide +kernel
theorem dX3_freezeAndSink_51 : decode cX3_freezeAndSink 51 = .ok (.iconst 5, 1) := by decide +kernel
theorem dX3_freezeAndSink_52 : decode cX3_freezeAndSink 52 = .ok (.aload_n 0, 1) := by decide +kernel
theorem dX3_freezeAndSink_53 : decode cX3_freezeAndSink 53 = .ok (.getfield 18, 3) := by decide +kernel
theorem dX3_freezeAndSink_56 : decode cX3_freezeAndSink 56 = .ok (.iconst 0, 1) := by decide +kernel
theorem dX3_freezeAndSink_57 : decode cX3_freezeAndSink 57 = .ok (.iload_n 2, 1) := by decide +kernel
theorem dX3_freezeAndSink_58 : decode cX3_freezeAndSink 58 = .ok (.iadd, 1) := by decide +kernel
theorem dX3_freezeAndSink_59 : decode cX3_freezeAndSink 59 = .ok (.iaload, 1) := by decide +kernel
theorem dX3_freezeAndSink_60 : decode cX3_freezeAndSink 60 = .ok (.invokevirtual 57, 3) := by decide +kernel
theorem dX3_freezeAndSink_63 : decode cX3_freezeAndSink 63 = .ok (.i2l, 1) := by decide +kernel
theorem dX3_freezeAndSink_64 : decode cX3_freezeAndSink 64 = .ok (.lmul, 1) := by decide +kernel
theorem dX3_freezeAndSink_65 : decode cX3_freezeAndSink 65 = .ok (.ldc2_w 62, 3) := by decide +kernel
theorem dX3_freezeAndSink_68 : decode cX3_freezeAndSink 68 = .ok (.invokestatic 36, 3) := by decide +kernel
theorem dX3_freezeAndSink_71 : decode cX3_freezeAndSink 71 = .ok (.istore_n 3, 1) := by decide +kernel
theorem dX3_freezeAndSink_72 : decode cX3_freezeAndSink 72 = .ok (.aload_n 0, 1) := by decide +kernel
theorem dX3_freezeAndSink_73 : decode cX3_freezeAndSink 73 = .ok (.getfield 18, 3) := by decide +kernel
theorem dX3_freezeAndSink_76 : decode cX3_freezeAndSink 76 = .ok (.bipush 24, 2) := by decide +kernel
theorem dX3_freezeAndSink_78 : decode cX3_freezeAndSink 78 = .ok (.iload_n 2, 1) := by decide +kernel
theorem dX3_freezeAndSink_79 : decode cX3_freezeAndSink 79 = .ok (.iadd, 1) := by decide +kernel
theorem dX3_freezeAndSink_80 : decode cX3_freezeAndSink 80 = .ok (.iaload, 1) := by decide +kernel
theorem dX3_freezeAndSink_81 : decode cX3_freezeAndSink 81 = .ok (.iload_n 3, 1) := by decide +kernel
theorem dX3_freezeAndSink_82 : decode cX3_freezeAndSink 82 = .ok (.isub, 1) := by decide +kernel
theorem dX3_freezeAndSink_83 : decode cX3_freezeAndSink 83 = .ok (.istore 4, 2) := by decide +kernel
theorem dX3_freezeAndSink_85 : decode cX3_freezeAndSink 85 = .ok (.iload 4, 2) := by decide +kernel
theorem dX3_freezeAndSink_87 : decode cX3_freezeAndSink 87 = .ok (.ifCond .le 20, 3) := by decide +kernel
theorem dX3_freezeAndSink_107 : decode cX3_freezeAndSink 107 = .ok (.iinc 2 (-1), 3) := by decide +kernel
theorem dX3_freezeAndSink_110 : decode cX3_freezeAndSink 110 = .ok (.goto (-103), 3) := by decide +kernel
theorem dX3_freezeAndSink_90 : decode cX3_freezeAndSink 90 = .ok (.aload_n 0, 1) := by decide +kernel
theorem dX3_freezeAndSink_91 : decode cX3_freezeAndSink 91 = .ok (.getfield 18, 3) := by decide +kernel
theorem dX3_freezeAndSink_94 : decode cX3_freezeAndSink 94 = .ok (.bipush 24, 2) := by decide +kernel
theorem dX3_freezeAndSink_96 : decode cX3_freezeAndSink 96 = .ok (.iload_n 2, 1) := by decide +kernel
theorem dX3_freezeAndSink_97 : decode cX3_freezeAndSink 97 = .ok (.iadd, 1) := by decide +kernel
theorem dX3_freezeAndSink_98 : decode cX3_freezeAndSink 98 = .ok (.iload_n 3, 1) := by decide +kernel
theorem dX3_freezeAndSink_99 : decode cX3_freezeAndSink 99 = .ok (.iastore, 1) := by decide +kernel
theorem dX3_freezeAndSink_100 : decode cX3_freezeAndSink 100 = .ok (.aload_n 0, 1) := by decide +kernel
theorem dX3_freezeAndSink_101 : decode cX3_freezeAndSink 101 = .ok (.iload_n 2, 1) := by decide +kernel
theorem dX3_freezeAndSink_102 : decode cX3_freezeAndSink 102 = .ok (.iload 4, 2) := by decide +kernel
theorem dX3_freezeAndSink_104 : decode cX3_freezeAndSink 104 = .ok (.invokevirtual 49, 3) := by decide +kernel
theorem dX3_freezeAndSink_23 : decode cX3_freezeAndSink 23 = .ok (.aload_n 0, 1) := by decide +kernel
theorem dX3_freezeAndSink_24 : decode cX3_freezeAndSink 24 = .ok (.getfield 18, 3) := by decide +kernel
theorem dX3_freezeAndSink_27 : decode cX3_freezeAndSink 27 = .ok (.bipush 48, 2) := by decide +kernel
theorem dX3_freezeAndSink_29 : decode cX3_freezeAndSink 29 = .ok (.iload_n 2, 1) := by decide +kernel
theorem dX3_freezeAndSink_30 : decode cX3_freezeAndSink 30 = .ok (.iadd, 1) := by decide +kernel
theorem dX3_freezeAndSink_31 : decode cX3_freezeAndSink 31 = .ok (.iaload, 1) := by decide +kernel
theorem dX3_freezeAndSink_32 : decode cX3_freezeAndSink 32 = .ok (.ifCond .ge 8, 3) := by decide +kernel
theorem dX3_freezeAndSink_35 : decode cX3_freezeAndSink 35 = .ok (.aload_n 0, 1) := by decide +kernel
theorem dX3_freezeAndSink_36 : decode cX3_freezeAndSink 36 = .ok (.iload_n 2, 1) := by decide +kernel
theorem dX3_freezeAndSink_37 : decode cX3_freezeAndSink 37 = .ok (.invokevirtual 53, 3) := by decide +kernel
theorem dX3_freezeAndSink_0 : decode cX3_freezeAndSink 0 = .ok (.aload_n 0, 1) := by decide +kernel
theorem dX3_freezeAndSink_1 : decode cX3_freezeAndSink 1 = .ok (.getfield 9, 3) := by decide +kernel
theorem dX3_freezeAndSink_4 : decode cX3_freezeAndSink 4 = .ok (.iconst 1, 1) := by decide +kernel
theorem dX3_freezeAndSink_5 : decode cX3_freezeAndSink 5 = .ok (.isub, 1) := by decide +kernel
theorem dX3_freezeAndSink_6 : decode cX3_freezeAndSink 6 = .ok (.istore_n 2, 1) := by decide +kernel
theorem dX3_press_9 : decode cX3_press 9 = .ok (.iload_n 3, 1) := by decide +kernel
theorem dX3_press_10 : decode cX3_press 10 = .ok (.ifCond .lt 90, 3) := by decide +kernel
theorem dX3_press_100 : decode cX3_press 100 = .ok (.return_, 1) := by decide +kernel
theorem dX3_press_13 : decode cX3_press 13 = .ok (.aload_n 0, 1) := by decide +kernel
theorem dX3_press_14 : decode cX3_press 14 = .ok (.iload_n 3, 1) := by decide +kernel
theorem dX3_press_15 : decode cX3_press 15 = .ok (.invokevirtual 28, 3) := by decide +kernel
theorem dX3_press_18 : decode cX3_press 18 = .ok (.istore 4, 2) := by decide +kernel
theorem dX3_press_20 : decode cX3_press 20 = .ok (.aload_n 0, 1) := by decide +kernel
theorem dX3_press_21 : decode cX3_press 21 = .ok (.getfield 18, 3) := by decide +kernel
theorem dX3_press_24 : decode cX3_press 24 = .ok (.bipush 36, 2) := by decide +kernel
theorem dX3_press_26 : decode cX3_press 26 = .ok (.iload_n 3, 1) := by decide +kernel
theorem dX3_press_27 : decode cX3_press 27 = .ok (.iadd, 1) := by decide +kernel
theorem dX3_press_28 : decode cX3_press 28 = .ok (.iaload, 1) := by decide +kernel
theorem dX3_press_29 : decode cX3_press 29 = .ok (.i2l, 1) := by decide +kernel
theorem dX3_press_30 : decode cX3_press 30 = .ok (.lstore 5, 2) := by decide +kernel
theorem dX3_press_32 : decode cX3_press 32 = .ok (.iload_n 2, 1) := by decide +kernel
theorem dX3_press_33 : decode cX3_press 33 = .ok (.iload 4, 2) := by decide +kernel
theorem dX3_press_35 : decode cX3_press 35 = .ok (.iconst 2, 1) := by decide +kernel
theorem dX3_press_36 : decode cX3_press 36 = .ok (.idiv, 1) := by decide +kernel
theorem dX3_press_37 : decode cX3_press 37 = .ok (.iadd, 1) := by decide +kernel
theorem dX3_press_38 : decode cX3_press 38 = .ok (.i2l, 1) := by decide +kernel
theorem dX3_press_39 : decode cX3_press 39 = .ok (.lstore 7, 2) := by decide +kernel
theorem dX3_press_41 : decode cX3_press 41 = .ok (.aload_n 1, 1) := by decide +kernel
theorem dX3_press_42 : decode cX3_press 42 = .ok (.bipush 10, 2) := by decide +kernel
theorem dX3_press_44 : decode cX3_press 44 = .ok (.aload_n 0, 1) := by decide +kernel
theorem dX3_press_45 : decode cX3_press 45 = .ok (.getfield 18, 3) := by decide +kernel
theorem dX3_press_48 : decode cX3_press 48 = .ok (.iconst 0, 1) := by decide +kernel
theorem dX3_press_49 : decode cX3_press 49 = .ok (.iload_n 3, 1) := by decide +kernel
theorem dX3_press_50 : decode cX3_press 50 = .ok (.iadd, 1) := by decide +kernel
theorem dX3_press_51 : decode cX3_press 51 = .ok (.iaload, 1) := by decide +kernel
theorem dX3_press_52 : decode cX3_press 52 = .ok (.invokevirtual 57, 3) := by decide +kernel
theorem dX3_press_55 : decode cX3_press 55 = .ok (.iconst 1, 1) := by decide +kernel
theorem dX3_press_56 : decode cX3_press 56 = .ok (.invokestatic 40, 3) := by decide +kernel
theorem dX3_press_59 : decode cX3_press 59 = .ok (.i2l, 1) := by decide +kernel
theorem dX3_press_60 : decode cX3_press 60 = .ok (.lstore 9, 2) := by decide +kernel
theorem dX3_press_62 : decode cX3_press 62 = .ok (.aload_n 0, 1) := by decide +kernel
theorem dX3_press_63 : decode cX3_press 63 = .ok (.getfield 18, 3) := by decide +kernel
theorem dX3_press_66 : decode cX3_press 66 = .ok (.bipush 36, 2) := by decide +kernel
theorem dX3_press_68 : decode cX3_press 68 = .ok (.iload_n 3, 1) := by decide +kernel
theorem dX3_press_69 : decode cX3_press 69 = .ok (.iadd, 1) := by decide +kernel
theorem dX3_press_70 : decode cX3_press 70 = .ok (.lload 5, 2) := by decide +kernel
theorem dX3_press_72 : decode cX3_press 72 = .ok (.lload 5, 2) := by decide +kernel
theorem dX3_press_74 : decode cX3_press 74 = .ok (.lload 7, 2) := by decide +kernel
theorem dX3_press_76 : decode cX3_press 76 = .ok (.lmul, 1) := by decide +kernel
theorem dX3_press_77 : decode cX3_press 77 = .ok (.lload 9, 2) := by decide +kernel
theorem dX3_press_79 : decode cX3_press 79 = .ok (.ldiv, 1) := by decide +kernel
theorem dX3_press_80 : decode cX3_press 80 = .ok (.lsub, 1) := by decide +kernel
theorem dX3_press_81 : decode cX3_press 81 = .ok (.iload 4, 2) := by decide +kernel
theorem dX3_press_83 : decode cX3_press 83 = .ok (.i2l, 1) := by decide +kernel
theorem dX3_press_84 : decode cX3_press 84 = .ok (.invokestatic 64, 3) := by decide +kernel
theorem dX3_press_87 : decode cX3_press 87 = .ok (.l2i, 1) := by decide +kernel
theorem dX3_press_88 : decode cX3_press 88 = .ok (.iastore, 1) := by decide +kernel
theorem dX3_press_89 : decode cX3_press 89 = .ok (.iload_n 2, 1) := by decide +kernel
theorem dX3_press_90 : decode cX3_press 90 = .ok (.iload 4, 2) := by decide +kernel
theorem dX3_press_92 : decode cX3_press 92 = .ok (.iadd, 1) := by decide +kernel
theorem dX3_press_93 : decode cX3_press 93 = .ok (.istore_n 2, 1) := by decide +kernel
theorem dX3_press_94 : decode cX3_press 94 = .ok (.iinc 3 (-1), 3) := by decide +kernel
theorem dX3_press_97 : decode cX3_press 97 = .ok (.goto (-88), 3) := by decide +kernel
theorem dX3_press_0 : decode cX3_press 0 = .ok (.iconst 0, 1) := by decide +kernel
theorem dX3_press_1 : decode cX3_press 1 = .ok (.istore_n 2, 1) := by decide +kernel
theorem dX3_press_2 : decode cX3_press 2 = .ok (.aload_n 0, 1) := by decide +kernel
theorem dX3_press_3 : decode cX3_press 3 = .ok (.getfield 9, 3) := by decide +kernel
theorem dX3_press_6 : decode cX3_press 6 = .ok (.iconst 1, 1) := by decide +kernel
theorem dX3_press_7 : decode cX3_press 7 = .ok (.isub, 1) := by decide +kernel
theorem dX3_press_8 : decode cX3_press 8 = .ok (.istore_n 3, 1) := by decide +kernel
theorem dX3_turnAndAge_2 : decode cX3_turnAndAge 2 = .ok (.iload_n 2, 1) := by decide +kernel
theorem dX3_turnAndAge_3 : decode cX3_turnAndAge 3 = .ok (.aload_n 0, 1) := by decide +kernel
theorem dX3_turnAndAge_4 : decode cX3_turnAndAge 4 = .ok (.getfield 9, 3) := by decide +kernel
theorem dX3_turnAndAge_7 : decode cX3_turnAndAge 7 = .ok (.if_icmp .ge 41, 3) := by decide +kernel
theorem dX3_turnAndAge_48 : decode cX3_turnAndAge 48 = .ok (.return_, 1) := by decide +kernel
theorem dX3_turnAndAge_10 : decode cX3_turnAndAge 10 = .ok (.aload_n 0, 1) := by decide +kernel
theorem dX3_turnAndAge_11 : decode cX3_turnAndAge 11 = .ok (.getfield 18, 3) := by decide +kernel
theorem dX3_turnAndAge_14 : decode cX3_turnAndAge 14 = .ok (.iconst 0, 1) := by decide +kernel
theorem dX3_turnAndAge_15 : decode cX3_turnAndAge 15 = .ok (.iload_n 2, 1) := by decide +kernel
theorem dX3_turnAndAge_16 : decode cX3_turnAndAge 16 = .ok (.iadd, 1) := by decide +kernel
theorem dX3_turnAndAge_17 : decode cX3_turnAndAge 17 = .ok (.aload_n 0, 1) := by decide +kernel
theorem dX3_turnAndAge_18 : decode cX3_turnAndAge 18 = .ok (.iload_n 2, 1) := by decide +kernel
theorem dX3_turnAndAge_19 : decode cX3_turnAndAge 19 = .ok (.aload_n 0, 1) := by decide +kernel
theorem dX3_turnAndAge_20 : decode cX3_turnAndAge 20 = .ok (.iload_n 2, 1) := by decide +kernel
theorem dX3_turnAndAge_21 : decode cX3_turnAndAge 21 = .ok (.iload_n 1, 1) := by decide +kernel
theorem dX3_turnAndAge_22 : decode cX3_turnAndAge 22 = .ok (.invokevirtual 67, 3) := by decide +kernel
theorem dX3_turnAndAge_25 : decode cX3_turnAndAge 25 = .ok (.invokevirtual 70, 3) := by decide +kernel
theorem dX3_turnAndAge_28 : decode cX3_turnAndAge 28 = .ok (.iastore, 1) := by decide +kernel
theorem dX3_turnAndAge_29 : decode cX3_turnAndAge 29 = .ok (.aload_n 0, 1) := by decide +kernel
theorem dX3_turnAndAge_30 : decode cX3_turnAndAge 30 = .ok (.getfield 18, 3) := by decide +kernel
theorem dX3_turnAndAge_33 : decode cX3_turnAndAge 33 = .ok (.bipush 60, 2) := by decide +kernel
theorem dX3_turnAndAge_35 : decode cX3_turnAndAge 35 = .ok (.iload_n 2, 1) := by decide +kernel
theorem dX3_turnAndAge_36 : decode cX3_turnAndAge 36 = .ok (.iadd, 1) := by decide +kernel
theorem dX3_turnAndAge_37 : decode cX3_turnAndAge 37 = .ok (.dup2, 1) := by decide +kernel
theorem dX3_turnAndAge_38 : decode cX3_turnAndAge 38 = .ok (.iaload, 1) := by decide +kernel
theorem dX3_turnAndAge_39 : decode cX3_turnAndAge 39 = .ok (.iconst 1, 1) := by decide +kernel
theorem dX3_turnAndAge_40 : decode cX3_turnAndAge 40 = .ok (.iadd, 1) := by decide +kernel
theorem dX3_turnAndAge_41 : decode cX3_turnAndAge 41 = .ok (.iastore, 1) := by decide +kernel
theorem dX3_turnAndAge_42 : decode cX3_turnAndAge 42 = .ok (.iinc 2 1, 3) := by decide +kernel
theorem dX3_turnAndAge_45 : decode cX3_turnAndAge 45 = .ok (.goto (-43), 3) := by decide +kernel
theorem dX3_turnAndAge_0 : decode cX3_turnAndAge 0 = .ok (.iconst 0, 1) := by decide +kernel
theorem dX3_turnAndAge_1 : decode cX3_turnAndAge 1 = .ok (.istore_n 2, 1) := by decide +kernel
theorem dX3_copyFrom_0 : decode cX3_copyFrom 0 = .ok (.aload_n 0, 1) := by decide +kernel
theorem dX3_copyFrom_1 : decode cX3_copyFrom 1 = .ok (.aload_n 1, 1) := by decide +kernel
theorem dX3_copyFrom_2 : decode cX3_copyFrom 2 = .ok (.getfield 9, 3) := by decide +kernel
theorem dX3_copyFrom_5 : decode cX3_copyFrom 5 = .ok (.putfield 9, 3) := by decide +kernel
theorem dX3_copyFrom_8 : decode cX3_copyFrom 8 = .ok (.aload_n 0, 1) := by decide +kernel
theorem dX3_copyFrom_9 : decode cX3_copyFrom 9 = .ok (.aload_n 1, 1) := by decide +kernel
theorem dX3_copyFrom_10 : decode cX3_copyFrom 10 = .ok (.getfield 15, 3) := by decide +kernel
theorem dX3_copyFrom_13 : decode cX3_copyFrom 13 = .ok (.putfield 15, 3) := by decide +kernel
theorem dX3_copyFrom_16 : decode cX3_copyFrom 16 = .ok (.aload_n 1, 1) := by decide +kernel
theorem dX3_copyFrom_17 : decode cX3_copyFrom 17 = .ok (.getfield 18, 3) := by decide +kernel
theorem dX3_copyFrom_20 : decode cX3_copyFrom 20 = .ok (.iconst 0, 1) := by decide +kernel
theorem dX3_copyFrom_21 : decode cX3_copyFrom 21 = .ok (.aload_n 0, 1) := by decide +kernel
theorem dX3_copyFrom_22 : decode cX3_copyFrom 22 = .ok (.getfield 18, 3) := by decide +kernel
theorem dX3_copyFrom_25 : decode cX3_copyFrom 25 = .ok (.iconst 0, 1) := by decide +kernel
theorem dX3_copyFrom_26 : decode cX3_copyFrom 26 = .ok (.aload_n 0, 1) := by decide +kernel
theorem dX3_copyFrom_27 : decode cX3_copyFrom 27 = .ok (.getfield 18, 3) := by decide +kernel
theorem dX3_copyFrom_30 : decode cX3_copyFrom 30 = .ok (.arraylength, 1) := by decide +kernel
theorem dX3_copyFrom_31 : decode cX3_copyFrom 31 = .ok (.invokestatic 22, 3) := by decide +kernel
theorem dX3_copyFrom_34 : decode cX3_copyFrom 34 = .ok (.return_, 1) := by decide +kernel
theorem dX3_joinLowest_175 : decode cX3_joinLowest 175 = .ok (.iload 6, 2) := by decide +kernel
theorem dX3_joinLowest_177 : decode cX3_joinLowest 177 = .ok (.bipush 84, 2) := by decide +kernel
theorem dX3_joinLowest_179 : decode cX3_joinLowest 179 = .ok (.if_icmp .ge 49, 3) := by decide +kernel
theorem dX3_joinLowest_228 : decode cX3_joinLowest 228 = .ok (.aload_n 0, 1) := by decide +kernel
theorem dX3_joinLowest_229 : decode cX3_joinLowest 229 = .ok (.dup, 1) := by decide +kernel
theorem dX3_joinLowest_230 : decode cX3_joinLowest 230 = .ok (.getfield 9, 3) := by decide +kernel
theorem dX3_joinLowest_233 : decode cX3_joinLowest 233 = .ok (.iconst 1, 1) := by decide +kernel
theorem dX3_joinLowest_234 : decode cX3_joinLowest 234 = .ok (.isub, 1) := by decide +kernel
theorem dX3_joinLowest_235 : decode cX3_joinLowest 235 = .ok (.putfield 9, 3) := by decide +kernel
theorem dX3_joinLowest_238 : decode cX3_joinLowest 238 = .ok (.return_, 1) := by decide +kernel
theorem dX3_joinLowest_182 : decode cX3_joinLowest 182 = .ok (.iconst 2, 1) := by decide +kernel
theorem dX3_joinLowest_183 : decode cX3_joinLowest 183 = .ok (.istore 7, 2) := by decide +kernel
theorem dX3_joinLowest_185 : decode cX3_joinLowest 185 = .ok (.iload 7, 2) := by decide +kernel
theorem dX3_joinLowest_187 : decode cX3_joinLowest 187 = .ok (.aload_n 0, 1) := by decide +kernel
theorem dX3_joinLowest_188 : decode cX3_joinLowest 188 = .ok (.getfield 9, 3) := by decide +kernel
theorem dX3_joinLowest_191 : decode cX3_joinLowest 191 = .ok (.if_icmp .ge 31, 3) := by decide +kernel
theorem dX3_joinLowest_222 : decode cX3_joinLowest 222 = .ok (.iinc 6 12, 3) := by decide +kernel
theorem dX3_joinLowest_225 : decode cX3_joinLowest 225 = .ok (.goto (-50), 3) := by decide +kernel
theorem dX3_joinLowest_194 : decode cX3_joinLowest 194 = .ok (.aload_n 0, 1) := by decide +kernel
theorem dX3_joinLowest_195 : decode cX3_joinLowest 195 = .ok (.getfield 18, 3) := by decide +kernel
theorem dX3_joinLowest_198 : decode cX3_joinLowest 198 = .ok (.iload 6, 2) := by decide +kernel
theorem dX3_joinLowest_200 : decode cX3_joinLowest 200 = .ok (.iload 7, 2) := by decide +kernel
theorem dX3_joinLowest_202 : decode cX3_joinLowest 202 = .ok (.iadd, 1) := by decide +kernel
theorem dX3_joinLowest_203 : decode cX3_joinLowest 203 = .ok (.iconst 1, 1) := by decide +kernel
theorem dX3_joinLowest_204 : decode cX3_joinLowest 204 = .ok (.isub, 1) := by decide +kernel
theorem dX3_joinLowest_205 : decode cX3_joinLowest 205 = .ok (.aload_n 0, 1) := by decide +kernel
theorem dX3_joinLowest_206 : decode cX3_joinLowest 206 = .ok (.getfield 18, 3) := by decide +kernel
theorem dX3_joinLowest_209 : decode cX3_joinLowest 209 = .ok (.iload 6, 2) := by decide +kernel
theorem dX3_joinLowest_211 : decode cX3_joinLowest 211 = .ok (.iload 7, 2) := by decide +kernel
theorem dX3_joinLowest_213 : decode cX3_joinLowest 213 = .ok (.iadd, 1) := by decide +kernel
theorem dX3_joinLowest_214 : decode cX3_joinLowest 214 = .ok (.iaload, 1) := by decide +kernel
theorem dX3_joinLowest_215 : decode cX3_joinLowest 215 = .ok (.iastore, 1) := by decide +kernel
theorem dX3_joinLowest_216 : decode cX3_joinLowest 216 = .ok (.iinc 7 1, 3) := by decide +kernel
theorem dX3_joinLowest_219 : decode cX3_joinLowest 219 = .ok (.goto (-34), 3) := by decide +kernel
theorem dX3_joinLowest_0 : decode cX3_joinLowest 0 = .ok (.aload_n 0, 1) := by decide +kernel
theorem dX3_joinLowest_1 : decode cX3_joinLowest 1 = .ok (.getfield 18, 3) := by decide +kernel
theorem dX3_joinLowest_4 : decode cX3_joinLowest 4 = .ok (.bipush 12, 2) := by decide +kernel
theorem dX3_joinLowest_6 : decode cX3_joinLowest 6 = .ok (.iaload, 1) := by decide +kernel
theorem dX3_joinLowest_7 : decode cX3_joinLowest 7 = .ok (.i2l, 1) := by decide +kernel
theorem dX3_joinLowest_8 : decode cX3_joinLowest 8 = .ok (.lstore_n 1, 1) := by decide +kernel
theorem dX3_joinLowest_9 : decode cX3_joinLowest 9 = .ok (.aload_n 0, 1) := by decide +kernel
theorem dX3_joinLowest_10 : decode cX3_joinLowest 10 = .ok (.getfield 18, 3) := by decide +kernel
theorem dX3_joinLowest_13 : decode cX3_joinLowest 13 = .ok (.bipush 13, 2) := by decide +kernel
theorem dX3_joinLowest_15 : decode cX3_joinLowest 15 = .ok (.iaload, 1) := by decide +kernel
theorem dX3_joinLowest_16 : decode cX3_joinLowest 16 = .ok (.i2l, 1) := by decide +kernel
theorem dX3_joinLowest_17 : decode cX3_joinLowest 17 = .ok (.lstore_n 3, 1) := by decide +kernel
theorem dX3_joinLowest_18 : decode cX3_joinLowest 18 = .ok (.lload_n 3, 1) := by decide +kernel
theorem dX3_joinLowest_19 : decode cX3_joinLowest 19 = .ok (.lload_n 1, 1) := by decide +kernel
theorem dX3_joinLowest_20 : decode cX3_joinLowest 20 = .ok (.lcmp, 1) := by decide +kernel
theorem dX3_joinLowest_21 : decode cX3_joinLowest 21 = .ok (.ifCond .le 7, 3) := by decide +kernel
theorem dX3_joinLowest_28 : decode cX3_joinLowest 28 = .ok (.iconst 0, 1) := by decide +kernel
theorem dX3_joinLowest_29 : decode cX3_joinLowest 29 = .ok (.istore 5, 2) := by decide +kernel
theorem dX3_joinLowest_31 : decode cX3_joinLowest 31 = .ok (.aload_n 0, 1) := by decide +kernel
theorem dX3_joinLowest_32 : decode cX3_joinLowest 32 = .ok (.getfield 18, 3) := by decide +kernel
theorem dX3_joinLowest_35 : decode cX3_joinLowest 35 = .ok (.iconst 0, 1) := by decide +kernel
theorem dX3_joinLowest_36 : decode cX3_joinLowest 36 = .ok (.aload_n 0, 1) := by decide +kernel
theorem dX3_joinLowest_37 : decode cX3_joinLowest 37 = .ok (.getfield 18, 3) := by decide +kernel
theorem dX3_joinLowest_40 : decode cX3_joinLowest 40 = .ok (.iconst 0, 1) := by decide +kernel
theorem dX3_joinLowest_41 : decode cX3_joinLowest 41 = .ok (.iload 5, 2) := by decide +kernel
theorem dX3_joinLowest_43 : decode cX3_joinLowest 43 = .ok (.iadd, 1) := by decide +kernel
theorem dX3_joinLowest_44 : decode cX3_joinLowest 44 = .ok (.iaload, 1) := by decide +kernel
theorem dX3_joinLowest_45 : decode cX3_joinLowest 45 = .ok (.iastore, 1) := by decide +kernel
theorem dX3_joinLowest_46 : decode cX3_joinLowest 46 = .ok (.aload_n 0, 1) := by decide +kernel
theorem dX3_joinLowest_47 : decode cX3_joinLowest 47 = .ok (.getfield 18, 3) := by decide +kernel
theorem dX3_joinLowest_50 : decode cX3_joinLowest 50 = .ok (.bipush 72, 2) := by decide +kernel
theorem dX3_joinLowest_52 : decode cX3_joinLowest 52 = .ok (.aload_n 0, 1) := by decide +kernel
theorem dX3_joinLowest_53 : decode cX3_joinLowest 53 = .ok (.getfield 18, 3) := by decide +kernel
theorem dX3_joinLowest_56 : decode cX3_joinLowest 56 = .ok (.bipush 72, 2) := by decide +kernel
theorem dX3_joinLowest_58 : decode cX3_joinLowest 58 = .ok (.iload 5, 2) := by decide +kernel
theorem dX3_joinLowest_60 : decode cX3_joinLowest 60 = .ok (.iadd, 1) := by decide +kernel
theorem dX3_joinLowest_61 : decode cX3_joinLowest 61 = .ok (.iaload, 1) := by decide +kernel
theorem dX3_joinLowest_62 : decode cX3_joinLowest 62 = .ok (.iastore, 1) := by decide +kernel
theorem dX3_joinLowest_63 : decode cX3_joinLowest 63 = .ok (.aload_n 0, 1) := by decide +kernel
theorem dX3_joinLowest_64 : decode cX3_joinLowest 64 = .ok (.getfield 18, 3) := by decide +kernel
theorem dX3_joinLowest_67 : decode cX3_joinLowest 67 = .ok (.bipush 48, 2) := by decide +kernel
theorem dX3_joinLowest_69 : decode cX3_joinLowest 69 = .ok (.aload_n 0, 1) := by decide +kernel
theorem dX3_joinLowest_70 : decode cX3_joinLowest 70 = .ok (.getfield 18, 3) := by decide +kernel
theorem dX3_joinLowest_73 : decode cX3_joinLowest 73 = .ok (.bipush 48, 2) := by decide +kernel
theorem dX3_joinLowest_75 : decode cX3_joinLowest 75 = .ok (.iaload, 1) := by decide +kernel
theorem dX3_joinLowest_76 : decode cX3_joinLowest 76 = .ok (.i2l, 1) := by decide +kernel
theorem dX3_joinLowest_77 : decode cX3_joinLowest 77 = .ok (.lload_n 1, 1) := by decide +kernel
theorem dX3_joinLowest_78 : decode cX3_joinLowest 78 = .ok (.lmul, 1) := by decide +kernel
theorem dX3_joinLowest_79 : decode cX3_joinLowest 79 = .ok (.aload_n 0, 1) := by decide +kernel
theorem dX3_joinLowest_80 : decode cX3_joinLowest 80 = .ok (.getfield 18, 3) := by decide +kernel
theorem dX3_joinLowest_83 : decode cX3_joinLowest 83 = .ok (.bipush 49, 2) := by decide +kernel
theorem dX3_joinLowest_85 : decode cX3_joinLowest 85 = .ok (.iaload, 1) := by decide +kernel
theorem dX3_joinLowest_86 : decode cX3_joinLowest 86 = .ok (.i2l, 1) := by decide +kernel
theorem dX3_joinLowest_87 : decode cX3_joinLowest 87 = .ok (.lload_n 3, 1) := by decide +kernel
theorem dX3_joinLowest_88 : decode cX3_joinLowest 88 = .ok (.lmul, 1) := by decide +kernel
theorem dX3_joinLowest_89 : decode cX3_joinLowest 89 = .ok (.ladd, 1) := by decide +kernel
theorem dX3_joinLowest_90 : decode cX3_joinLowest 90 = .ok (.lload_n 1, 1) := by decide +kernel
theorem dX3_joinLowest_91 : decode cX3_joinLowest 91 = .ok (.lload_n 3, 1) := by decide +kernel
theorem dX3_joinLowest_92 : decode cX3_joinLowest 92 = .ok (.ladd, 1) := by decide +kernel
theorem dX3_joinLowest_93 : decode cX3_joinLowest 93 = .ok (.invokestatic 36, 3) := by decide +kernel
theorem dX3_joinLowest_96 : decode cX3_joinLowest 96 = .ok (.iastore, 1) := by decide +kernel
theorem dX3_joinLowest_97 : decode cX3_joinLowest 97 = .ok (.aload_n 0, 1) := by decide +kernel
theorem dX3_joinLowest_98 : decode cX3_joinLowest 98 = .ok (.getfield 18, 3) := by decide +kernel
theorem dX3_joinLowest_101 : decode cX3_joinLowest 101 = .ok (.bipush 12, 2) := by decide +kernel
theorem dX3_joinLowest_103 : decode cX3_joinLowest 103 = .ok (.dup2, 1) := by decide +kernel
theorem dX3_joinLowest_104 : decode cX3_joinLowest 104 = .ok (.iaload, 1) := by decide +kernel
theorem dX3_joinLowest_105 : decode cX3_joinLowest 105 = .ok (.aload_n 0, 1) := by decide +kernel
theorem dX3_joinLowest_106 : decode cX3_joinLowest 106 = .ok (.getfield 18, 3) := by decide +kernel
theorem dX3_joinLowest_109 : decode cX3_joinLowest 109 = .ok (.bipush 13, 2) := by decide +kernel
theorem dX3_joinLowest_111 : decode cX3_joinLowest 111 = .ok (.iaload, 1) := by decide +kernel
theorem dX3_joinLowest_112 : decode cX3_joinLowest 112 = .ok (.iadd, 1) := by decide +kernel
theorem dX3_joinLowest_113 : decode cX3_joinLowest 113 = .ok (.iastore, 1) := by decide +kernel
theorem dX3_joinLowest_114 : decode cX3_joinLowest 114 = .ok (.aload_n 0, 1) := by decide +kernel
theorem dX3_joinLowest_115 : decode cX3_joinLowest 115 = .ok (.getfield 18, 3) := by decide +kernel
theorem dX3_joinLowest_118 : decode cX3_joinLowest 118 = .ok (.bipush 24, 2) := by decide +kernel
theorem dX3_joinLowest_120 : decode cX3_joinLowest 120 = .ok (.dup2, 1) := by decide +kernel
theorem dX3_joinLowest_121 : decode cX3_joinLowest 121 = .ok (.iaload, 1) := by decide +kernel
theorem dX3_joinLowest_122 : decode cX3_joinLowest 122 = .ok (.aload_n 0, 1) := by decide +kernel
theorem dX3_joinLowest_123 : decode cX3_joinLowest 123 = .ok (.getfield 18, 3) := by decide +kernel
theorem dX3_joinLowest_126 : decode cX3_joinLowest 126 = .ok (.bipush 25, 2) := by decide +kernel
theorem dX3_joinLowest_128 : decode cX3_joinLowest 128 = .ok (.iaload, 1) := by decide +kernel
theorem dX3_joinLowest_129 : decode cX3_joinLowest 129 = .ok (.iadd, 1) := by decide +kernel
theorem dX3_joinLowest_130 : decode cX3_joinLowest 130 = .ok (.iastore, 1) := by decide +kernel
theorem dX3_joinLowest_131 : decode cX3_joinLowest 131 = .ok (.aload_n 0, 1) := by decide +kernel
theorem dX3_joinLowest_132 : decode cX3_joinLowest 132 = .ok (.getfield 18, 3) := by decide +kernel
theorem dX3_joinLowest_135 : decode cX3_joinLowest 135 = .ok (.bipush 36, 2) := by decide +kernel
theorem dX3_joinLowest_137 : decode cX3_joinLowest 137 = .ok (.dup2, 1) := by decide +kernel
theorem dX3_joinLowest_138 : decode cX3_joinLowest 138 = .ok (.iaload, 1) := by decide +kernel
theorem dX3_joinLowest_139 : decode cX3_joinLowest 139 = .ok (.aload_n 0, 1) := by decide +kernel
theorem dX3_joinLowest_140 : decode cX3_joinLowest 140 = .ok (.getfield 18, 3) := by decide +kernel
theorem dX3_joinLowest_143 : decode cX3_joinLowest 143 = .ok (.bipush 37, 2) := by decide +kernel
theorem dX3_joinLowest_145 : decode cX3_joinLowest 145 = .ok (.iaload, 1) := by decide +kernel
theorem dX3_joinLowest_146 : decode cX3_joinLowest 146 = .ok (.iadd, 1) := by decide +kernel
theorem dX3_joinLowest_147 : decode cX3_joinLowest 147 = .ok (.iastore, 1) := by decide +kernel
theorem dX3_joinLowest_148 : decode cX3_joinLowest 148 = .ok (.aload_n 0, 1) := by decide +kernel
theorem dX3_joinLowest_149 : decode cX3_joinLowest 149 = .ok (.getfield 18, 3) := by decide +kernel
theorem dX3_joinLowest_152 : decode cX3_joinLowest 152 = .ok (.bipush 60, 2) := by decide +kernel
theorem dX3_joinLowest_154 : decode cX3_joinLowest 154 = .ok (.aload_n 0, 1) := by decide +kernel
theorem dX3_joinLowest_155 : decode cX3_joinLowest 155 = .ok (.getfield 18, 3) := by decide +kernel
theorem dX3_joinLowest_158 : decode cX3_joinLowest 158 = .ok (.bipush 60, 2) := by decide +kernel
theorem dX3_joinLowest_160 : decode cX3_joinLowest 160 = .ok (.iaload, 1) := by decide +kernel
theorem dX3_joinLowest_161 : decode cX3_joinLowest 161 = .ok (.aload_n 0, 1) := by decide +kernel
theorem dX3_joinLowest_162 : decode cX3_joinLowest 162 = .ok (.getfield 18, 3) := by decide +kernel
theorem dX3_joinLowest_165 : decode cX3_joinLowest 165 = .ok (.bipush 61, 2) := by decide +kernel
theorem dX3_joinLowest_167 : decode cX3_joinLowest 167 = .ok (.iaload, 1) := by decide +kernel
theorem dX3_joinLowest_168 : decode cX3_joinLowest 168 = .ok (.invokestatic 40, 3) := by decide +kernel
theorem dX3_joinLowest_171 : decode cX3_joinLowest 171 = .ok (.iastore, 1) := by decide +kernel
theorem dX3_joinLowest_172 : decode cX3_joinLowest 172 = .ok (.iconst 0, 1) := by decide +kernel
theorem dX3_joinLowest_173 : decode cX3_joinLowest 173 = .ok (.istore 6, 2) := by decide +kernel
theorem dX3_joinLowest_24 : decode cX3_joinLowest 24 = .ok (.iconst 1, 1) := by decide +kernel
theorem dX3_joinLowest_25 : decode cX3_joinLowest 25 = .ok (.goto 4, 3) := by decide +kernel
