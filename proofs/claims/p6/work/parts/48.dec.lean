-- decode rows of guess
theorem dX9_matters_0 : decode cX9_matters 0 = .ok (.aload_n 0, 1) := by decide +kernel
theorem dX9_matters_1 : decode cX9_matters 1 = .ok (.iload_n 1, 1) := by decide +kernel
theorem dX9_matters_2 : decode cX9_matters 2 = .ok (.invokevirtual 300, 3) := by decide +kernel
theorem dX9_matters_5 : decode cX9_matters 5 = .ok (.iload_n 3, 1) := by decide +kernel
theorem dX9_matters_6 : decode cX9_matters 6 = .ok (.iconst 1, 1) := by decide +kernel
theorem dX9_matters_7 : decode cX9_matters 7 = .ok (.invokestatic 303, 3) := by decide +kernel
theorem dX9_matters_10 : decode cX9_matters 10 = .ok (.iload_n 2, 1) := by decide +kernel
theorem dX9_matters_11 : decode cX9_matters 11 = .ok (.iconst 1, 1) := by decide +kernel
theorem dX9_matters_12 : decode cX9_matters 12 = .ok (.bipush 48, 2) := by decide +kernel
theorem dX9_matters_14 : decode cX9_matters 14 = .ok (.invokestatic 307, 3) := by decide +kernel
theorem dX9_matters_17 : decode cX9_matters 17 = .ok (.aload_n 0, 1) := by decide +kernel
theorem dX9_matters_18 : decode cX9_matters 18 = .ok (.getfield 48, 3) := by decide +kernel
theorem dX9_matters_21 : decode cX9_matters 21 = .ok (.aload_n 0, 1) := by decide +kernel
theorem dX9_matters_22 : decode cX9_matters 22 = .ok (.getfield 30, 3) := by decide +kernel
theorem dX9_matters_25 : decode cX9_matters 25 = .ok (.invokevirtual 104, 3) := by decide +kernel
theorem dX9_matters_28 : decode cX9_matters 28 = .ok (.aload_n 0, 1) := by decide +kernel
theorem dX9_matters_29 : decode cX9_matters 29 = .ok (.iload_n 1, 1) := by decide +kernel
theorem dX9_matters_30 : decode cX9_matters 30 = .ok (.iload_n 2, 1) := by decide +kernel
theorem dX9_matters_31 : decode cX9_matters 31 = .ok (.invokevirtual 330, 3) := by decide +kernel
theorem dX9_matters_34 : decode cX9_matters 34 = .ok (.istore 4, 2) := by decide +kernel
theorem dX9_matters_36 : decode cX9_matters 36 = .ok (.iconst (-1), 1) := by decide +kernel
theorem dX9_matters_37 : decode cX9_matters 37 = .ok (.istore 5, 2) := by decide +kernel
theorem dX9_matters_39 : decode cX9_matters 39 = .ok (.iconst 0, 1) := by decide +kernel
theorem dX9_matters_40 : decode cX9_matters 40 = .ok (.istore 6, 2) := by decide +kernel
theorem dX9_matters_42 : decode cX9_matters 42 = .ok (.iconst 0, 1) := by decide +kernel
theorem dX9_matters_43 : decode cX9_matters 43 = .ok (.istore 7, 2) := by decide +kernel
theorem dX9_matters_45 : decode cX9_matters 45 = .ok (.iload 7, 2) := by decide +kernel
theorem dX9_matters_47 : decode cX9_matters 47 = .ok (.aload_n 0, 1) := by decide +kernel
theorem dX9_matters_48 : decode cX9_matters 48 = .ok (.getfield 30, 3) := by decide +kernel
theorem dX9_matters_51 : decode cX9_matters 51 = .ok (.getfield 118, 3) := by decide +kernel
theorem dX9_matters_54 : decode cX9_matters 54 = .ok (.if_icmp .ge 82, 3) := by decide +kernel
theorem dX9_matters_136 : decode cX9_matters 136 = .ok (.iload_n 3, 1) := by decide +kernel
theorem dX9_matters_137 : decode cX9_matters 137 = .ok (.ifCond .ne 8, 3) := by decide +kernel
theorem dX9_matters_145 : decode cX9_matters 145 = .ok (.iload 6, 2) := by decide +kernel
theorem dX9_matters_147 : decode cX9_matters 147 = .ok (.ireturn, 1) := by decide +kernel
theorem dX9_matters_140 : decode cX9_matters 140 = .ok (.iload 5, 2) := by decide +kernel
theorem dX9_matters_142 : decode cX9_matters 142 = .ok (.goto 5, 3) := by decide +kernel
theorem dX9_matters_57 : decode cX9_matters 57 = .ok (.aload_n 0, 1) := by decide +kernel
theorem dX9_matters_58 : decode cX9_matters 58 = .ok (.getfield 30, 3) := by decide +kernel
theorem dX9_matters_61 : decode cX9_matters 61 = .ok (.getfield 175, 3) := by decide +kernel
theorem dX9_matters_64 : decode cX9_matters 64 = .ok (.iload 7, 2) := by decide +kernel
theorem dX9_matters_66 : decode cX9_matters 66 = .ok (.iaload, 1) := by decide +kernel
theorem dX9_matters_67 : decode cX9_matters 67 = .ok (.ifCond .eq 63, 3) := by decide +kernel
theorem dX9_matters_130 : decode cX9_matters 130 = .ok (.iinc 7 1, 3) := by decide +kernel
theorem dX9_matters_133 : decode cX9_matters 133 = .ok (.goto (-88), 3) := by decide +kernel
theorem dX9_matters_70 : decode cX9_matters 70 = .ok (.aload_n 0, 1) := by decide +kernel
theorem dX9_matters_71 : decode cX9_matters 71 = .ok (.getfield 48, 3) := by decide +kernel
theorem dX9_matters_74 : decode cX9_matters 74 = .ok (.getfield 175, 3) := by decide +kernel
theorem dX9_matters_77 : decode cX9_matters 77 = .ok (.iload 7, 2) := by decide +kernel
theorem dX9_matters_79 : decode cX9_matters 79 = .ok (.iconst 0, 1) := by decide +kernel
theorem dX9_matters_80 : decode cX9_matters 80 = .ok (.iastore, 1) := by decide +kernel
theorem dX9_matters_81 : decode cX9_matters 81 = .ok (.aload_n 0, 1) := by decide +kernel
theorem dX9_matters_82 : decode cX9_matters 82 = .ok (.iload_n 1, 1) := by decide +kernel
theorem dX9_matters_83 : decode cX9_matters 83 = .ok (.iload_n 2, 1) := by decide +kernel
theorem dX9_matters_84 : decode cX9_matters 84 = .ok (.invokevirtual 330, 3) := by decide +kernel
theorem dX9_matters_87 : decode cX9_matters 87 = .ok (.iload 4, 2) := by decide +kernel
theorem dX9_matters_89 : decode cX9_matters 89 = .ok (.isub, 1) := by decide +kernel
theorem dX9_matters_90 : decode cX9_matters 90 = .ok (.invokestatic 333, 3) := by decide +kernel
theorem dX9_matters_93 : decode cX9_matters 93 = .ok (.istore 8, 2) := by decide +kernel
theorem dX9_matters_95 : decode cX9_matters 95 = .ok (.aload_n 0, 1) := by decide +kernel
theorem dX9_matters_96 : decode cX9_matters 96 = .ok (.getfield 48, 3) := by decide +kernel
theorem dX9_matters_99 : decode cX9_matters 99 = .ok (.getfield 175, 3) := by decide +kernel
theorem dX9_matters_102 : decode cX9_matters 102 = .ok (.iload 7, 2) := by decide +kernel
theorem dX9_matters_104 : decode cX9_matters 104 = .ok (.aload_n 0, 1) := by decide +kernel
theorem dX9_matters_105 : decode cX9_matters 105 = .ok (.getfield 30, 3) := by decide +kernel
theorem dX9_matters_108 : decode cX9_matters 108 = .ok (.getfield 175, 3) := by decide +kernel
theorem dX9_matters_111 : decode cX9_matters 111 = .ok (.iload 7, 2) := by decide +kernel
theorem dX9_matters_113 : decode cX9_matters 113 = .ok (.iaload, 1) := by decide +kernel
theorem dX9_matters_114 : decode cX9_matters 114 = .ok (.iastore, 1) := by decide +kernel
theorem dX9_matters_115 : decode cX9_matters 115 = .ok (.iload 8, 2) := by decide +kernel
theorem dX9_matters_117 : decode cX9_matters 117 = .ok (.iload 6, 2) := by decide +kernel
theorem dX9_matters_119 : decode cX9_matters 119 = .ok (.if_icmp .le 11, 3) := by decide +kernel
theorem dX9_matters_122 : decode cX9_matters 122 = .ok (.iload 7, 2) := by decide +kernel
theorem dX9_matters_124 : decode cX9_matters 124 = .ok (.istore 5, 2) := by decide +kernel
theorem dX9_matters_126 : decode cX9_matters 126 = .ok (.iload 8, 2) := by decide +kernel
theorem dX9_matters_128 : decode cX9_matters 128 = .ok (.istore 6, 2) := by decide +kernel
theorem dX9_isNotedSo_0 : decode cX9_isNotedSo 0 = .ok (.aload_n 0, 1) := by decide +kernel
theorem dX9_isNotedSo_1 : decode cX9_isNotedSo 1 = .ok (.getfield 37, 3) := by decide +kernel
theorem dX9_isNotedSo_4 : decode cX9_isNotedSo 4 = .ok (.getfield 156, 3) := by decide +kernel
theorem dX9_isNotedSo_7 : decode cX9_isNotedSo 7 = .ok (.astore 6, 2) := by decide +kernel
theorem dX9_isNotedSo_9 : decode cX9_isNotedSo 9 = .ok (.iload 4, 2) := by decide +kernel
theorem dX9_isNotedSo_11 : decode cX9_isNotedSo 11 = .ok (.istore 7, 2) := by decide +kernel
theorem dX9_isNotedSo_13 : decode cX9_isNotedSo 13 = .ok (.iload 7, 2) := by decide +kernel
theorem dX9_isNotedSo_15 : decode cX9_isNotedSo 15 = .ok (.iload 5, 2) := by decide +kernel
theorem dX9_isNotedSo_17 : decode cX9_isNotedSo 17 = .ok (.if_icmp .gt 86, 3) := by decide +kernel
theorem dX9_isNotedSo_103 : decode cX9_isNotedSo 103 = .ok (.iconst 1, 1) := by decide +kernel
theorem dX9_isNotedSo_104 : decode cX9_isNotedSo 104 = .ok (.ireturn, 1) := by decide +kernel
theorem dX9_isNotedSo_20 : decode cX9_isNotedSo 20 = .ok (.iload 7, 2) := by decide +kernel
theorem dX9_isNotedSo_22 : decode cX9_isNotedSo 22 = .ok (.iload 4, 2) := by decide +kernel
theorem dX9_isNotedSo_24 : decode cX9_isNotedSo 24 = .ok (.if_icmp .le 10, 3) := by decide +kernel
theorem dX9_isNotedSo_34 : decode cX9_isNotedSo 34 = .ok (.iconst 0, 1) := by decide +kernel
theorem dX9_isNotedSo_35 : decode cX9_isNotedSo 35 = .ok (.istore 8, 2) := by decide +kernel
theorem dX9_isNotedSo_37 : decode cX9_isNotedSo 37 = .ok (.iload 8, 2) := by decide +kernel
theorem dX9_isNotedSo_39 : decode cX9_isNotedSo 39 = .ok (.aload 6, 2) := by decide +kernel
theorem dX9_isNotedSo_41 : decode cX9_isNotedSo 41 = .ok (.getfield 160, 3) := by decide +kernel
theorem dX9_isNotedSo_44 : decode cX9_isNotedSo 44 = .ok (.if_icmp .ge 53, 3) := by decide +kernel
theorem dX9_isNotedSo_97 : decode cX9_isNotedSo 97 = .ok (.iinc 7 1, 3) := by decide +kernel
theorem dX9_isNotedSo_100 : decode cX9_isNotedSo 100 = .ok (.goto (-87), 3) := by decide +kernel
theorem dX9_isNotedSo_47 : decode cX9_isNotedSo 47 = .ok (.aload 6, 2) := by decide +kernel
theorem dX9_isNotedSo_49 : decode cX9_isNotedSo 49 = .ok (.getfield 427, 3) := by decide +kernel
theorem dX9_isNotedSo_52 : decode cX9_isNotedSo 52 = .ok (.iload 8, 2) := by decide +kernel
theorem dX9_isNotedSo_54 : decode cX9_isNotedSo 54 = .ok (.iaload, 1) := by decide +kernel
theorem dX9_isNotedSo_55 : decode cX9_isNotedSo 55 = .ok (.iload 7, 2) := by decide +kernel
theorem dX9_isNotedSo_57 : decode cX9_isNotedSo 57 = .ok (.if_icmp .ne 34, 3) := by decide +kernel
theorem dX9_isNotedSo_91 : decode cX9_isNotedSo 91 = .ok (.iinc 8 1, 3) := by decide +kernel
theorem dX9_isNotedSo_94 : decode cX9_isNotedSo 94 = .ok (.goto (-57), 3) := by decide +kernel
theorem dX9_isNotedSo_60 : decode cX9_isNotedSo 60 = .ok (.aload 6, 2) := by decide +kernel
theorem dX9_isNotedSo_62 : decode cX9_isNotedSo 62 = .ok (.getfield 429, 3) := by decide +kernel
theorem dX9_isNotedSo_65 : decode cX9_isNotedSo 65 = .ok (.iload 8, 2) := by decide +kernel
theorem dX9_isNotedSo_67 : decode cX9_isNotedSo 67 = .ok (.iaload, 1) := by decide +kernel
theorem dX9_isNotedSo_68 : decode cX9_isNotedSo 68 = .ok (.aload_n 1, 1) := by decide +kernel
theorem dX9_isNotedSo_69 : decode cX9_isNotedSo 69 = .ok (.getfield 280, 3) := by decide +kernel
theorem dX9_isNotedSo_72 : decode cX9_isNotedSo 72 = .ok (.aload 6, 2) := by decide +kernel
theorem dX9_isNotedSo_74 : decode cX9_isNotedSo 74 = .ok (.getfield 432, 3) := by decide +kernel
theorem dX9_isNotedSo_77 : decode cX9_isNotedSo 77 = .ok (.iload 8, 2) := by decide +kernel
theorem dX9_isNotedSo_79 : decode cX9_isNotedSo 79 = .ok (.iaload, 1) := by decide +kernel
theorem dX9_isNotedSo_80 : decode cX9_isNotedSo 80 = .ok (.aaload, 1) := by decide +kernel
theorem dX9_isNotedSo_81 : decode cX9_isNotedSo 81 = .ok (.bipush 36, 2) := by decide +kernel
theorem dX9_isNotedSo_83 : decode cX9_isNotedSo 83 = .ok (.invokevirtual 196, 3) := by decide +kernel
theorem dX9_isNotedSo_86 : decode cX9_isNotedSo 86 = .ok (.if_icmp .eq 5, 3) := by decide +kernel
theorem dX9_isNotedSo_89 : decode cX9_isNotedSo 89 = .ok (.iconst 0, 1) := by decide +kernel
theorem dX9_isNotedSo_90 : decode cX9_isNotedSo 90 = .ok (.ireturn, 1) := by decide +kernel
theorem dX9_isNotedSo_27 : decode cX9_isNotedSo 27 = .ok (.aload_n 1, 1) := by decide +kernel
theorem dX9_isNotedSo_28 : decode cX9_isNotedSo 28 = .ok (.aload_n 2, 1) := by decide +kernel
theorem dX9_isNotedSo_29 : decode cX9_isNotedSo 29 = .ok (.iload_n 3, 1) := by decide +kernel
theorem dX9_isNotedSo_30 : decode cX9_isNotedSo 30 = .ok (.iconst 1, 1) := by decide +kernel
theorem dX9_isNotedSo_31 : decode cX9_isNotedSo 31 = .ok (.invokevirtual 264, 3) := by decide +kernel
theorem dX9_lookFrom_0 : decode cX9_lookFrom 0 = .ok (.aload_n 0, 1) := by decide +kernel
theorem dX9_lookFrom_1 : decode cX9_lookFrom 1 = .ok (.getfield 54, 3) := by decide +kernel
theorem dX9_lookFrom_4 : decode cX9_lookFrom 4 = .ok (.aload_n 0, 1) := by decide +kernel
theorem dX9_lookFrom_5 : decode cX9_lookFrom 5 = .ok (.getfield 58, 3) := by decide +kernel
theorem dX9_lookFrom_8 : decode cX9_lookFrom 8 = .ok (.invokevirtual 311, 3) := by decide +kernel
theorem dX9_lookFrom_11 : decode cX9_lookFrom 11 = .ok (.iload_n 1, 1) := by decide +kernel
theorem dX9_lookFrom_12 : decode cX9_lookFrom 12 = .ok (.istore_n 2, 1) := by decide +kernel
theorem dX9_lookFrom_13 : decode cX9_lookFrom 13 = .ok (.iload_n 2, 1) := by decide +kernel
theorem dX9_lookFrom_14 : decode cX9_lookFrom 14 = .ok (.bipush 24, 2) := by decide +kernel
theorem dX9_lookFrom_16 : decode cX9_lookFrom 16 = .ok (.if_icmp .ge 28, 3) := by decide +kernel
theorem dX9_lookFrom_44 : decode cX9_lookFrom 44 = .ok (.iconst 0, 1) := by decide +kernel
theorem dX9_lookFrom_45 : decode cX9_lookFrom 45 = .ok (.istore_n 2, 1) := by decide +kernel
theorem dX9_lookFrom_46 : decode cX9_lookFrom 46 = .ok (.iload_n 2, 1) := by decide +kernel
theorem dX9_lookFrom_47 : decode cX9_lookFrom 47 = .ok (.aload_n 0, 1) := by decide +kernel
theorem dX9_lookFrom_48 : decode cX9_lookFrom 48 = .ok (.getfield 30, 3) := by decide +kernel
theorem dX9_lookFrom_51 : decode cX9_lookFrom 51 = .ok (.getfield 115, 3) := by decide +kernel
theorem dX9_lookFrom_54 : decode cX9_lookFrom 54 = .ok (.if_icmp .ge 31, 3) := by decide +kernel
theorem dX9_lookFrom_85 : decode cX9_lookFrom 85 = .ok (.return_, 1) := by decide +kernel
theorem dX9_lookFrom_57 : decode cX9_lookFrom 57 = .ok (.aload_n 0, 1) := by decide +kernel
theorem dX9_lookFrom_58 : decode cX9_lookFrom 58 = .ok (.getfield 64, 3) := by decide +kernel
theorem dX9_lookFrom_61 : decode cX9_lookFrom 61 = .ok (.iload_n 2, 1) := by decide +kernel
theorem dX9_lookFrom_62 : decode cX9_lookFrom 62 = .ok (.aload_n 0, 1) := by decide +kernel
theorem dX9_lookFrom_63 : decode cX9_lookFrom 63 = .ok (.getfield 54, 3) := by decide +kernel
theorem dX9_lookFrom_66 : decode cX9_lookFrom 66 = .ok (.getfield 280, 3) := by decide +kernel
theorem dX9_lookFrom_69 : decode cX9_lookFrom 69 = .ok (.iload_n 2, 1) := by decide +kernel
theorem dX9_lookFrom_70 : decode cX9_lookFrom 70 = .ok (.aaload, 1) := by decide +kernel
theorem dX9_lookFrom_71 : decode cX9_lookFrom 71 = .ok (.bipush 36, 2) := by decide +kernel
theorem dX9_lookFrom_73 : decode cX9_lookFrom 73 = .ok (.invokevirtual 196, 3) := by decide +kernel
theorem dX9_lookFrom_76 : decode cX9_lookFrom 76 = .ok (.invokevirtual 451, 3) := by decide +kernel
theorem dX9_lookFrom_79 : decode cX9_lookFrom 79 = .ok (.iinc 2 1, 3) := by decide +kernel
theorem dX9_lookFrom_82 : decode cX9_lookFrom 82 = .ok (.goto (-36), 3) := by decide +kernel
theorem dX9_lookFrom_19 : decode cX9_lookFrom 19 = .ok (.aload_n 0, 1) := by decide +kernel
theorem dX9_lookFrom_20 : decode cX9_lookFrom 20 = .ok (.getfield 54, 3) := by decide +kernel
theorem dX9_lookFrom_23 : decode cX9_lookFrom 23 = .ok (.aload_n 0, 1) := by decide +kernel
theorem dX9_lookFrom_24 : decode cX9_lookFrom 24 = .ok (.getfield 48, 3) := by decide +kernel
theorem dX9_lookFrom_27 : decode cX9_lookFrom 27 = .ok (.aload_n 0, 1) := by decide +kernel
theorem dX9_lookFrom_28 : decode cX9_lookFrom 28 = .ok (.getfield 30, 3) := by decide +kernel
theorem dX9_lookFrom_31 : decode cX9_lookFrom 31 = .ok (.invokevirtual 261, 3) := by decide +kernel
theorem dX9_lookFrom_34 : decode cX9_lookFrom 34 = .ok (.iconst 1, 1) := by decide +kernel
theorem dX9_lookFrom_35 : decode cX9_lookFrom 35 = .ok (.invokevirtual 264, 3) := by decide +kernel
theorem dX9_lookFrom_38 : decode cX9_lookFrom 38 = .ok (.iinc 2 1, 3) := by decide +kernel
theorem dX9_lookFrom_41 : decode cX9_lookFrom 41 = .ok (.goto (-28), 3) := by decide +kernel
theorem dX9_guessMuch_0 : decode cX9_guessMuch 0 = .ok (.aload_n 0, 1) := by decide +kernel
theorem dX9_guessMuch_1 : decode cX9_guessMuch 1 = .ok (.getfield 37, 3) := by decide +kernel
theorem dX9_guessMuch_4 : decode cX9_guessMuch 4 = .ok (.getfield 156, 3) := by decide +kernel
theorem dX9_guessMuch_7 : decode cX9_guessMuch 7 = .ok (.invokevirtual 444, 3) := by decide +kernel
theorem dX9_guessMuch_10 : decode cX9_guessMuch 10 = .ok (.istore 4, 2) := by decide +kernel
theorem dX9_guessMuch_12 : decode cX9_guessMuch 12 = .ok (.aload_n 0, 1) := by decide +kernel
theorem dX9_guessMuch_13 : decode cX9_guessMuch 13 = .ok (.getfield 37, 3) := by decide +kernel
theorem dX9_guessMuch_16 : decode cX9_guessMuch 16 = .ok (.getfield 156, 3) := by decide +kernel
theorem dX9_guessMuch_19 : decode cX9_guessMuch 19 = .ok (.invokevirtual 376, 3) := by decide +kernel
theorem dX9_guessMuch_22 : decode cX9_guessMuch 22 = .ok (.istore 5, 2) := by decide +kernel
theorem dX9_guessMuch_24 : decode cX9_guessMuch 24 = .ok (.iconst 1, 1) := by decide +kernel
theorem dX9_guessMuch_25 : decode cX9_guessMuch 25 = .ok (.istore 6, 2) := by decide +kernel
theorem dX9_guessMuch_27 : decode cX9_guessMuch 27 = .ok (.iload 6, 2) := by decide +kernel
theorem dX9_guessMuch_29 : decode cX9_guessMuch 29 = .ok (.bipush 50, 2) := by decide +kernel
theorem dX9_guessMuch_31 : decode cX9_guessMuch 31 = .ok (.if_icmp .gt 88, 3) := by decide +kernel
theorem dX9_guessMuch_119 : decode cX9_guessMuch 119 = .ok (.aload_n 0, 1) := by decide +kernel
theorem dX9_guessMuch_120 : decode cX9_guessMuch 120 = .ok (.getfield 48, 3) := by decide +kernel
theorem dX9_guessMuch_123 : decode cX9_guessMuch 123 = .ok (.getfield 178, 3) := by decide +kernel
theorem dX9_guessMuch_126 : decode cX9_guessMuch 126 = .ok (.iload_n 1, 1) := by decide +kernel
theorem dX9_guessMuch_127 : decode cX9_guessMuch 127 = .ok (.aload_n 0, 1) := by decide +kernel
theorem dX9_guessMuch_128 : decode cX9_guessMuch 128 = .ok (.getfield 30, 3) := by decide +kernel
theorem dX9_guessMuch_131 : decode cX9_guessMuch 131 = .ok (.getfield 178, 3) := by decide +kernel
theorem dX9_guessMuch_134 : decode cX9_guessMuch 134 = .ok (.iload_n 1, 1) := by decide +kernel
theorem dX9_guessMuch_135 : decode cX9_guessMuch 135 = .ok (.iaload, 1) := by decide +kernel
theorem dX9_guessMuch_136 : decode cX9_guessMuch 136 = .ok (.iastore, 1) := by decide +kernel
theorem dX9_guessMuch_137 : decode cX9_guessMuch 137 = .ok (.return_, 1) := by decide +kernel
theorem dX9_guessMuch_34 : decode cX9_guessMuch 34 = .ok (.aload_n 0, 1) := by decide +kernel
theorem dX9_guessMuch_35 : decode cX9_guessMuch 35 = .ok (.getfield 48, 3) := by decide +kernel
theorem dX9_guessMuch_38 : decode cX9_guessMuch 38 = .ok (.getfield 178, 3) := by decide +kernel
theorem dX9_guessMuch_41 : decode cX9_guessMuch 41 = .ok (.iload_n 1, 1) := by decide +kernel
theorem dX9_guessMuch_42 : decode cX9_guessMuch 42 = .ok (.iload 6, 2) := by decide +kernel
theorem dX9_guessMuch_44 : decode cX9_guessMuch 44 = .ok (.iastore, 1) := by decide +kernel
theorem dX9_guessMuch_45 : decode cX9_guessMuch 45 = .ok (.aload_n 0, 1) := by decide +kernel
theorem dX9_guessMuch_46 : decode cX9_guessMuch 46 = .ok (.getfield 54, 3) := by decide +kernel
theorem dX9_guessMuch_49 : decode cX9_guessMuch 49 = .ok (.aload_n 0, 1) := by decide +kernel
theorem dX9_guessMuch_50 : decode cX9_guessMuch 50 = .ok (.getfield 58, 3) := by decide +kernel
theorem dX9_guessMuch_53 : decode cX9_guessMuch 53 = .ok (.invokevirtual 311, 3) := by decide +kernel
theorem dX9_guessMuch_56 : decode cX9_guessMuch 56 = .ok (.iload 6, 2) := by decide +kernel
theorem dX9_guessMuch_58 : decode cX9_guessMuch 58 = .ok (.aload_n 0, 1) := by decide +kernel
theorem dX9_guessMuch_59 : decode cX9_guessMuch 59 = .ok (.getfield 30, 3) := by decide +kernel
theorem dX9_guessMuch_62 : decode cX9_guessMuch 62 = .ok (.getfield 178, 3) := by decide +kernel
theorem dX9_guessMuch_65 : decode cX9_guessMuch 65 = .ok (.iload_n 1, 1) := by decide +kernel
theorem dX9_guessMuch_66 : decode cX9_guessMuch 66 = .ok (.iaload, 1) := by decide +kernel
theorem dX9_guessMuch_67 : decode cX9_guessMuch 67 = .ok (.if_icmp .eq 46, 3) := by decide +kernel
theorem dX9_guessMuch_113 : decode cX9_guessMuch 113 = .ok (.iinc 6 1, 3) := by decide +kernel
theorem dX9_guessMuch_116 : decode cX9_guessMuch 116 = .ok (.goto (-89), 3) := by decide +kernel
theorem dX9_guessMuch_70 : decode cX9_guessMuch 70 = .ok (.aload_n 0, 1) := by decide +kernel
theorem dX9_guessMuch_71 : decode cX9_guessMuch 71 = .ok (.aload_n 0, 1) := by decide +kernel
theorem dX9_guessMuch_72 : decode cX9_guessMuch 72 = .ok (.getfield 54, 3) := by decide +kernel
theorem dX9_guessMuch_75 : decode cX9_guessMuch 75 = .ok (.aload_n 0, 1) := by decide +kernel
theorem dX9_guessMuch_76 : decode cX9_guessMuch 76 = .ok (.getfield 48, 3) := by decide +kernel
theorem dX9_guessMuch_79 : decode cX9_guessMuch 79 = .ok (.iload 4, 2) := by decide +kernel
theorem dX9_guessMuch_81 : decode cX9_guessMuch 81 = .ok (.iload_n 2, 1) := by decide +kernel
theorem dX9_guessMuch_82 : decode cX9_guessMuch 82 = .ok (.iload 5, 2) := by decide +kernel
theorem dX9_guessMuch_84 : decode cX9_guessMuch 84 = .ok (.invokevirtual 379, 3) := by decide +kernel
theorem dX9_guessMuch_87 : decode cX9_guessMuch 87 = .ok (.ifCond .eq 26, 3) := by decide +kernel
theorem dX9_guessMuch_90 : decode cX9_guessMuch 90 = .ok (.aload_n 0, 1) := by decide +kernel
theorem dX9_guessMuch_91 : decode cX9_guessMuch 91 = .ok (.getfield 64, 3) := by decide +kernel
theorem dX9_guessMuch_94 : decode cX9_guessMuch 94 = .ok (.bipush 100, 2) := by decide +kernel
theorem dX9_guessMuch_96 : decode cX9_guessMuch 96 = .ok (.iload_n 1, 1) := by decide +kernel
theorem dX9_guessMuch_97 : decode cX9_guessMuch 97 = .ok (.imul, 1) := by decide +kernel
theorem dX9_guessMuch_98 : decode cX9_guessMuch 98 = .ok (.iload 6, 2) := by decide +kernel
theorem dX9_guessMuch_100 : decode cX9_guessMuch 100 = .ok (.iadd, 1) := by decide +kernel
theorem dX9_guessMuch_101 : decode cX9_guessMuch 101 = .ok (.invokevirtual 446, 3) := by decide +kernel
theorem dX9_guessMuch_104 : decode cX9_guessMuch 104 = .ok (.iload_n 3, 1) := by decide +kernel
theorem dX9_guessMuch_105 : decode cX9_guessMuch 105 = .ok (.ifCond .eq 8, 3) := by decide +kernel
theorem dX9_guessMuch_108 : decode cX9_guessMuch 108 = .ok (.aload_n 0, 1) := by decide +kernel
theorem dX9_guessMuch_109 : decode cX9_guessMuch 109 = .ok (.iload_n 2, 1) := by decide +kernel
theorem dX9_guessMuch_110 : decode cX9_guessMuch 110 = .ok (.invokevirtual 448, 3) := by decide +kernel
theorem dX9_guessFalls_0 : decode cX9_guessFalls 0 = .ok (.aload_n 0, 1) := by decide +kernel
theorem dX9_guessFalls_1 : decode cX9_guessFalls 1 = .ok (.getfield 64, 3) := by decide +kernel
theorem dX9_guessFalls_4 : decode cX9_guessFalls 4 = .ok (.invokevirtual 434, 3) := by decide +kernel
theorem dX9_guessFalls_7 : decode cX9_guessFalls 7 = .ok (.aload_n 0, 1) := by decide +kernel
theorem dX9_guessFalls_8 : decode cX9_guessFalls 8 = .ok (.getfield 48, 3) := by decide +kernel
theorem dX9_guessFalls_11 : decode cX9_guessFalls 11 = .ok (.aload_n 0, 1) := by decide +kernel
theorem dX9_guessFalls_12 : decode cX9_guessFalls 12 = .ok (.getfield 30, 3) := by decide +kernel
theorem dX9_guessFalls_15 : decode cX9_guessFalls 15 = .ok (.invokevirtual 104, 3) := by decide +kernel
theorem dX9_guessFalls_18 : decode cX9_guessFalls 18 = .ok (.iconst 0, 1) := by decide +kernel
theorem dX9_guessFalls_19 : decode cX9_guessFalls 19 = .ok (.istore_n 2, 1) := by decide +kernel
theorem dX9_guessFalls_20 : decode cX9_guessFalls 20 = .ok (.iload_n 2, 1) := by decide +kernel
theorem dX9_guessFalls_21 : decode cX9_guessFalls 21 = .ok (.aload_n 0, 1) := by decide +kernel
theorem dX9_guessFalls_22 : decode cX9_guessFalls 22 = .ok (.getfield 30, 3) := by decide +kernel
theorem dX9_guessFalls_25 : decode cX9_guessFalls 25 = .ok (.getfield 118, 3) := by decide +kernel
theorem dX9_guessFalls_28 : decode cX9_guessFalls 28 = .ok (.if_icmp .ge 103, 3) := by decide +kernel
theorem dX9_guessFalls_131 : decode cX9_guessFalls 131 = .ok (.return_, 1) := by decide +kernel
theorem dX9_guessFalls_31 : decode cX9_guessFalls 31 = .ok (.aload_n 0, 1) := by decide +kernel
theorem dX9_guessFalls_32 : decode cX9_guessFalls 32 = .ok (.getfield 30, 3) := by decide +kernel
theorem dX9_guessFalls_35 : decode cX9_guessFalls 35 = .ok (.getfield 175, 3) := by decide +kernel
theorem dX9_guessFalls_38 : decode cX9_guessFalls 38 = .ok (.iload_n 2, 1) := by decide +kernel
theorem dX9_guessFalls_39 : decode cX9_guessFalls 39 = .ok (.iaload, 1) := by decide +kernel
theorem dX9_guessFalls_40 : decode cX9_guessFalls 40 = .ok (.iconst 1, 1) := by decide +kernel
theorem dX9_guessFalls_41 : decode cX9_guessFalls 41 = .ok (.if_icmp .eq 16, 3) := by decide +kernel
theorem dX9_guessFalls_57 : decode cX9_guessFalls 57 = .ok (.iload_n 2, 1) := by decide +kernel
theorem dX9_guessFalls_58 : decode cX9_guessFalls 58 = .ok (.aload_n 0, 1) := by decide +kernel
theorem dX9_guessFalls_59 : decode cX9_guessFalls 59 = .ok (.getfield 37, 3) := by decide +kernel
theorem dX9_guessFalls_62 : decode cX9_guessFalls 62 = .ok (.getfield 112, 3) := by decide +kernel
theorem dX9_guessFalls_65 : decode cX9_guessFalls 65 = .ok (.getfield 121, 3) := by decide +kernel
theorem dX9_guessFalls_68 : decode cX9_guessFalls 68 = .ok (.isub, 1) := by decide +kernel
theorem dX9_guessFalls_69 : decode cX9_guessFalls 69 = .ok (.aload_n 0, 1) := by decide +kernel
theorem dX9_guessFalls_70 : decode cX9_guessFalls 70 = .ok (.getfield 30, 3) := by decide +kernel
theorem dX9_guessFalls_73 : decode cX9_guessFalls 73 = .ok (.getfield 118, 3) := by decide +kernel
theorem dX9_guessFalls_76 : decode cX9_guessFalls 76 = .ok (.invokestatic 437, 3) := by decide +kernel
theorem dX9_guessFalls_79 : decode cX9_guessFalls 79 = .ok (.istore_n 3, 1) := by decide +kernel
theorem dX9_guessFalls_80 : decode cX9_guessFalls 80 = .ok (.aload_n 0, 1) := by decide +kernel
theorem dX9_guessFalls_81 : decode cX9_guessFalls 81 = .ok (.getfield 58, 3) := by decide +kernel
theorem dX9_guessFalls_84 : decode cX9_guessFalls 84 = .ok (.aload_n 0, 1) := by decide +kernel
theorem dX9_guessFalls_85 : decode cX9_guessFalls 85 = .ok (.getfield 37, 3) := by decide +kernel
theorem dX9_guessFalls_88 : decode cX9_guessFalls 88 = .ok (.getfield 112, 3) := by decide +kernel
theorem dX9_guessFalls_91 : decode cX9_guessFalls 91 = .ok (.invokevirtual 311, 3) := by decide +kernel
theorem dX9_guessFalls_94 : decode cX9_guessFalls 94 = .ok (.aload_n 0, 1) := by decide +kernel
theorem dX9_guessFalls_95 : decode cX9_guessFalls 95 = .ok (.aload_n 0, 1) := by decide +kernel
theorem dX9_guessFalls_96 : decode cX9_guessFalls 96 = .ok (.getfield 58, 3) := by decide +kernel
theorem dX9_guessFalls_99 : decode cX9_guessFalls 99 = .ok (.aload_n 0, 1) := by decide +kernel
theorem dX9_guessFalls_100 : decode cX9_guessFalls 100 = .ok (.getfield 30, 3) := by decide +kernel
theorem dX9_guessFalls_103 : decode cX9_guessFalls 103 = .ok (.aload_n 0, 1) := by decide +kernel
theorem dX9_guessFalls_104 : decode cX9_guessFalls 104 = .ok (.getfield 30, 3) := by decide +kernel
theorem dX9_guessFalls_107 : decode cX9_guessFalls 107 = .ok (.invokevirtual 261, 3) := by decide +kernel
theorem dX9_guessFalls_110 : decode cX9_guessFalls 110 = .ok (.iconst 0, 1) := by decide +kernel
theorem dX9_guessFalls_111 : decode cX9_guessFalls 111 = .ok (.iload_n 3, 1) := by decide +kernel
theorem dX9_guessFalls_112 : decode cX9_guessFalls 112 = .ok (.invokevirtual 379, 3) := by decide +kernel
theorem dX9_guessFalls_115 : decode cX9_guessFalls 115 = .ok (.ifCond .eq 10, 3) := by decide +kernel
theorem dX9_guessFalls_125 : decode cX9_guessFalls 125 = .ok (.iinc 2 1, 3) := by decide +kernel
theorem dX9_guessFalls_128 : decode cX9_guessFalls 128 = .ok (.goto (-108), 3) := by decide +kernel
theorem dX9_guessFalls_118 : decode cX9_guessFalls 118 = .ok (.aload_n 0, 1) := by decide +kernel
theorem dX9_guessFalls_119 : decode cX9_guessFalls 119 = .ok (.iload_n 2, 1) := by decide +kernel
theorem dX9_guessFalls_120 : decode cX9_guessFalls 120 = .ok (.iload_n 3, 1) := by decide +kernel
theorem dX9_guessFalls_121 : decode cX9_guessFalls 121 = .ok (.iload_n 1, 1) := by decide +kernel
theorem dX9_guessFalls_122 : decode cX9_guessFalls 122 = .ok (.invokevirtual 440, 3) := by decide +kernel
theorem dX9_guessFalls_44 : decode cX9_guessFalls 44 = .ok (.aload_n 0, 1) := by decide +kernel
theorem dX9_guessFalls_45 : decode cX9_guessFalls 45 = .ok (.getfield 30, 3) := by decide +kernel
theorem dX9_guessFalls_48 : decode cX9_guessFalls 48 = .ok (.getfield 175, 3) := by decide +kernel
theorem dX9_guessFalls_51 : decode cX9_guessFalls 51 = .ok (.iload_n 2, 1) := by decide +kernel
theorem dX9_guessFalls_52 : decode cX9_guessFalls 52 = .ok (.iaload, 1) := by decide +kernel
theorem dX9_guessFalls_53 : decode cX9_guessFalls 53 = .ok (.iconst 2, 1) := by decide +kernel
theorem dX9_guessFalls_54 : decode cX9_guessFalls 54 = .ok (.if_icmp .ne 71, 3) := by decide +kernel
theorem dX9_falls_0 : decode cX9_falls 0 = .ok (.iload_n 1, 1) := by decide +kernel
theorem dX9_falls_1 : decode cX9_falls 1 = .ok (.iconst 2, 1) := by decide +kernel
theorem dX9_falls_2 : decode cX9_falls 2 = .ok (.invokestatic 303, 3) := by decide +kernel
theorem dX9_falls_5 : decode cX9_falls 5 = .ok (.iload_n 1, 1) := by decide +kernel
theorem dX9_falls_6 : decode cX9_falls 6 = .ok (.iconst 2, 1) := by decide +kernel
theorem dX9_falls_7 : decode cX9_falls 7 = .ok (.if_icmp .ne 58, 3) := by decide +kernel
theorem dX9_falls_65 : decode cX9_falls 65 = .ok (.aload_n 0, 1) := by decide +kernel
theorem dX9_falls_66 : decode cX9_falls 66 = .ok (.iconst 0, 1) := by decide +kernel
theorem dX9_falls_67 : decode cX9_falls 67 = .ok (.invokevirtual 383, 3) := by decide +kernel
theorem dX9_falls_70 : decode cX9_falls 70 = .ok (.iload_n 1, 1) := by decide +kernel
theorem dX9_falls_71 : decode cX9_falls 71 = .ok (.ifCond .ne 13, 3) := by decide +kernel
theorem dX9_falls_84 : decode cX9_falls 84 = .ok (.aload_n 0, 1) := by decide +kernel
theorem dX9_falls_85 : decode cX9_falls 85 = .ok (.getfield 64, 3) := by decide +kernel
theorem dX9_falls_88 : decode cX9_falls 88 = .ok (.getfield 390, 3) := by decide +kernel
theorem dX9_falls_91 : decode cX9_falls 91 = .ok (.ireturn, 1) := by decide +kernel
theorem dX9_falls_74 : decode cX9_falls 74 = .ok (.aload_n 0, 1) := by decide +kernel
theorem dX9_falls_75 : decode cX9_falls 75 = .ok (.getfield 64, 3) := by decide +kernel
theorem dX9_falls_78 : decode cX9_falls 78 = .ok (.getfield 387, 3) := by decide +kernel
theorem dX9_falls_81 : decode cX9_falls 81 = .ok (.goto 10, 3) := by decide +kernel
theorem dX9_falls_10 : decode cX9_falls 10 = .ok (.aload_n 0, 1) := by decide +kernel
theorem dX9_falls_11 : decode cX9_falls 11 = .ok (.getfield 54, 3) := by decide +kernel
theorem dX9_falls_14 : decode cX9_falls 14 = .ok (.aload_n 0, 1) := by decide +kernel
theorem dX9_falls_15 : decode cX9_falls 15 = .ok (.getfield 37, 3) := by decide +kernel
theorem dX9_falls_18 : decode cX9_falls 18 = .ok (.getfield 112, 3) := by decide +kernel
theorem dX9_falls_21 : decode cX9_falls 21 = .ok (.invokevirtual 311, 3) := by decide +kernel
theorem dX9_falls_24 : decode cX9_falls 24 = .ok (.aload_n 0, 1) := by decide +kernel
theorem dX9_falls_25 : decode cX9_falls 25 = .ok (.aload_n 0, 1) := by decide +kernel
theorem dX9_falls_26 : decode cX9_falls 26 = .ok (.getfield 54, 3) := by decide +kernel
theorem dX9_falls_29 : decode cX9_falls 29 = .ok (.aload_n 0, 1) := by decide +kernel
theorem dX9_falls_30 : decode cX9_falls 30 = .ok (.getfield 30, 3) := by decide +kernel
theorem dX9_falls_33 : decode cX9_falls 33 = .ok (.aload_n 0, 1) := by decide +kernel
theorem dX9_falls_34 : decode cX9_falls 34 = .ok (.getfield 30, 3) := by decide +kernel
theorem dX9_falls_37 : decode cX9_falls 37 = .ok (.invokevirtual 261, 3) := by decide +kernel
theorem dX9_falls_40 : decode cX9_falls 40 = .ok (.iconst 0, 1) := by decide +kernel
theorem dX9_falls_41 : decode cX9_falls 41 = .ok (.aload_n 0, 1) := by decide +kernel
theorem dX9_falls_42 : decode cX9_falls 42 = .ok (.getfield 37, 3) := by decide +kernel
theorem dX9_falls_45 : decode cX9_falls 45 = .ok (.getfield 156, 3) := by decide +kernel
theorem dX9_falls_48 : decode cX9_falls 48 = .ok (.invokevirtual 376, 3) := by decide +kernel
theorem dX9_falls_51 : decode cX9_falls 51 = .ok (.invokevirtual 379, 3) := by decide +kernel
theorem dX9_falls_54 : decode cX9_falls 54 = .ok (.istore_n 2, 1) := by decide +kernel
theorem dX9_falls_55 : decode cX9_falls 55 = .ok (.iload_n 2, 1) := by decide +kernel
theorem dX9_falls_56 : decode cX9_falls 56 = .ok (.ifCond .eq 7, 3) := by decide +kernel
theorem dX9_falls_63 : decode cX9_falls 63 = .ok (.iconst 0, 1) := by decide +kernel
theorem dX9_falls_64 : decode cX9_falls 64 = .ok (.ireturn, 1) := by decide +kernel
theorem dX9_falls_59 : decode cX9_falls 59 = .ok (.iconst 1, 1) := by decide +kernel
theorem dX9_falls_60 : decode cX9_falls 60 = .ok (.goto 4, 3) := by decide +kernel
theorem dX9_look_0 : decode cX9_look 0 = .ok (.iload_n 1, 1) := by decide +kernel
theorem dX9_look_1 : decode cX9_look 1 = .ok (.iconst 1, 1) := by decide +kernel
theorem dX9_look_2 : decode cX9_look 2 = .ok (.invokestatic 303, 3) := by decide +kernel
theorem dX9_look_5 : decode cX9_look 5 = .ok (.aload_n 0, 1) := by decide +kernel
theorem dX9_look_6 : decode cX9_look 6 = .ok (.iconst 1, 1) := by decide +kernel
theorem dX9_look_7 : decode cX9_look 7 = .ok (.invokevirtual 383, 3) := by decide +kernel
theorem dX9_look_10 : decode cX9_look 10 = .ok (.iconst (-1), 1) := by decide +kernel
theorem dX9_look_11 : decode cX9_look 11 = .ok (.istore_n 2, 1) := by decide +kernel
theorem dX9_look_12 : decode cX9_look 12 = .ok (.iconst 0, 1) := by decide +kernel
theorem dX9_look_13 : decode cX9_look 13 = .ok (.istore_n 3, 1) := by decide +kernel
theorem dX9_look_14 : decode cX9_look 14 = .ok (.iconst 0, 1) := by decide +kernel
theorem dX9_look_15 : decode cX9_look 15 = .ok (.istore 4, 2) := by decide +kernel
theorem dX9_look_17 : decode cX9_look 17 = .ok (.iload 4, 2) := by decide +kernel
theorem dX9_look_19 : decode cX9_look 19 = .ok (.aload_n 0, 1) := by decide +kernel
theorem dX9_look_20 : decode cX9_look 20 = .ok (.getfield 30, 3) := by decide +kernel
theorem dX9_look_23 : decode cX9_look 23 = .ok (.getfield 115, 3) := by decide +kernel
theorem dX9_look_26 : decode cX9_look 26 = .ok (.if_icmp .ge 37, 3) := by decide +kernel
theorem dX9_look_63 : decode cX9_look 63 = .ok (.iload_n 1, 1) := by decide +kernel
theorem dX9_look_64 : decode cX9_look 64 = .ok (.ifCond .ne 7, 3) := by decide +kernel
theorem dX9_look_71 : decode cX9_look 71 = .ok (.iload_n 3, 1) := by decide +kernel
theorem dX9_look_72 : decode cX9_look 72 = .ok (.ireturn, 1) := by decide +kernel
theorem dX9_look_67 : decode cX9_look 67 = .ok (.iload_n 2, 1) := by decide +kernel
theorem dX9_look_68 : decode cX9_look 68 = .ok (.goto 4, 3) := by decide +kernel
theorem dX9_look_29 : decode cX9_look 29 = .ok (.aload_n 0, 1) := by decide +kernel
theorem dX9_look_30 : decode cX9_look 30 = .ok (.getfield 64, 3) := by decide +kernel
theorem dX9_look_33 : decode cX9_look 33 = .ok (.getfield 393, 3) := by decide +kernel
theorem dX9_look_36 : decode cX9_look 36 = .ok (.iload 4, 2) := by decide +kernel
theorem dX9_look_38 : decode cX9_look 38 = .ok (.iaload, 1) := by decide +kernel
theorem dX9_look_39 : decode cX9_look 39 = .ok (.iload_n 3, 1) := by decide +kernel
theorem dX9_look_40 : decode cX9_look 40 = .ok (.if_icmp .le 17, 3) := by decide +kernel
theorem dX9_look_57 : decode cX9_look 57 = .ok (.iinc 4 1, 3) := by decide +kernel
theorem dX9_look_60 : decode cX9_look 60 = .ok (.goto (-43), 3) := by decide +kernel
theorem dX9_look_43 : decode cX9_look 43 = .ok (.iload 4, 2) := by decide +kernel
theorem dX9_look_45 : decode cX9_look 45 = .ok (.istore_n 2, 1) := by decide +kernel
theorem dX9_look_46 : decode cX9_look 46 = .ok (.aload_n 0, 1) := by decide +kernel
theorem dX9_look_47 : decode cX9_look 47 = .ok (.getfield 64, 3) := by decide +kernel
theorem dX9_look_50 : decode cX9_look 50 = .ok (.getfield 393, 3) := by decide +kernel
theorem dX9_look_53 : decode cX9_look 53 = .ok (.iload 4, 2) := by decide +kernel
theorem dX9_look_55 : decode cX9_look 55 = .ok (.iaload, 1) := by decide +kernel
theorem dX9_look_56 : decode cX9_look 56 = .ok (.istore_n 3, 1) := by decide +kernel
theorem dX9_weightOf_0 : decode cX9_weightOf 0 = .ok (.iconst 1, 1) := by decide +kernel
theorem dX9_weightOf_1 : decode cX9_weightOf 1 = .ok (.istore 4, 2) := by decide +kernel
theorem dX9_weightOf_3 : decode cX9_weightOf 3 = .ok (.iconst 0, 1) := by decide +kernel
theorem dX9_weightOf_4 : decode cX9_weightOf 4 = .ok (.istore 5, 2) := by decide +kernel
theorem dX9_weightOf_6 : decode cX9_weightOf 6 = .ok (.iload 5, 2) := by decide +kernel
theorem dX9_weightOf_8 : decode cX9_weightOf 8 = .ok (.iload_n 2, 1) := by decide +kernel
theorem dX9_weightOf_9 : decode cX9_weightOf 9 = .ok (.if_icmp .ge 86, 3) := by decide +kernel
theorem dX9_weightOf_95 : decode cX9_weightOf 95 = .ok (.iload 4, 2) := by decide +kernel
theorem dX9_weightOf_97 : decode cX9_weightOf 97 = .ok (.ireturn, 1) := by decide +kernel
theorem dX9_weightOf_12 : decode cX9_weightOf 12 = .ok (.iload_n 1, 1) := by decide +kernel
theorem dX9_weightOf_13 : decode cX9_weightOf 13 = .ok (.iload 5, 2) := by decide +kernel
theorem dX9_weightOf_15 : decode cX9_weightOf 15 = .ok (.ishr, 1) := by decide +kernel
theorem dX9_weightOf_16 : decode cX9_weightOf 16 = .ok (.iconst 1, 1) := by decide +kernel
theorem dX9_weightOf_17 : decode cX9_weightOf 17 = .ok (.iand, 1) := by decide +kernel
theorem dX9_weightOf_18 : decode cX9_weightOf 18 = .ok (.iconst 1, 1) := by decide +kernel
theorem dX9_weightOf_19 : decode cX9_weightOf 19 = .ok (.if_icmp .ne 7, 3) := by decide +kernel
theorem dX9_weightOf_26 : decode cX9_weightOf 26 = .ok (.iconst 0, 1) := by decide +kernel
theorem dX9_weightOf_27 : decode cX9_weightOf 27 = .ok (.istore 6, 2) := by decide +kernel
theorem dX9_weightOf_29 : decode cX9_weightOf 29 = .ok (.aload_n 0, 1) := by decide +kernel
theorem dX9_weightOf_30 : decode cX9_weightOf 30 = .ok (.getfield 30, 3) := by decide +kernel
theorem dX9_weightOf_33 : decode cX9_weightOf 33 = .ok (.aload_n 0, 1) := by decide +kernel
theorem dX9_weightOf_34 : decode cX9_weightOf 34 = .ok (.getfield 37, 3) := by decide +kernel
theorem dX9_weightOf_37 : decode cX9_weightOf 37 = .ok (.getfield 112, 3) := by decide +kernel
theorem dX9_weightOf_40 : decode cX9_weightOf 40 = .ok (.getfield 121, 3) := by decide +kernel
theorem dX9_weightOf_43 : decode cX9_weightOf 43 = .ok (.iload 5, 2) := by decide +kernel
theorem dX9_weightOf_45 : decode cX9_weightOf 45 = .ok (.iadd, 1) := by decide +kernel
theorem dX9_weightOf_46 : decode cX9_weightOf 46 = .ok (.invokevirtual 454, 3) := by decide +kernel
theorem dX9_weightOf_49 : decode cX9_weightOf 49 = .ok (.ifCond .eq 24, 3) := by decide +kernel
theorem dX9_weightOf_73 : decode cX9_weightOf 73 = .ok (.iload 4, 2) := by decide +kernel
theorem dX9_weightOf_75 : decode cX9_weightOf 75 = .ok (.iload 6, 2) := by decide +kernel
theorem dX9_weightOf_77 : decode cX9_weightOf 77 = .ok (.ifCond .eq 7, 3) := by decide +kernel
theorem dX9_weightOf_84 : decode cX9_weightOf 84 = .ok (.bipush 10, 2) := by decide +kernel
theorem dX9_weightOf_86 : decode cX9_weightOf 86 = .ok (.imul, 1) := by decide +kernel
theorem dX9_weightOf_87 : decode cX9_weightOf 87 = .ok (.istore 4, 2) := by decide +kernel
theorem dX9_weightOf_89 : decode cX9_weightOf 89 = .ok (.iinc 5 1, 3) := by decide +kernel
theorem dX9_weightOf_92 : decode cX9_weightOf 92 = .ok (.goto (-86), 3) := by decide +kernel
theorem dX9_weightOf_52 : decode cX9_weightOf 52 = .ok (.iload 4, 2) := by decide +kernel
theorem dX9_weightOf_54 : decode cX9_weightOf 54 = .ok (.iload 6, 2) := by decide +kernel
theorem dX9_weightOf_56 : decode cX9_weightOf 56 = .ok (.ifCond .eq 7, 3) := by decide +kernel
theorem dX9_weightOf_63 : decode cX9_weightOf 63 = .ok (.bipush 10, 2) := by decide +kernel
theorem dX9_weightOf_65 : decode cX9_weightOf 65 = .ok (.iload_n 3, 1) := by decide +kernel
theorem dX9_weightOf_66 : decode cX9_weightOf 66 = .ok (.isub, 1) := by decide +kernel
theorem dX9_weightOf_67 : decode cX9_weightOf 67 = .ok (.imul, 1) := by decide +kernel
theorem dX9_weightOf_68 : decode cX9_weightOf 68 = .ok (.istore 4, 2) := by decide +kernel
theorem dX9_weightOf_70 : decode cX9_weightOf 70 = .ok (.goto 19, 3) := by decide +kernel
theorem dX9_weightOf_22 : decode cX9_weightOf 22 = .ok (.iconst 1, 1) := by decide +kernel
theorem dX9_weightOf_23 : decode cX9_weightOf 23 = .ok (.goto 4, 3) := by decide +kernel
theorem dX9_weightOf_80 : decode cX9_weightOf 80 = .ok (.iconst 0, 1) := by decide +kernel
theorem dX9_weightOf_81 : decode cX9_weightOf 81 = .ok (.goto 5, 3) := by decide +kernel
theorem dX9_weightOf_59 : decode cX9_weightOf 59 = .ok (.iload_n 3, 1) := by decide +kernel
theorem dX9_weightOf_60 : decode cX9_weightOf 60 = .ok (.goto 7, 3) := by decide +kernel
theorem dX9_isUnstableWithout_0 : decode cX9_isUnstableWithout 0 = .ok (.aload_n 0, 1) := by decide +kernel
theorem dX9_isUnstableWithout_1 : decode cX9_isUnstableWithout 1 = .ok (.getfield 54, 3) := by decide +kernel
theorem dX9_isUnstableWithout_4 : decode cX9_isUnstableWithout 4 = .ok (.aload_n 0, 1) := by decide +kernel
theorem dX9_isUnstableWithout_5 : decode cX9_isUnstableWithout 5 = .ok (.getfield 37, 3) := by decide +kernel
theorem dX9_isUnstableWithout_8 : decode cX9_isUnstableWithout 8 = .ok (.getfield 112, 3) := by decide +kernel
theorem dX9_isUnstableWithout_11 : decode cX9_isUnstableWithout 11 = .ok (.invokevirtual 311, 3) := by decide +kernel
theorem dX9_isUnstableWithout_14 : decode cX9_isUnstableWithout 14 = .ok (.iconst 0, 1) := by decide +kernel
theorem dX9_isUnstableWithout_15 : decode cX9_isUnstableWithout 15 = .ok (.istore 4, 2) := by decide +kernel
theorem dX9_isUnstableWithout_17 : decode cX9_isUnstableWithout 17 = .ok (.iload 4, 2) := by decide +kernel
theorem dX9_isUnstableWithout_19 : decode cX9_isUnstableWithout 19 = .ok (.iload_n 3, 1) := by decide +kernel
theorem dX9_isUnstableWithout_20 : decode cX9_isUnstableWithout 20 = .ok (.if_icmp .ge 37, 3) := by decide +kernel
theorem dX9_isUnstableWithout_57 : decode cX9_isUnstableWithout 57 = .ok (.aload_n 0, 1) := by decide +kernel
theorem dX9_isUnstableWithout_58 : decode cX9_isUnstableWithout 58 = .ok (.aload_n 0, 1) := by decide +kernel
theorem dX9_isUnstableWithout_59 : decode cX9_isUnstableWithout 59 = .ok (.getfield 54, 3) := by decide +kernel
theorem dX9_isUnstableWithout_62 : decode cX9_isUnstableWithout 62 = .ok (.iload_n 2, 1) := by decide +kernel
theorem dX9_isUnstableWithout_63 : decode cX9_isUnstableWithout 63 = .ok (.invokevirtual 287, 3) := by decide +kernel
theorem dX9_isUnstableWithout_66 : decode cX9_isUnstableWithout 66 = .ok (.ireturn, 1) := by decide +kernel
theorem dX9_isUnstableWithout_23 : decode cX9_isUnstableWithout 23 = .ok (.aload_n 0, 1) := by decide +kernel
theorem dX9_isUnstableWithout_24 : decode cX9_isUnstableWithout 24 = .ok (.getfield 54, 3) := by decide +kernel
theorem dX9_isUnstableWithout_27 : decode cX9_isUnstableWithout 27 = .ok (.aload_n 0, 1) := by decide +kernel
theorem dX9_isUnstableWithout_28 : decode cX9_isUnstableWithout 28 = .ok (.getfield 30, 3) := by decide +kernel
theorem dX9_isUnstableWithout_31 : decode cX9_isUnstableWithout 31 = .ok (.iconst 1, 1) := by decide +kernel
theorem dX9_isUnstableWithout_32 : decode cX9_isUnstableWithout 32 = .ok (.iload_n 2, 1) := by decide +kernel
theorem dX9_isUnstableWithout_33 : decode cX9_isUnstableWithout 33 = .ok (.ishl, 1) := by decide +kernel
theorem dX9_isUnstableWithout_34 : decode cX9_isUnstableWithout 34 = .ok (.iload_n 1, 1) := by decide +kernel
theorem dX9_isUnstableWithout_35 : decode cX9_isUnstableWithout 35 = .ok (.iload 4, 2) := by decide +kernel
theorem dX9_isUnstableWithout_37 : decode cX9_isUnstableWithout 37 = .ok (.ishr, 1) := by decide +kernel
theorem dX9_isUnstableWithout_38 : decode cX9_isUnstableWithout 38 = .ok (.iconst 1, 1) := by decide +kernel
theorem dX9_isUnstableWithout_39 : decode cX9_isUnstableWithout 39 = .ok (.iand, 1) := by decide +kernel
theorem dX9_isUnstableWithout_40 : decode cX9_isUnstableWithout 40 = .ok (.ifCond .ne 7, 3) := by decide +kernel
theorem dX9_isUnstableWithout_47 : decode cX9_isUnstableWithout 47 = .ok (.iconst 0, 1) := by decide +kernel
theorem dX9_isUnstableWithout_48 : decode cX9_isUnstableWithout 48 = .ok (.invokevirtual 264, 3) := by decide +kernel
theorem dX9_isUnstableWithout_51 : decode cX9_isUnstableWithout 51 = .ok (.iinc 4 1, 3) := by decide +kernel
theorem dX9_isUnstableWithout_54 : decode cX9_isUnstableWithout 54 = .ok (.goto (-37), 3) := by decide +kernel
theorem dX9_isUnstableWithout_43 : decode cX9_isUnstableWithout 43 = .ok (.iconst 1, 1) := by decide +kernel
theorem dX9_isUnstableWithout_44 : decode cX9_isUnstableWithout 44 = .ok (.goto 4, 3) := by decide +kernel
theorem dX9_odds_0 : decode cX9_odds 0 = .ok (.aload_n 0, 1) := by decide +kernel
theorem dX9_odds_1 : decode cX9_odds 1 = .ok (.iload_n 1, 1) := by decide +kernel
theorem dX9_odds_2 : decode cX9_odds 2 = .ok (.invokevirtual 300, 3) := by decide +kernel
theorem dX9_odds_5 : decode cX9_odds 5 = .ok (.iload_n 2, 1) := by decide +kernel
theorem dX9_odds_6 : decode cX9_odds 6 = .ok (.iconst 1, 1) := by decide +kernel
theorem dX9_odds_7 : decode cX9_odds 7 = .ok (.bipush 6, 2) := by decide +kernel
theorem dX9_odds_9 : decode cX9_odds 9 = .ok (.invokestatic 307, 3) := by decide +kernel
theorem dX9_odds_12 : decode cX9_odds 12 = .ok (.iload_n 3, 1) := by decide +kernel
theorem dX9_odds_13 : decode cX9_odds 13 = .ok (.ifCond .lt 9, 3) := by decide +kernel
theorem dX9_odds_22 : decode cX9_odds 22 = .ok (.new 86, 3) := by decide +kernel
theorem dX9_odds_25 : decode cX9_odds 25 = .ok (.dup, 1) := by decide +kernel
theorem dX9_odds_26 : decode cX9_odds 26 = .ok (.ldc_w 396, 3) := by decide +kernel
theorem dX9_odds_29 : decode cX9_odds 29 = .ok (.invokespecial 90, 3) := by decide +kernel
theorem dX9_odds_32 : decode cX9_odds 32 = .ok (.athrow, 1) := by decide +kernel
theorem dX9_odds_16 : decode cX9_odds 16 = .ok (.iload_n 3, 1) := by decide +kernel
theorem dX9_odds_17 : decode cX9_odds 17 = .ok (.bipush 10, 2) := by decide +kernel
theorem dX9_odds_19 : decode cX9_odds 19 = .ok (.if_icmp .le 14, 3) := by decide +kernel
theorem dX9_odds_33 : decode cX9_odds 33 = .ok (.iconst 0, 1) := by decide +kernel
theorem dX9_odds_34 : decode cX9_odds 34 = .ok (.istore 4, 2) := by decide +kernel
theorem dX9_odds_36 : decode cX9_odds 36 = .ok (.iconst 0, 1) := by decide +kernel
theorem dX9_odds_37 : decode cX9_odds 37 = .ok (.istore 5, 2) := by decide +kernel
theorem dX9_odds_39 : decode cX9_odds 39 = .ok (.iload 5, 2) := by decide +kernel
theorem dX9_odds_41 : decode cX9_odds 41 = .ok (.iconst 1, 1) := by decide +kernel
theorem dX9_odds_42 : decode cX9_odds 42 = .ok (.iload_n 2, 1) := by decide +kernel
theorem dX9_odds_43 : decode cX9_odds 43 = .ok (.ishl, 1) := by decide +kernel
theorem dX9_odds_44 : decode cX9_odds 44 = .ok (.if_icmp .ge 42, 3) := by decide +kernel
theorem dX9_odds_86 : decode cX9_odds 86 = .ok (.iload 4, 2) := by decide +kernel
theorem dX9_odds_88 : decode cX9_odds 88 = .ok (.ireturn, 1) := by decide +kernel
theorem dX9_odds_47 : decode cX9_odds 47 = .ok (.aload_n 0, 1) := by decide +kernel
theorem dX9_odds_48 : decode cX9_odds 48 = .ok (.iload 5, 2) := by decide +kernel
theorem dX9_odds_50 : decode cX9_odds 50 = .ok (.iload_n 2, 1) := by decide +kernel
theorem dX9_odds_51 : decode cX9_odds 51 = .ok (.iload_n 3, 1) := by decide +kernel
theorem dX9_odds_52 : decode cX9_odds 52 = .ok (.invokevirtual 398, 3) := by decide +kernel
theorem dX9_odds_55 : decode cX9_odds 55 = .ok (.istore 6, 2) := by decide +kernel
theorem dX9_odds_57 : decode cX9_odds 57 = .ok (.iload 6, 2) := by decide +kernel
theorem dX9_odds_59 : decode cX9_odds 59 = .ok (.ifCond .le 21, 3) := by decide +kernel
theorem dX9_odds_80 : decode cX9_odds 80 = .ok (.iinc 5 1, 3) := by decide +kernel
theorem dX9_odds_83 : decode cX9_odds 83 = .ok (.goto (-44), 3) := by decide +kernel
theorem dX9_odds_62 : decode cX9_odds 62 = .ok (.aload_n 0, 1) := by decide +kernel
theorem dX9_odds_63 : decode cX9_odds 63 = .ok (.iload 5, 2) := by decide +kernel
theorem dX9_odds_65 : decode cX9_odds 65 = .ok (.iload_n 1, 1) := by decide +kernel
theorem dX9_odds_66 : decode cX9_odds 66 = .ok (.iload_n 2, 1) := by decide +kernel
theorem dX9_odds_67 : decode cX9_odds 67 = .ok (.invokevirtual 402, 3) := by decide +kernel
theorem dX9_odds_70 : decode cX9_odds 70 = .ok (.ifCond .eq 10, 3) := by decide +kernel
theorem dX9_odds_73 : decode cX9_odds 73 = .ok (.iload 4, 2) := by decide +kernel
theorem dX9_odds_75 : decode cX9_odds 75 = .ok (.iload 6, 2) := by decide +kernel
theorem dX9_odds_77 : decode cX9_odds 77 = .ok (.iadd, 1) := by decide +kernel
theorem dX9_odds_78 : decode cX9_odds 78 = .ok (.istore 4, 2) := by decide +kernel
theorem dX9_drawOf_0 : decode cX9_drawOf 0 = .ok (.iload_n 0, 1) := by decide +kernel
theorem dX9_drawOf_1 : decode cX9_drawOf 1 = .ok (.bipush 16, 2) := by decide +kernel
theorem dX9_drawOf_3 : decode cX9_drawOf 3 = .ok (.iushr, 1) := by decide +kernel
theorem dX9_drawOf_4 : decode cX9_drawOf 4 = .ok (.sipush 32767, 3) := by decide +kernel
theorem dX9_drawOf_7 : decode cX9_drawOf 7 = .ok (.iand, 1) := by decide +kernel
theorem dX9_drawOf_8 : decode cX9_drawOf 8 = .ok (.iload_n 1, 1) := by decide +kernel
theorem dX9_drawOf_9 : decode cX9_drawOf 9 = .ok (.iconst 1, 1) := by decide +kernel
theorem dX9_drawOf_10 : decode cX9_drawOf 10 = .ok (.invokestatic 467, 3) := by decide +kernel
theorem dX9_drawOf_13 : decode cX9_drawOf 13 = .ok (.irem, 1) := by decide +kernel
theorem dX9_drawOf_14 : decode cX9_drawOf 14 = .ok (.ireturn, 1) := by decide +kernel
theorem dX9_slideAll_0 : decode cX9_slideAll 0 = .ok (.iconst 0, 1) := by decide +kernel
theorem dX9_slideAll_1 : decode cX9_slideAll 1 = .ok (.istore_n 1, 1) := by decide +kernel
theorem dX9_slideAll_2 : decode cX9_slideAll 2 = .ok (.iload_n 1, 1) := by decide +kernel
theorem dX9_slideAll_3 : decode cX9_slideAll 3 = .ok (.aload_n 0, 1) := by decide +kernel
theorem dX9_slideAll_4 : decode cX9_slideAll 4 = .ok (.getfield 30, 3) := by decide +kernel
theorem dX9_slideAll_7 : decode cX9_slideAll 7 = .ok (.getfield 115, 3) := by decide +kernel
theorem dX9_slideAll_10 : decode cX9_slideAll 10 = .ok (.if_icmp .ge 34, 3) := by decide +kernel
theorem dX9_slideAll_44 : decode cX9_slideAll 44 = .ok (.return_, 1) := by decide +kernel
theorem dX9_slideAll_13 : decode cX9_slideAll 13 = .ok (.aload_n 0, 1) := by decide +kernel
theorem dX9_slideAll_14 : decode cX9_slideAll 14 = .ok (.aload_n 0, 1) := by decide +kernel
theorem dX9_slideAll_15 : decode cX9_slideAll 15 = .ok (.getfield 54, 3) := by decide +kernel
theorem dX9_slideAll_18 : decode cX9_slideAll 18 = .ok (.iload_n 1, 1) := by decide +kernel
theorem dX9_slideAll_19 : decode cX9_slideAll 19 = .ok (.invokevirtual 287, 3) := by decide +kernel
theorem dX9_slideAll_22 : decode cX9_slideAll 22 = .ok (.ifCond .eq 16, 3) := by decide +kernel
theorem dX9_slideAll_38 : decode cX9_slideAll 38 = .ok (.iinc 1 1, 3) := by decide +kernel
theorem dX9_slideAll_41 : decode cX9_slideAll 41 = .ok (.goto (-39), 3) := by decide +kernel
theorem dX9_slideAll_25 : decode cX9_slideAll 25 = .ok (.aload_n 0, 1) := by decide +kernel
theorem dX9_slideAll_26 : decode cX9_slideAll 26 = .ok (.getfield 54, 3) := by decide +kernel
theorem dX9_slideAll_29 : decode cX9_slideAll 29 = .ok (.iload_n 1, 1) := by decide +kernel
theorem dX9_slideAll_30 : decode cX9_slideAll 30 = .ok (.aload_n 0, 1) := by decide +kernel
theorem dX9_slideAll_31 : decode cX9_slideAll 31 = .ok (.getfield 30, 3) := by decide +kernel
theorem dX9_slideAll_34 : decode cX9_slideAll 34 = .ok (.invokevirtual 291, 3) := by decide +kernel
theorem dX9_slideAll_37 : decode cX9_slideAll 37 = .ok (.pop, 1) := by decide +kernel
theorem dX9_yearGoesBy_0 : decode cX9_yearGoesBy 0 = .ok (.iload_n 1, 1) := by decide +kernel
theorem dX9_yearGoesBy_1 : decode cX9_yearGoesBy 1 = .ok (.invokestatic 457, 3) := by decide +kernel
theorem dX9_yearGoesBy_4 : decode cX9_yearGoesBy 4 = .ok (.istore_n 2, 1) := by decide +kernel
theorem dX9_yearGoesBy_5 : decode cX9_yearGoesBy 5 = .ok (.iload_n 2, 1) := by decide +kernel
theorem dX9_yearGoesBy_6 : decode cX9_yearGoesBy 6 = .ok (.bipush 6, 2) := by decide +kernel
theorem dX9_yearGoesBy_8 : decode cX9_yearGoesBy 8 = .ok (.invokestatic 460, 3) := by decide +kernel
theorem dX9_yearGoesBy_11 : decode cX9_yearGoesBy 11 = .ok (.istore_n 3, 1) := by decide +kernel
theorem dX9_yearGoesBy_12 : decode cX9_yearGoesBy 12 = .ok (.iload_n 3, 1) := by decide +kernel
theorem dX9_yearGoesBy_13 : decode cX9_yearGoesBy 13 = .ok (.iconst 1, 1) := by decide +kernel
theorem dX9_yearGoesBy_14 : decode cX9_yearGoesBy 14 = .ok (.if_icmp .gt 56, 3) := by decide +kernel
theorem dX9_yearGoesBy_70 : decode cX9_yearGoesBy 70 = .ok (.iload_n 3, 1) := by decide +kernel
theorem dX9_yearGoesBy_71 : decode cX9_yearGoesBy 71 = .ok (.iconst 5, 1) := by decide +kernel
theorem dX9_yearGoesBy_72 : decode cX9_yearGoesBy 72 = .ok (.if_icmp .ne 10, 3) := by decide +kernel
theorem dX9_yearGoesBy_82 : decode cX9_yearGoesBy 82 = .ok (.aload_n 0, 1) := by decide +kernel
theorem dX9_yearGoesBy_83 : decode cX9_yearGoesBy 83 = .ok (.getfield 30, 3) := by decide +kernel
theorem dX9_yearGoesBy_86 : decode cX9_yearGoesBy 86 = .ok (.getfield 115, 3) := by decide +kernel
theorem dX9_yearGoesBy_89 : decode cX9_yearGoesBy 89 = .ok (.ifCond .le 89, 3) := by decide +kernel
theorem dX9_yearGoesBy_178 : decode cX9_yearGoesBy 178 = .ok (.iload_n 2, 1) := by decide +kernel
theorem dX9_yearGoesBy_179 : decode cX9_yearGoesBy 179 = .ok (.ireturn, 1) := by decide +kernel
theorem dX9_yearGoesBy_92 : decode cX9_yearGoesBy 92 = .ok (.iload_n 2, 1) := by decide +kernel
theorem dX9_yearGoesBy_93 : decode cX9_yearGoesBy 93 = .ok (.invokestatic 457, 3) := by decide +kernel
theorem dX9_yearGoesBy_96 : decode cX9_yearGoesBy 96 = .ok (.istore_n 2, 1) := by decide +kernel
theorem dX9_yearGoesBy_97 : decode cX9_yearGoesBy 97 = .ok (.iload_n 2, 1) := by decide +kernel
theorem dX9_yearGoesBy_98 : decode cX9_yearGoesBy 98 = .ok (.aload_n 0, 1) := by decide +kernel
theorem dX9_yearGoesBy_99 : decode cX9_yearGoesBy 99 = .ok (.getfield 30, 3) := by decide +kernel
theorem dX9_yearGoesBy_102 : decode cX9_yearGoesBy 102 = .ok (.getfield 115, 3) := by decide +kernel
theorem dX9_yearGoesBy_105 : decode cX9_yearGoesBy 105 = .ok (.invokestatic 460, 3) := by decide +kernel
theorem dX9_yearGoesBy_108 : decode cX9_yearGoesBy 108 = .ok (.istore 4, 2) := by decide +kernel
theorem dX9_yearGoesBy_110 : decode cX9_yearGoesBy 110 = .ok (.iload_n 3, 1) := by decide +kernel
theorem dX9_yearGoesBy_111 : decode cX9_yearGoesBy 111 = .ok (.iconst 4, 1) := by decide +kernel
theorem dX9_yearGoesBy_112 : decode cX9_yearGoesBy 112 = .ok (.if_icmp .ne 16, 3) := by decide +kernel
theorem dX9_yearGoesBy_128 : decode cX9_yearGoesBy 128 = .ok (.iload_n 2, 1) := by decide +kernel
theorem dX9_yearGoesBy_129 : decode cX9_yearGoesBy 129 = .ok (.invokestatic 457, 3) := by decide +kernel
theorem dX9_yearGoesBy_132 : decode cX9_yearGoesBy 132 = .ok (.istore_n 2, 1) := by decide +kernel
theorem dX9_yearGoesBy_133 : decode cX9_yearGoesBy 133 = .ok (.iload_n 3, 1) := by decide +kernel
theorem dX9_yearGoesBy_134 : decode cX9_yearGoesBy 134 = .ok (.iconst 2, 1) := by decide +kernel
theorem dX9_yearGoesBy_135 : decode cX9_yearGoesBy 135 = .ok (.if_icmp .ne 7, 3) := by decide +kernel
theorem dX9_yearGoesBy_142 : decode cX9_yearGoesBy 142 = .ok (.iconst 2, 1) := by decide +kernel
theorem dX9_yearGoesBy_143 : decode cX9_yearGoesBy 143 = .ok (.istore 5, 2) := by decide +kernel
theorem dX9_yearGoesBy_145 : decode cX9_yearGoesBy 145 = .ok (.aload_n 0, 1) := by decide +kernel
theorem dX9_yearGoesBy_146 : decode cX9_yearGoesBy 146 = .ok (.getfield 54, 3) := by decide +kernel
theorem dX9_yearGoesBy_149 : decode cX9_yearGoesBy 149 = .ok (.iload 4, 2) := by decide +kernel
theorem dX9_yearGoesBy_151 : decode cX9_yearGoesBy 151 = .ok (.iload 5, 2) := by decide +kernel
theorem dX9_yearGoesBy_153 : decode cX9_yearGoesBy 153 = .ok (.iload_n 2, 1) := by decide +kernel
theorem dX9_yearGoesBy_154 : decode cX9_yearGoesBy 154 = .ok (.bipush 20, 2) := by decide +kernel
theorem dX9_yearGoesBy_156 : decode cX9_yearGoesBy 156 = .ok (.invokestatic 460, 3) := by decide +kernel
theorem dX9_yearGoesBy_159 : decode cX9_yearGoesBy 159 = .ok (.iconst 1, 1) := by decide +kernel
theorem dX9_yearGoesBy_160 : decode cX9_yearGoesBy 160 = .ok (.iadd, 1) := by decide +kernel
theorem dX9_yearGoesBy_161 : decode cX9_yearGoesBy 161 = .ok (.aload_n 0, 1) := by decide +kernel
theorem dX9_yearGoesBy_162 : decode cX9_yearGoesBy 162 = .ok (.getfield 30, 3) := by decide +kernel
theorem dX9_yearGoesBy_165 : decode cX9_yearGoesBy 165 = .ok (.aload_n 0, 1) := by decide +kernel
theorem dX9_yearGoesBy_166 : decode cX9_yearGoesBy 166 = .ok (.getfield 54, 3) := by decide +kernel
theorem dX9_yearGoesBy_169 : decode cX9_yearGoesBy 169 = .ok (.getfield 121, 3) := by decide +kernel
theorem dX9_yearGoesBy_172 : decode cX9_yearGoesBy 172 = .ok (.invokevirtual 225, 3) := by decide +kernel
theorem dX9_yearGoesBy_175 : decode cX9_yearGoesBy 175 = .ok (.invokevirtual 276, 3) := by decide +kernel
theorem dX9_yearGoesBy_138 : decode cX9_yearGoesBy 138 = .ok (.iconst 1, 1) := by decide +kernel
theorem dX9_yearGoesBy_139 : decode cX9_yearGoesBy 139 = .ok (.goto 4, 3) := by decide +kernel
theorem dX9_yearGoesBy_115 : decode cX9_yearGoesBy 115 = .ok (.aload_n 0, 1) := by decide +kernel
theorem dX9_yearGoesBy_116 : decode cX9_yearGoesBy 116 = .ok (.getfield 54, 3) := by decide +kernel
theorem dX9_yearGoesBy_119 : decode cX9_yearGoesBy 119 = .ok (.iload 4, 2) := by decide +kernel
theorem dX9_yearGoesBy_121 : decode cX9_yearGoesBy 121 = .ok (.invokevirtual 284, 3) := by decide +kernel
theorem dX9_yearGoesBy_124 : decode cX9_yearGoesBy 124 = .ok (.pop, 1) := by decide +kernel
theorem dX9_yearGoesBy_125 : decode cX9_yearGoesBy 125 = .ok (.goto 53, 3) := by decide +kernel
theorem dX9_yearGoesBy_75 : decode cX9_yearGoesBy 75 = .ok (.aload_n 0, 1) := by decide +kernel
theorem dX9_yearGoesBy_76 : decode cX9_yearGoesBy 76 = .ok (.invokevirtual 463, 3) := by decide +kernel
theorem dX9_yearGoesBy_79 : decode cX9_yearGoesBy 79 = .ok (.goto 99, 3) := by decide +kernel
theorem dX9_yearGoesBy_17 : decode cX9_yearGoesBy 17 = .ok (.iload_n 2, 1) := by decide +kernel
theorem dX9_yearGoesBy_18 : decode cX9_yearGoesBy 18 = .ok (.invokestatic 457, 3) := by decide +kernel
theorem dX9_yearGoesBy_21 : decode cX9_yearGoesBy 21 = .ok (.istore_n 2, 1) := by decide +kernel
theorem dX9_yearGoesBy_22 : decode cX9_yearGoesBy 22 = .ok (.iload_n 2, 1) := by decide +kernel
theorem dX9_yearGoesBy_23 : decode cX9_yearGoesBy 23 = .ok (.bipush 6, 2) := by decide +kernel
theorem dX9_yearGoesBy_25 : decode cX9_yearGoesBy 25 = .ok (.invokestatic 460, 3) := by decide +kernel
theorem dX9_yearGoesBy_28 : decode cX9_yearGoesBy 28 = .ok (.iconst 1, 1) := by decide +kernel
theorem dX9_yearGoesBy_29 : decode cX9_yearGoesBy 29 = .ok (.iadd, 1) := by decide +kernel
theorem dX9_yearGoesBy_30 : decode cX9_yearGoesBy 30 = .ok (.istore 4, 2) := by decide +kernel
theorem dX9_yearGoesBy_32 : decode cX9_yearGoesBy 32 = .ok (.iconst 0, 1) := by decide +kernel
theorem dX9_yearGoesBy_33 : decode cX9_yearGoesBy 33 = .ok (.istore 5, 2) := by decide +kernel
theorem dX9_yearGoesBy_35 : decode cX9_yearGoesBy 35 = .ok (.iload 5, 2) := by decide +kernel
theorem dX9_yearGoesBy_37 : decode cX9_yearGoesBy 37 = .ok (.iload 4, 2) := by decide +kernel
theorem dX9_yearGoesBy_39 : decode cX9_yearGoesBy 39 = .ok (.if_icmp .ge 28, 3) := by decide +kernel
theorem dX9_yearGoesBy_67 : decode cX9_yearGoesBy 67 = .ok (.goto 111, 3) := by decide +kernel
theorem dX9_yearGoesBy_42 : decode cX9_yearGoesBy 42 = .ok (.aload_n 0, 1) := by decide +kernel
theorem dX9_yearGoesBy_43 : decode cX9_yearGoesBy 43 = .ok (.getfield 54, 3) := by decide +kernel
theorem dX9_yearGoesBy_46 : decode cX9_yearGoesBy 46 = .ok (.aload_n 0, 1) := by decide +kernel
theorem dX9_yearGoesBy_47 : decode cX9_yearGoesBy 47 = .ok (.getfield 30, 3) := by decide +kernel
theorem dX9_yearGoesBy_50 : decode cX9_yearGoesBy 50 = .ok (.aload_n 0, 1) := by decide +kernel
theorem dX9_yearGoesBy_51 : decode cX9_yearGoesBy 51 = .ok (.getfield 30, 3) := by decide +kernel
theorem dX9_yearGoesBy_54 : decode cX9_yearGoesBy 54 = .ok (.invokevirtual 261, 3) := by decide +kernel
theorem dX9_yearGoesBy_57 : decode cX9_yearGoesBy 57 = .ok (.iconst 1, 1) := by decide +kernel
theorem dX9_yearGoesBy_58 : decode cX9_yearGoesBy 58 = .ok (.invokevirtual 264, 3) := by decide +kernel
theorem dX9_yearGoesBy_61 : decode cX9_yearGoesBy 61 = .ok (.iinc 5 1, 3) := by decide +kernel
theorem dX9_yearGoesBy_64 : decode cX9_yearGoesBy 64 = .ok (.goto (-29), 3) := by decide +kernel
theorem dX9_years_0 : decode cX9_years 0 = .ok (.iload_n 3, 1) := by decide +kernel
theorem dX9_years_1 : decode cX9_years 1 = .ok (.iconst 2, 1) := by decide +kernel
theorem dX9_years_2 : decode cX9_years 2 = .ok (.invokestatic 303, 3) := by decide +kernel
theorem dX9_years_5 : decode cX9_years 5 = .ok (.iload_n 2, 1) := by decide +kernel
theorem dX9_years_6 : decode cX9_years 6 = .ok (.ifCond .lt 9, 3) := by decide +kernel
theorem dX9_years_15 : decode cX9_years 15 = .ok (.new 86, 3) := by decide +kernel
theorem dX9_years_18 : decode cX9_years 18 = .ok (.dup, 1) := by decide +kernel
theorem dX9_years_19 : decode cX9_years 19 = .ok (.ldc_w 406, 3) := by decide +kernel
theorem dX9_years_22 : decode cX9_years 22 = .ok (.invokespecial 90, 3) := by decide +kernel
theorem dX9_years_25 : decode cX9_years 25 = .ok (.athrow, 1) := by decide +kernel
theorem dX9_years_9 : decode cX9_years 9 = .ok (.iload_n 2, 1) := by decide +kernel
theorem dX9_years_10 : decode cX9_years 10 = .ok (.bipush 30, 2) := by decide +kernel
theorem dX9_years_12 : decode cX9_years 12 = .ok (.if_icmp .le 14, 3) := by decide +kernel
theorem dX9_years_26 : decode cX9_years 26 = .ok (.aload_n 0, 1) := by decide +kernel
theorem dX9_years_27 : decode cX9_years 27 = .ok (.getfield 54, 3) := by decide +kernel
theorem dX9_years_30 : decode cX9_years 30 = .ok (.aload_n 0, 1) := by decide +kernel
theorem dX9_years_31 : decode cX9_years 31 = .ok (.getfield 37, 3) := by decide +kernel
theorem dX9_years_34 : decode cX9_years 34 = .ok (.getfield 112, 3) := by decide +kernel
theorem dX9_years_37 : decode cX9_years 37 = .ok (.invokevirtual 311, 3) := by decide +kernel
theorem dX9_years_40 : decode cX9_years 40 = .ok (.iload_n 1, 1) := by decide +kernel
theorem dX9_years_41 : decode cX9_years 41 = .ok (.istore 4, 2) := by decide +kernel
theorem dX9_years_43 : decode cX9_years 43 = .ok (.iconst 0, 1) := by decide +kernel
theorem dX9_years_44 : decode cX9_years 44 = .ok (.istore 5, 2) := by decide +kernel
theorem dX9_years_46 : decode cX9_years 46 = .ok (.iload 5, 2) := by decide +kernel
theorem dX9_years_48 : decode cX9_years 48 = .ok (.iload_n 2, 1) := by decide +kernel
theorem dX9_years_49 : decode cX9_years 49 = .ok (.if_icmp .ge 17, 3) := by decide +kernel
theorem dX9_years_66 : decode cX9_years 66 = .ok (.iload_n 3, 1) := by decide +kernel
theorem dX9_years_67 : decode cX9_years 67 = .ok (.lookupswitch 63 #[(0, 25), (1, 44)], 25) := by decide +kernel
theorem dX9_years_130 : decode cX9_years 130 = .ok (.aload_n 0, 1) := by decide +kernel
theorem dX9_years_131 : decode cX9_years 131 = .ok (.getfield 54, 3) := by decide +kernel
theorem dX9_years_134 : decode cX9_years 134 = .ok (.bipush 36, 2) := by decide +kernel
theorem dX9_years_136 : decode cX9_years 136 = .ok (.invokevirtual 143, 3) := by decide +kernel
theorem dX9_years_139 : decode cX9_years 139 = .ok (.ireturn, 1) := by decide +kernel
theorem dX9_years_92 : decode cX9_years 92 = .ok (.aload_n 0, 1) := by decide +kernel
theorem dX9_years_93 : decode cX9_years 93 = .ok (.getfield 54, 3) := by decide +kernel
theorem dX9_years_96 : decode cX9_years 96 = .ok (.getfield 140, 3) := by decide +kernel
theorem dX9_years_99 : decode cX9_years 99 = .ok (.aload_n 0, 1) := by decide +kernel
theorem dX9_years_100 : decode cX9_years 100 = .ok (.getfield 37, 3) := by decide +kernel
theorem dX9_years_103 : decode cX9_years 103 = .ok (.getfield 112, 3) := by decide +kernel
theorem dX9_years_106 : decode cX9_years 106 = .ok (.getfield 140, 3) := by decide +kernel
theorem dX9_years_109 : decode cX9_years 109 = .ok (.isub, 1) := by decide +kernel
theorem dX9_years_110 : decode cX9_years 110 = .ok (.ireturn, 1) := by decide +kernel
theorem dX9_years_111 : decode cX9_years 111 = .ok (.aload_n 0, 1) := by decide +kernel
theorem dX9_years_112 : decode cX9_years 112 = .ok (.getfield 54, 3) := by decide +kernel
theorem dX9_years_115 : decode cX9_years 115 = .ok (.getfield 137, 3) := by decide +kernel
theorem dX9_years_118 : decode cX9_years 118 = .ok (.aload_n 0, 1) := by decide +kernel
theorem dX9_years_119 : decode cX9_years 119 = .ok (.getfield 37, 3) := by decide +kernel
theorem dX9_years_122 : decode cX9_years 122 = .ok (.getfield 112, 3) := by decide +kernel
theorem dX9_years_125 : decode cX9_years 125 = .ok (.getfield 137, 3) := by decide +kernel
theorem dX9_years_128 : decode cX9_years 128 = .ok (.isub, 1) := by decide +kernel
theorem dX9_years_129 : decode cX9_years 129 = .ok (.ireturn, 1) := by decide +kernel
theorem dX9_years_52 : decode cX9_years 52 = .ok (.aload_n 0, 1) := by decide +kernel
theorem dX9_years_53 : decode cX9_years 53 = .ok (.iload 4, 2) := by decide +kernel
theorem dX9_years_55 : decode cX9_years 55 = .ok (.invokevirtual 408, 3) := by decide +kernel
theorem dX9_years_58 : decode cX9_years 58 = .ok (.istore 4, 2) := by decide +kernel
theorem dX9_years_60 : decode cX9_years 60 = .ok (.iinc 5 1, 3) := by decide +kernel
theorem dX9_years_63 : decode cX9_years 63 = .ok (.goto (-17), 3) := by decide +kernel
