-- decode rows of refcmp
theorem dX10_weakestName_0 : decode cX10_weakestName 0 = .ok (.aload_n 0, 1) := by decide +kernel
theorem dX10_weakestName_1 : decode cX10_weakestName 1 = .ok (.getfield 43, 3) := by decide +kernel
theorem dX10_weakestName_4 : decode cX10_weakestName 4 = .ok (.bipush 90, 2) := by decide +kernel
theorem dX10_weakestName_6 : decode cX10_weakestName 6 = .ok (.iload_n 1, 1) := by decide +kernel
theorem dX10_weakestName_7 : decode cX10_weakestName 7 = .ok (.imul, 1) := by decide +kernel
theorem dX10_weakestName_8 : decode cX10_weakestName 8 = .ok (.iaload, 1) := by decide +kernel
theorem dX10_weakestName_9 : decode cX10_weakestName 9 = .ok (.istore_n 2, 1) := by decide +kernel
theorem dX10_weakestName_10 : decode cX10_weakestName 10 = .ok (.aload_n 0, 1) := by decide +kernel
theorem dX10_weakestName_11 : decode cX10_weakestName 11 = .ok (.invokevirtual 409, 3) := by decide +kernel
theorem dX10_weakestName_14 : decode cX10_weakestName 14 = .ok (.aload_n 0, 1) := by decide +kernel
theorem dX10_weakestName_15 : decode cX10_weakestName 15 = .ok (.sipush 350, 3) := by decide +kernel
theorem dX10_weakestName_18 : decode cX10_weakestName 18 = .ok (.iload_n 2, 1) := by decide +kernel
theorem dX10_weakestName_19 : decode cX10_weakestName 19 = .ok (.aload_n 0, 1) := by decide +kernel
theorem dX10_weakestName_20 : decode cX10_weakestName 20 = .ok (.iload_n 1, 1) := by decide +kernel
theorem dX10_weakestName_21 : decode cX10_weakestName 21 = .ok (.invokevirtual 424, 3) := by decide +kernel
theorem dX10_weakestName_24 : decode cX10_weakestName 24 = .ok (.invokevirtual 135, 3) := by decide +kernel
theorem dX10_weakestName_27 : decode cX10_weakestName 27 = .ok (.iconst 0, 1) := by decide +kernel
theorem dX10_weakestName_28 : decode cX10_weakestName 28 = .ok (.istore_n 3, 1) := by decide +kernel
theorem dX10_weakestName_29 : decode cX10_weakestName 29 = .ok (.iload_n 3, 1) := by decide +kernel
theorem dX10_weakestName_30 : decode cX10_weakestName 30 = .ok (.bipush 84, 2) := by decide +kernel
theorem dX10_weakestName_32 : decode cX10_weakestName 32 = .ok (.if_icmp .ge 39, 3) := by decide +kernel
theorem dX10_weakestName_71 : decode cX10_weakestName 71 = .ok (.aload_n 0, 1) := by decide +kernel
theorem dX10_weakestName_72 : decode cX10_weakestName 72 = .ok (.sipush 350, 3) := by decide +kernel
theorem dX10_weakestName_75 : decode cX10_weakestName 75 = .ok (.iload_n 2, 1) := by decide +kernel
theorem dX10_weakestName_76 : decode cX10_weakestName 76 = .ok (.invokevirtual 363, 3) := by decide +kernel
theorem dX10_weakestName_79 : decode cX10_weakestName 79 = .ok (.istore_n 3, 1) := by decide +kernel
theorem dX10_weakestName_80 : decode cX10_weakestName 80 = .ok (.iload_n 3, 1) := by decide +kernel
theorem dX10_weakestName_81 : decode cX10_weakestName 81 = .ok (.iconst (-1), 1) := by decide +kernel
theorem dX10_weakestName_82 : decode cX10_weakestName 82 = .ok (.if_icmp .ne 7, 3) := by decide +kernel
theorem dX10_weakestName_89 : decode cX10_weakestName 89 = .ok (.aload_n 0, 1) := by decide +kernel
theorem dX10_weakestName_90 : decode cX10_weakestName 90 = .ok (.iload_n 1, 1) := by decide +kernel
theorem dX10_weakestName_91 : decode cX10_weakestName 91 = .ok (.iload_n 3, 1) := by decide +kernel
theorem dX10_weakestName_92 : decode cX10_weakestName 92 = .ok (.bipush 6, 2) := by decide +kernel
theorem dX10_weakestName_94 : decode cX10_weakestName 94 = .ok (.invokevirtual 427, 3) := by decide +kernel
theorem dX10_weakestName_97 : decode cX10_weakestName 97 = .ok (.ireturn, 1) := by decide +kernel
theorem dX10_weakestName_85 : decode cX10_weakestName 85 = .ok (.iconst (-1), 1) := by decide +kernel
theorem dX10_weakestName_86 : decode cX10_weakestName 86 = .ok (.goto 11, 3) := by decide +kernel
theorem dX10_weakestName_35 : decode cX10_weakestName 35 = .ok (.aload_n 0, 1) := by decide +kernel
theorem dX10_weakestName_36 : decode cX10_weakestName 36 = .ok (.getfield 9, 3) := by decide +kernel
theorem dX10_weakestName_39 : decode cX10_weakestName 39 = .ok (.sipush 356, 3) := by decide +kernel
theorem dX10_weakestName_42 : decode cX10_weakestName 42 = .ok (.bipush 86, 2) := by decide +kernel
theorem dX10_weakestName_44 : decode cX10_weakestName 44 = .ok (.iload_n 2, 1) := by decide +kernel
theorem dX10_weakestName_45 : decode cX10_weakestName 45 = .ok (.imul, 1) := by decide +kernel
theorem dX10_weakestName_46 : decode cX10_weakestName 46 = .ok (.iadd, 1) := by decide +kernel
theorem dX10_weakestName_47 : decode cX10_weakestName 47 = .ok (.iconst 2, 1) := by decide +kernel
theorem dX10_weakestName_48 : decode cX10_weakestName 48 = .ok (.iadd, 1) := by decide +kernel
theorem dX10_weakestName_49 : decode cX10_weakestName 49 = .ok (.iload_n 3, 1) := by decide +kernel
theorem dX10_weakestName_50 : decode cX10_weakestName 50 = .ok (.iadd, 1) := by decide +kernel
theorem dX10_weakestName_51 : decode cX10_weakestName 51 = .ok (.aload_n 0, 1) := by decide +kernel
theorem dX10_weakestName_52 : decode cX10_weakestName 52 = .ok (.getfield 43, 3) := by decide +kernel
theorem dX10_weakestName_55 : decode cX10_weakestName 55 = .ok (.bipush 90, 2) := by decide +kernel
theorem dX10_weakestName_57 : decode cX10_weakestName 57 = .ok (.iload_n 1, 1) := by decide +kernel
theorem dX10_weakestName_58 : decode cX10_weakestName 58 = .ok (.imul, 1) := by decide +kernel
theorem dX10_weakestName_59 : decode cX10_weakestName 59 = .ok (.iconst 3, 1) := by decide +kernel
theorem dX10_weakestName_60 : decode cX10_weakestName 60 = .ok (.iadd, 1) := by decide +kernel
theorem dX10_weakestName_61 : decode cX10_weakestName 61 = .ok (.iload_n 3, 1) := by decide +kernel
theorem dX10_weakestName_62 : decode cX10_weakestName 62 = .ok (.iadd, 1) := by decide +kernel
theorem dX10_weakestName_63 : decode cX10_weakestName 63 = .ok (.iaload, 1) := by decide +kernel
theorem dX10_weakestName_64 : decode cX10_weakestName 64 = .ok (.iastore, 1) := by decide +kernel
theorem dX10_weakestName_65 : decode cX10_weakestName 65 = .ok (.iinc 3 1, 3) := by decide +kernel
theorem dX10_weakestName_68 : decode cX10_weakestName 68 = .ok (.goto (-39), 3) := by decide +kernel
theorem dX10_compare_0 : decode cX10_compare 0 = .ok (.aload_n 0, 1) := by decide +kernel
theorem dX10_compare_1 : decode cX10_compare 1 = .ok (.iconst 0, 1) := by decide +kernel
theorem dX10_compare_2 : decode cX10_compare 2 = .ok (.putfield 110, 3) := by decide +kernel
theorem dX10_compare_5 : decode cX10_compare 5 = .ok (.aload_n 0, 1) := by decide +kernel
theorem dX10_compare_6 : decode cX10_compare 6 = .ok (.iload_n 1, 1) := by decide +kernel
theorem dX10_compare_7 : decode cX10_compare 7 = .ok (.invokevirtual 421, 3) := by decide +kernel
theorem dX10_compare_10 : decode cX10_compare 10 = .ok (.ifCond .eq 25, 3) := by decide +kernel
theorem dX10_compare_13 : decode cX10_compare 13 = .ok (.aload_n 0, 1) := by decide +kernel
theorem dX10_compare_14 : decode cX10_compare 14 = .ok (.iload_n 2, 1) := by decide +kernel
theorem dX10_compare_15 : decode cX10_compare 15 = .ok (.invokevirtual 421, 3) := by decide +kernel
theorem dX10_compare_18 : decode cX10_compare 18 = .ok (.ifCond .eq 17, 3) := by decide +kernel
theorem dX10_compare_21 : decode cX10_compare 21 = .ok (.aload_n 0, 1) := by decide +kernel
theorem dX10_compare_22 : decode cX10_compare 22 = .ok (.iload_n 3, 1) := by decide +kernel
theorem dX10_compare_23 : decode cX10_compare 23 = .ok (.iconst 0, 1) := by decide +kernel
theorem dX10_compare_24 : decode cX10_compare 24 = .ok (.iconst 3, 1) := by decide +kernel
theorem dX10_compare_25 : decode cX10_compare 25 = .ok (.invokestatic 281, 3) := by decide +kernel
theorem dX10_compare_28 : decode cX10_compare 28 = .ok (.iconst 1, 1) := by decide +kernel
theorem dX10_compare_29 : decode cX10_compare 29 = .ok (.invokevirtual 324, 3) := by decide +kernel
theorem dX10_compare_32 : decode cX10_compare 32 = .ok (.ifCond .ne 5, 3) := by decide +kernel
theorem dX10_compare_37 : decode cX10_compare 37 = .ok (.iload_n 3, 1) := by decide +kernel
theorem dX10_compare_38 : decode cX10_compare 38 = .ok (.ifCond .ne 10, 3) := by decide +kernel
theorem dX10_compare_48 : decode cX10_compare 48 = .ok (.iload_n 3, 1) := by decide +kernel
theorem dX10_compare_49 : decode cX10_compare 49 = .ok (.iconst 3, 1) := by decide +kernel
theorem dX10_compare_50 : decode cX10_compare 50 = .ok (.if_icmp .ne 31, 3) := by decide +kernel
theorem dX10_compare_81 : decode cX10_compare 81 = .ok (.aload_n 0, 1) := by decide +kernel
theorem dX10_compare_82 : decode cX10_compare 82 = .ok (.aload_n 0, 1) := by decide +kernel
theorem dX10_compare_83 : decode cX10_compare 83 = .ok (.iload_n 1, 1) := by decide +kernel
theorem dX10_compare_84 : decode cX10_compare 84 = .ok (.invokevirtual 424, 3) := by decide +kernel
theorem dX10_compare_87 : decode cX10_compare 87 = .ok (.putfield 430, 3) := by decide +kernel
theorem dX10_compare_90 : decode cX10_compare 90 = .ok (.aload_n 0, 1) := by decide +kernel
theorem dX10_compare_91 : decode cX10_compare 91 = .ok (.aload_n 0, 1) := by decide +kernel
theorem dX10_compare_92 : decode cX10_compare 92 = .ok (.iload_n 2, 1) := by decide +kernel
theorem dX10_compare_93 : decode cX10_compare 93 = .ok (.invokevirtual 424, 3) := by decide +kernel
theorem dX10_compare_96 : decode cX10_compare 96 = .ok (.putfield 433, 3) := by decide +kernel
theorem dX10_compare_99 : decode cX10_compare 99 = .ok (.aload_n 0, 1) := by decide +kernel
theorem dX10_compare_100 : decode cX10_compare 100 = .ok (.iload_n 1, 1) := by decide +kernel
theorem dX10_compare_101 : decode cX10_compare 101 = .ok (.aload_n 0, 1) := by decide +kernel
theorem dX10_compare_102 : decode cX10_compare 102 = .ok (.getfield 92, 3) := by decide +kernel
theorem dX10_compare_105 : decode cX10_compare 105 = .ok (.invokevirtual 442, 3) := by decide +kernel
theorem dX10_compare_108 : decode cX10_compare 108 = .ok (.aload_n 0, 1) := by decide +kernel
theorem dX10_compare_109 : decode cX10_compare 109 = .ok (.iload_n 2, 1) := by decide +kernel
theorem dX10_compare_110 : decode cX10_compare 110 = .ok (.aload_n 0, 1) := by decide +kernel
theorem dX10_compare_111 : decode cX10_compare 111 = .ok (.getfield 95, 3) := by decide +kernel
theorem dX10_compare_114 : decode cX10_compare 114 = .ok (.invokevirtual 442, 3) := by decide +kernel
theorem dX10_compare_117 : decode cX10_compare 117 = .ok (.aload_n 0, 1) := by decide +kernel
theorem dX10_compare_118 : decode cX10_compare 118 = .ok (.iload_n 3, 1) := by decide +kernel
theorem dX10_compare_119 : decode cX10_compare 119 = .ok (.iconst 1, 1) := by decide +kernel
theorem dX10_compare_120 : decode cX10_compare 120 = .ok (.if_icmp .ne 7, 3) := by decide +kernel
theorem dX10_compare_127 : decode cX10_compare 127 = .ok (.iconst 0, 1) := by decide +kernel
theorem dX10_compare_128 : decode cX10_compare 128 = .ok (.invokevirtual 446, 3) := by decide +kernel
theorem dX10_compare_131 : decode cX10_compare 131 = .ok (.ireturn, 1) := by decide +kernel
theorem dX10_compare_123 : decode cX10_compare 123 = .ok (.iconst 1, 1) := by decide +kernel
theorem dX10_compare_124 : decode cX10_compare 124 = .ok (.goto 4, 3) := by decide +kernel
theorem dX10_compare_53 : decode cX10_compare 53 = .ok (.aload_n 0, 1) := by decide +kernel
theorem dX10_compare_54 : decode cX10_compare 54 = .ok (.iload_n 1, 1) := by decide +kernel
theorem dX10_compare_55 : decode cX10_compare 55 = .ok (.invokevirtual 439, 3) := by decide +kernel
theorem dX10_compare_58 : decode cX10_compare 58 = .ok (.iconst (-1), 1) := by decide +kernel
theorem dX10_compare_59 : decode cX10_compare 59 = .ok (.if_icmp .eq 20, 3) := by decide +kernel
theorem dX10_compare_79 : decode cX10_compare 79 = .ok (.iconst 0, 1) := by decide +kernel
theorem dX10_compare_80 : decode cX10_compare 80 = .ok (.ireturn, 1) := by decide +kernel
theorem dX10_compare_62 : decode cX10_compare 62 = .ok (.aload_n 0, 1) := by decide +kernel
theorem dX10_compare_63 : decode cX10_compare 63 = .ok (.iload_n 1, 1) := by decide +kernel
theorem dX10_compare_64 : decode cX10_compare 64 = .ok (.invokevirtual 439, 3) := by decide +kernel
theorem dX10_compare_67 : decode cX10_compare 67 = .ok (.aload_n 0, 1) := by decide +kernel
theorem dX10_compare_68 : decode cX10_compare 68 = .ok (.iload_n 2, 1) := by decide +kernel
theorem dX10_compare_69 : decode cX10_compare 69 = .ok (.invokevirtual 439, 3) := by decide +kernel
theorem dX10_compare_72 : decode cX10_compare 72 = .ok (.if_icmp .ne 7, 3) := by decide +kernel
theorem dX10_compare_75 : decode cX10_compare 75 = .ok (.iconst 1, 1) := by decide +kernel
theorem dX10_compare_76 : decode cX10_compare 76 = .ok (.goto 4, 3) := by decide +kernel
theorem dX10_compare_41 : decode cX10_compare 41 = .ok (.aload_n 0, 1) := by decide +kernel
theorem dX10_compare_42 : decode cX10_compare 42 = .ok (.iload_n 1, 1) := by decide +kernel
theorem dX10_compare_43 : decode cX10_compare 43 = .ok (.iload_n 2, 1) := by decide +kernel
theorem dX10_compare_44 : decode cX10_compare 44 = .ok (.invokevirtual 436, 3) := by decide +kernel
theorem dX10_compare_47 : decode cX10_compare 47 = .ok (.ireturn, 1) := by decide +kernel
theorem dX10_compare_35 : decode cX10_compare 35 = .ok (.iconst 0, 1) := by decide +kernel
theorem dX10_compare_36 : decode cX10_compare 36 = .ok (.ireturn, 1) := by decide +kernel
theorem dX10_nearest_0 : decode cX10_nearest 0 = .ok (.aload_n 0, 1) := by decide +kernel
theorem dX10_nearest_1 : decode cX10_nearest 1 = .ok (.iconst 0, 1) := by decide +kernel
theorem dX10_nearest_2 : decode cX10_nearest 2 = .ok (.putfield 110, 3) := by decide +kernel
theorem dX10_nearest_5 : decode cX10_nearest 5 = .ok (.aload_n 0, 1) := by decide +kernel
theorem dX10_nearest_6 : decode cX10_nearest 6 = .ok (.iload_n 1, 1) := by decide +kernel
theorem dX10_nearest_7 : decode cX10_nearest 7 = .ok (.invokevirtual 421, 3) := by decide +kernel
theorem dX10_nearest_10 : decode cX10_nearest 10 = .ok (.ifCond .ne 5, 3) := by decide +kernel
theorem dX10_nearest_15 : decode cX10_nearest 15 = .ok (.iconst (-1), 1) := by decide +kernel
theorem dX10_nearest_16 : decode cX10_nearest 16 = .ok (.istore_n 2, 1) := by decide +kernel
theorem dX10_nearest_17 : decode cX10_nearest 17 = .ok (.iconst 0, 1) := by decide +kernel
theorem dX10_nearest_18 : decode cX10_nearest 18 = .ok (.istore_n 3, 1) := by decide +kernel
theorem dX10_nearest_19 : decode cX10_nearest 19 = .ok (.aload_n 0, 1) := by decide +kernel
theorem dX10_nearest_20 : decode cX10_nearest 20 = .ok (.aload_n 0, 1) := by decide +kernel
theorem dX10_nearest_21 : decode cX10_nearest 21 = .ok (.iload_n 1, 1) := by decide +kernel
theorem dX10_nearest_22 : decode cX10_nearest 22 = .ok (.invokevirtual 424, 3) := by decide +kernel
theorem dX10_nearest_25 : decode cX10_nearest 25 = .ok (.putfield 430, 3) := by decide +kernel
theorem dX10_nearest_28 : decode cX10_nearest 28 = .ok (.aload_n 0, 1) := by decide +kernel
theorem dX10_nearest_29 : decode cX10_nearest 29 = .ok (.iload_n 1, 1) := by decide +kernel
theorem dX10_nearest_30 : decode cX10_nearest 30 = .ok (.aload_n 0, 1) := by decide +kernel
theorem dX10_nearest_31 : decode cX10_nearest 31 = .ok (.getfield 92, 3) := by decide +kernel
theorem dX10_nearest_34 : decode cX10_nearest 34 = .ok (.invokevirtual 442, 3) := by decide +kernel
theorem dX10_nearest_37 : decode cX10_nearest 37 = .ok (.iconst 0, 1) := by decide +kernel
theorem dX10_nearest_38 : decode cX10_nearest 38 = .ok (.istore 4, 2) := by decide +kernel
theorem dX10_nearest_40 : decode cX10_nearest 40 = .ok (.iload 4, 2) := by decide +kernel
theorem dX10_nearest_42 : decode cX10_nearest 42 = .ok (.aload_n 0, 1) := by decide +kernel
theorem dX10_nearest_43 : decode cX10_nearest 43 = .ok (.getfield 198, 3) := by decide +kernel
theorem dX10_nearest_46 : decode cX10_nearest 46 = .ok (.if_icmp .ge 82, 3) := by decide +kernel
theorem dX10_nearest_128 : decode cX10_nearest 128 = .ok (.iload_n 2, 1) := by decide +kernel
theorem dX10_nearest_129 : decode cX10_nearest 129 = .ok (.ireturn, 1) := by decide +kernel
theorem dX10_nearest_49 : decode cX10_nearest 49 = .ok (.aload_n 0, 1) := by decide +kernel
theorem dX10_nearest_50 : decode cX10_nearest 50 = .ok (.aload_n 0, 1) := by decide +kernel
theorem dX10_nearest_51 : decode cX10_nearest 51 = .ok (.iconst 0, 1) := by decide +kernel
theorem dX10_nearest_52 : decode cX10_nearest 52 = .ok (.iload 4, 2) := by decide +kernel
theorem dX10_nearest_54 : decode cX10_nearest 54 = .ok (.invokevirtual 121, 3) := by decide +kernel
theorem dX10_nearest_57 : decode cX10_nearest 57 = .ok (.putfield 433, 3) := by decide +kernel
theorem dX10_nearest_60 : decode cX10_nearest 60 = .ok (.iconst 0, 1) := by decide +kernel
theorem dX10_nearest_61 : decode cX10_nearest 61 = .ok (.istore 5, 2) := by decide +kernel
theorem dX10_nearest_63 : decode cX10_nearest 63 = .ok (.iload 5, 2) := by decide +kernel
theorem dX10_nearest_65 : decode cX10_nearest 65 = .ok (.aload_n 0, 1) := by decide +kernel
theorem dX10_nearest_66 : decode cX10_nearest 66 = .ok (.getfield 433, 3) := by decide +kernel
theorem dX10_nearest_69 : decode cX10_nearest 69 = .ok (.if_icmp .ge 26, 3) := by decide +kernel
theorem dX10_nearest_95 : decode cX10_nearest 95 = .ok (.aload_n 0, 1) := by decide +kernel
theorem dX10_nearest_96 : decode cX10_nearest 96 = .ok (.iconst 0, 1) := by decide +kernel
theorem dX10_nearest_97 : decode cX10_nearest 97 = .ok (.invokevirtual 446, 3) := by decide +kernel
theorem dX10_nearest_100 : decode cX10_nearest 100 = .ok (.istore 5, 2) := by decide +kernel
theorem dX10_nearest_102 : decode cX10_nearest 102 = .ok (.iload_n 2, 1) := by decide +kernel
theorem dX10_nearest_103 : decode cX10_nearest 103 = .ok (.iconst (-1), 1) := by decide +kernel
theorem dX10_nearest_104 : decode cX10_nearest 104 = .ok (.if_icmp .eq 12, 3) := by decide +kernel
theorem dX10_nearest_116 : decode cX10_nearest 116 = .ok (.iload 4, 2) := by decide +kernel
theorem dX10_nearest_118 : decode cX10_nearest 118 = .ok (.istore_n 2, 1) := by decide +kernel
theorem dX10_nearest_119 : decode cX10_nearest 119 = .ok (.iload 5, 2) := by decide +kernel
theorem dX10_nearest_121 : decode cX10_nearest 121 = .ok (.istore_n 3, 1) := by decide +kernel
theorem dX10_nearest_122 : decode cX10_nearest 122 = .ok (.iinc 4 1, 3) := by decide +kernel
theorem dX10_nearest_125 : decode cX10_nearest 125 = .ok (.goto (-85), 3) := by decide +kernel
theorem dX10_nearest_107 : decode cX10_nearest 107 = .ok (.iload 5, 2) := by decide +kernel
theorem dX10_nearest_109 : decode cX10_nearest 109 = .ok (.iload_n 3, 1) := by decide +kernel
theorem dX10_nearest_110 : decode cX10_nearest 110 = .ok (.if_icmp .lt 6, 3) := by decide +kernel
theorem dX10_nearest_113 : decode cX10_nearest 113 = .ok (.goto 9, 3) := by decide +kernel
theorem dX10_nearest_72 : decode cX10_nearest 72 = .ok (.aload_n 0, 1) := by decide +kernel
theorem dX10_nearest_73 : decode cX10_nearest 73 = .ok (.getfield 95, 3) := by decide +kernel
theorem dX10_nearest_76 : decode cX10_nearest 76 = .ok (.iload 5, 2) := by decide +kernel
theorem dX10_nearest_78 : decode cX10_nearest 78 = .ok (.aload_n 0, 1) := by decide +kernel
theorem dX10_nearest_79 : decode cX10_nearest 79 = .ok (.iconst 0, 1) := by decide +kernel
theorem dX10_nearest_80 : decode cX10_nearest 80 = .ok (.iload 4, 2) := by decide +kernel
theorem dX10_nearest_82 : decode cX10_nearest 82 = .ok (.iload 5, 2) := by decide +kernel
theorem dX10_nearest_84 : decode cX10_nearest 84 = .ok (.iconst 0, 1) := by decide +kernel
theorem dX10_nearest_85 : decode cX10_nearest 85 = .ok (.invokevirtual 117, 3) := by decide +kernel
theorem dX10_nearest_88 : decode cX10_nearest 88 = .ok (.iastore, 1) := by decide +kernel
theorem dX10_nearest_89 : decode cX10_nearest 89 = .ok (.iinc 5 1, 3) := by decide +kernel
theorem dX10_nearest_92 : decode cX10_nearest 92 = .ok (.goto (-29), 3) := by decide +kernel
theorem dX10_nearest_13 : decode cX10_nearest 13 = .ok (.iconst 0, 1) := by decide +kernel
theorem dX10_nearest_14 : decode cX10_nearest 14 = .ok (.ireturn, 1) := by decide +kernel
