-- decode rows of clause
theorem dX7_readSlope_0 : decode cX7_readSlope 0 = .ok (.aload_n 1, 1) := by decide +kernel
theorem dX7_readSlope_1 : decode cX7_readSlope 1 = .ok (.getfield 95, 3) := by decide +kernel
theorem dX7_readSlope_4 : decode cX7_readSlope 4 = .ok (.iconst 4, 1) := by decide +kernel
theorem dX7_readSlope_5 : decode cX7_readSlope 5 = .ok (.if_icmp .lt 12, 3) := by decide +kernel
theorem dX7_readSlope_17 : decode cX7_readSlope 17 = .ok (.aload_n 0, 1) := by decide +kernel
theorem dX7_readSlope_18 : decode cX7_readSlope 18 = .ok (.invokevirtual 98, 3) := by decide +kernel
theorem dX7_readSlope_21 : decode cX7_readSlope 21 = .ok (.aload_n 0, 1) := by decide +kernel
theorem dX7_readSlope_22 : decode cX7_readSlope 22 = .ok (.iconst 0, 1) := by decide +kernel
theorem dX7_readSlope_23 : decode cX7_readSlope 23 = .ok (.bipush 90, 2) := by decide +kernel
theorem dX7_readSlope_25 : decode cX7_readSlope 25 = .ok (.invokevirtual 101, 3) := by decide +kernel
theorem dX7_readSlope_28 : decode cX7_readSlope 28 = .ok (.istore_n 2, 1) := by decide +kernel
theorem dX7_readSlope_29 : decode cX7_readSlope 29 = .ok (.aload_n 0, 1) := by decide +kernel
theorem dX7_readSlope_30 : decode cX7_readSlope 30 = .ok (.iconst 0, 1) := by decide +kernel
theorem dX7_readSlope_31 : decode cX7_readSlope 31 = .ok (.bipush 20, 2) := by decide +kernel
theorem dX7_readSlope_33 : decode cX7_readSlope 33 = .ok (.invokevirtual 101, 3) := by decide +kernel
theorem dX7_readSlope_36 : decode cX7_readSlope 36 = .ok (.istore_n 3, 1) := by decide +kernel
theorem dX7_readSlope_37 : decode cX7_readSlope 37 = .ok (.aload_n 0, 1) := by decide +kernel
theorem dX7_readSlope_38 : decode cX7_readSlope 38 = .ok (.invokevirtual 104, 3) := by decide +kernel
theorem dX7_readSlope_41 : decode cX7_readSlope 41 = .ok (.aload_n 0, 1) := by decide +kernel
theorem dX7_readSlope_42 : decode cX7_readSlope 42 = .ok (.getfield 15, 3) := by decide +kernel
theorem dX7_readSlope_45 : decode cX7_readSlope 45 = .ok (.ifCond .ne 33, 3) := by decide +kernel
theorem dX7_readSlope_78 : decode cX7_readSlope 78 = .ok (.return_, 1) := by decide +kernel
theorem dX7_readSlope_48 : decode cX7_readSlope 48 = .ok (.aload_n 1, 1) := by decide +kernel
theorem dX7_readSlope_49 : decode cX7_readSlope 49 = .ok (.getfield 107, 3) := by decide +kernel
theorem dX7_readSlope_52 : decode cX7_readSlope 52 = .ok (.aload_n 1, 1) := by decide +kernel
theorem dX7_readSlope_53 : decode cX7_readSlope 53 = .ok (.getfield 95, 3) := by decide +kernel
theorem dX7_readSlope_56 : decode cX7_readSlope 56 = .ok (.iload_n 2, 1) := by decide +kernel
theorem dX7_readSlope_57 : decode cX7_readSlope 57 = .ok (.iastore, 1) := by decide +kernel
theorem dX7_readSlope_58 : decode cX7_readSlope 58 = .ok (.aload_n 1, 1) := by decide +kernel
theorem dX7_readSlope_59 : decode cX7_readSlope 59 = .ok (.getfield 111, 3) := by decide +kernel
theorem dX7_readSlope_62 : decode cX7_readSlope 62 = .ok (.aload_n 1, 1) := by decide +kernel
theorem dX7_readSlope_63 : decode cX7_readSlope 63 = .ok (.getfield 95, 3) := by decide +kernel
theorem dX7_readSlope_66 : decode cX7_readSlope 66 = .ok (.iload_n 3, 1) := by decide +kernel
theorem dX7_readSlope_67 : decode cX7_readSlope 67 = .ok (.iastore, 1) := by decide +kernel
theorem dX7_readSlope_68 : decode cX7_readSlope 68 = .ok (.aload_n 1, 1) := by decide +kernel
theorem dX7_readSlope_69 : decode cX7_readSlope 69 = .ok (.dup, 1) := by decide +kernel
theorem dX7_readSlope_70 : decode cX7_readSlope 70 = .ok (.getfield 95, 3) := by decide +kernel
theorem dX7_readSlope_73 : decode cX7_readSlope 73 = .ok (.iconst 1, 1) := by decide +kernel
theorem dX7_readSlope_74 : decode cX7_readSlope 74 = .ok (.iadd, 1) := by decide +kernel
theorem dX7_readSlope_75 : decode cX7_readSlope 75 = .ok (.putfield 95, 3) := by decide +kernel
theorem dX7_readSlope_8 : decode cX7_readSlope 8 = .ok (.aload_n 0, 1) := by decide +kernel
theorem dX7_readSlope_9 : decode cX7_readSlope 9 = .ok (.iconst 2, 1) := by decide +kernel
theorem dX7_readSlope_10 : decode cX7_readSlope 10 = .ok (.aload_n 0, 1) := by decide +kernel
theorem dX7_readSlope_11 : decode cX7_readSlope 11 = .ok (.getfield 28, 3) := by decide +kernel
theorem dX7_readSlope_14 : decode cX7_readSlope 14 = .ok (.invokevirtual 91, 3) := by decide +kernel
theorem dX7_readHour_93 : decode cX7_readHour 93 = .ok (.aload_n 0, 1) := by decide +kernel
theorem dX7_readHour_94 : decode cX7_readHour 94 = .ok (.invokevirtual 104, 3) := by decide +kernel
theorem dX7_readHour_97 : decode cX7_readHour 97 = .ok (.aload_n 0, 1) := by decide +kernel
theorem dX7_readHour_98 : decode cX7_readHour 98 = .ok (.getfield 15, 3) := by decide +kernel
theorem dX7_readHour_101 : decode cX7_readHour 101 = .ok (.ifCond .ne 54, 3) := by decide +kernel
theorem dX7_readHour_155 : decode cX7_readHour 155 = .ok (.return_, 1) := by decide +kernel
theorem dX7_readHour_104 : decode cX7_readHour 104 = .ok (.aload_n 1, 1) := by decide +kernel
theorem dX7_readHour_105 : decode cX7_readHour 105 = .ok (.getfield 140, 3) := by decide +kernel
theorem dX7_readHour_108 : decode cX7_readHour 108 = .ok (.aload_n 1, 1) := by decide +kernel
theorem dX7_readHour_109 : decode cX7_readHour 109 = .ok (.getfield 134, 3) := by decide +kernel
theorem dX7_readHour_112 : decode cX7_readHour 112 = .ok (.iload_n 2, 1) := by decide +kernel
theorem dX7_readHour_113 : decode cX7_readHour 113 = .ok (.ifCond .eq 8, 3) := by decide +kernel
theorem dX7_readHour_121 : decode cX7_readHour 121 = .ok (.iload_n 3, 1) := by decide +kernel
theorem dX7_readHour_122 : decode cX7_readHour 122 = .ok (.iastore, 1) := by decide +kernel
theorem dX7_readHour_123 : decode cX7_readHour 123 = .ok (.aload_n 1, 1) := by decide +kernel
theorem dX7_readHour_124 : decode cX7_readHour 124 = .ok (.getfield 143, 3) := by decide +kernel
theorem dX7_readHour_127 : decode cX7_readHour 127 = .ok (.aload_n 1, 1) := by decide +kernel
theorem dX7_readHour_128 : decode cX7_readHour 128 = .ok (.getfield 134, 3) := by decide +kernel
theorem dX7_readHour_131 : decode cX7_readHour 131 = .ok (.iload 4, 2) := by decide +kernel
theorem dX7_readHour_133 : decode cX7_readHour 133 = .ok (.iastore, 1) := by decide +kernel
theorem dX7_readHour_134 : decode cX7_readHour 134 = .ok (.aload_n 1, 1) := by decide +kernel
theorem dX7_readHour_135 : decode cX7_readHour 135 = .ok (.getfield 146, 3) := by decide +kernel
theorem dX7_readHour_138 : decode cX7_readHour 138 = .ok (.aload_n 1, 1) := by decide +kernel
theorem dX7_readHour_139 : decode cX7_readHour 139 = .ok (.getfield 134, 3) := by decide +kernel
theorem dX7_readHour_142 : decode cX7_readHour 142 = .ok (.iload 5, 2) := by decide +kernel
theorem dX7_readHour_144 : decode cX7_readHour 144 = .ok (.iastore, 1) := by decide +kernel
theorem dX7_readHour_145 : decode cX7_readHour 145 = .ok (.aload_n 1, 1) := by decide +kernel
theorem dX7_readHour_146 : decode cX7_readHour 146 = .ok (.dup, 1) := by decide +kernel
theorem dX7_readHour_147 : decode cX7_readHour 147 = .ok (.getfield 134, 3) := by decide +kernel
theorem dX7_readHour_150 : decode cX7_readHour 150 = .ok (.iconst 1, 1) := by decide +kernel
theorem dX7_readHour_151 : decode cX7_readHour 151 = .ok (.iadd, 1) := by decide +kernel
theorem dX7_readHour_152 : decode cX7_readHour 152 = .ok (.putfield 134, 3) := by decide +kernel
theorem dX7_readHour_116 : decode cX7_readHour 116 = .ok (.iload_n 3, 1) := by decide +kernel
theorem dX7_readHour_117 : decode cX7_readHour 117 = .ok (.ineg, 1) := by decide +kernel
theorem dX7_readHour_118 : decode cX7_readHour 118 = .ok (.goto 4, 3) := by decide +kernel
theorem dX7_readHour_62 : decode cX7_readHour 62 = .ok (.aload_n 0, 1) := by decide +kernel
theorem dX7_readHour_63 : decode cX7_readHour 63 = .ok (.invokevirtual 137, 3) := by decide +kernel
theorem dX7_readHour_66 : decode cX7_readHour 66 = .ok (.istore 4, 2) := by decide +kernel
theorem dX7_readHour_68 : decode cX7_readHour 68 = .ok (.iload 4, 2) := by decide +kernel
theorem dX7_readHour_70 : decode cX7_readHour 70 = .ok (.iconst 1, 1) := by decide +kernel
theorem dX7_readHour_71 : decode cX7_readHour 71 = .ok (.if_icmp .eq 9, 3) := by decide +kernel
theorem dX7_readHour_80 : decode cX7_readHour 80 = .ok (.aload_n 0, 1) := by decide +kernel
theorem dX7_readHour_81 : decode cX7_readHour 81 = .ok (.iconst 1, 1) := by decide +kernel
theorem dX7_readHour_82 : decode cX7_readHour 82 = .ok (.bipush 50, 2) := by decide +kernel
theorem dX7_readHour_84 : decode cX7_readHour 84 = .ok (.invokevirtual 101, 3) := by decide +kernel
theorem dX7_readHour_87 : decode cX7_readHour 87 = .ok (.goto 4, 3) := by decide +kernel
theorem dX7_readHour_91 : decode cX7_readHour 91 = .ok (.istore 5, 2) := by decide +kernel
theorem dX7_readHour_74 : decode cX7_readHour 74 = .ok (.iload 4, 2) := by decide +kernel
theorem dX7_readHour_76 : decode cX7_readHour 76 = .ok (.iconst 2, 1) := by decide +kernel
theorem dX7_readHour_77 : decode cX7_readHour 77 = .ok (.if_icmp .ne 13, 3) := by decide +kernel
theorem dX7_readHour_90 : decode cX7_readHour 90 = .ok (.iconst 0, 1) := by decide +kernel
theorem dX7_readHour_44 : decode cX7_readHour 44 = .ok (.aload_n 0, 1) := by decide +kernel
theorem dX7_readHour_45 : decode cX7_readHour 45 = .ok (.iconst 0, 1) := by decide +kernel
theorem dX7_readHour_46 : decode cX7_readHour 46 = .ok (.iload_n 2, 1) := by decide +kernel
theorem dX7_readHour_47 : decode cX7_readHour 47 = .ok (.ifCond .eq 9, 3) := by decide +kernel
theorem dX7_readHour_56 : decode cX7_readHour 56 = .ok (.bipush 100, 2) := by decide +kernel
theorem dX7_readHour_58 : decode cX7_readHour 58 = .ok (.invokevirtual 101, 3) := by decide +kernel
theorem dX7_readHour_61 : decode cX7_readHour 61 = .ok (.istore_n 3, 1) := by decide +kernel
theorem dX7_readHour_50 : decode cX7_readHour 50 = .ok (.sipush 300, 3) := by decide +kernel
theorem dX7_readHour_53 : decode cX7_readHour 53 = .ok (.goto 5, 3) := by decide +kernel
theorem dX7_readHour_18 : decode cX7_readHour 18 = .ok (.aload_n 0, 1) := by decide +kernel
theorem dX7_readHour_19 : decode cX7_readHour 19 = .ok (.invokevirtual 98, 3) := by decide +kernel
theorem dX7_readHour_22 : decode cX7_readHour 22 = .ok (.aload_n 0, 1) := by decide +kernel
theorem dX7_readHour_23 : decode cX7_readHour 23 = .ok (.getfield 25, 3) := by decide +kernel
theorem dX7_readHour_26 : decode cX7_readHour 26 = .ok (.iconst 4, 1) := by decide +kernel
theorem dX7_readHour_27 : decode cX7_readHour 27 = .ok (.if_icmp .ne 7, 3) := by decide +kernel
theorem dX7_readHour_34 : decode cX7_readHour 34 = .ok (.iconst 0, 1) := by decide +kernel
theorem dX7_readHour_35 : decode cX7_readHour 35 = .ok (.istore_n 2, 1) := by decide +kernel
theorem dX7_readHour_36 : decode cX7_readHour 36 = .ok (.iload_n 2, 1) := by decide +kernel
theorem dX7_readHour_37 : decode cX7_readHour 37 = .ok (.ifCond .eq 7, 3) := by decide +kernel
theorem dX7_readHour_30 : decode cX7_readHour 30 = .ok (.iconst 1, 1) := by decide +kernel
theorem dX7_readHour_31 : decode cX7_readHour 31 = .ok (.goto 4, 3) := by decide +kernel
theorem dX7_readHour_40 : decode cX7_readHour 40 = .ok (.aload_n 0, 1) := by decide +kernel
theorem dX7_readHour_41 : decode cX7_readHour 41 = .ok (.invokevirtual 98, 3) := by decide +kernel
theorem dX7_readHour_0 : decode cX7_readHour 0 = .ok (.aload_n 1, 1) := by decide +kernel
theorem dX7_readHour_1 : decode cX7_readHour 1 = .ok (.getfield 134, 3) := by decide +kernel
theorem dX7_readHour_4 : decode cX7_readHour 4 = .ok (.bipush 24, 2) := by decide +kernel
theorem dX7_readHour_6 : decode cX7_readHour 6 = .ok (.if_icmp .lt 12, 3) := by decide +kernel
theorem dX7_readHour_9 : decode cX7_readHour 9 = .ok (.aload_n 0, 1) := by decide +kernel
theorem dX7_readHour_10 : decode cX7_readHour 10 = .ok (.iconst 2, 1) := by decide +kernel
theorem dX7_readHour_11 : decode cX7_readHour 11 = .ok (.aload_n 0, 1) := by decide +kernel
theorem dX7_readHour_12 : decode cX7_readHour 12 = .ok (.getfield 28, 3) := by decide +kernel
theorem dX7_readHour_15 : decode cX7_readHour 15 = .ok (.invokevirtual 91, 3) := by decide +kernel
theorem dX7_readTable_0 : decode cX7_readTable 0 = .ok (.aload_n 0, 1) := by decide +kernel
theorem dX7_readTable_1 : decode cX7_readTable 1 = .ok (.invokevirtual 98, 3) := by decide +kernel
theorem dX7_readTable_4 : decode cX7_readTable 4 = .ok (.iload_n 2, 1) := by decide +kernel
theorem dX7_readTable_5 : decode cX7_readTable 5 = .ok (.aload_n 0, 1) := by decide +kernel
theorem dX7_readTable_6 : decode cX7_readTable 6 = .ok (.invokevirtual 123, 3) := by decide +kernel
theorem dX7_readTable_9 : decode cX7_readTable 9 = .ok (.iadd, 1) := by decide +kernel
theorem dX7_readTable_10 : decode cX7_readTable 10 = .ok (.istore 5, 2) := by decide +kernel
theorem dX7_readTable_12 : decode cX7_readTable 12 = .ok (.aload_n 0, 1) := by decide +kernel
theorem dX7_readTable_13 : decode cX7_readTable 13 = .ok (.getfield 37, 3) := by decide +kernel
theorem dX7_readTable_16 : decode cX7_readTable 16 = .ok (.iload 5, 2) := by decide +kernel
theorem dX7_readTable_18 : decode cX7_readTable 18 = .ok (.ishr, 1) := by decide +kernel
theorem dX7_readTable_19 : decode cX7_readTable 19 = .ok (.iconst 1, 1) := by decide +kernel
theorem dX7_readTable_20 : decode cX7_readTable 20 = .ok (.iand, 1) := by decide +kernel
theorem dX7_readTable_21 : decode cX7_readTable 21 = .ok (.iconst 1, 1) := by decide +kernel
theorem dX7_readTable_22 : decode cX7_readTable 22 = .ok (.if_icmp .ne 12, 3) := by decide +kernel
theorem dX7_readTable_34 : decode cX7_readTable 34 = .ok (.aload_n 0, 1) := by decide +kernel
theorem dX7_readTable_35 : decode cX7_readTable 35 = .ok (.iload_n 3, 1) := by decide +kernel
theorem dX7_readTable_36 : decode cX7_readTable 36 = .ok (.iload 4, 2) := by decide +kernel
theorem dX7_readTable_38 : decode cX7_readTable 38 = .ok (.invokevirtual 101, 3) := by decide +kernel
theorem dX7_readTable_41 : decode cX7_readTable 41 = .ok (.istore 6, 2) := by decide +kernel
theorem dX7_readTable_43 : decode cX7_readTable 43 = .ok (.aload_n 0, 1) := by decide +kernel
theorem dX7_readTable_44 : decode cX7_readTable 44 = .ok (.invokevirtual 104, 3) := by decide +kernel
theorem dX7_readTable_47 : decode cX7_readTable 47 = .ok (.aload_n 0, 1) := by decide +kernel
theorem dX7_readTable_48 : decode cX7_readTable 48 = .ok (.getfield 15, 3) := by decide +kernel
theorem dX7_readTable_51 : decode cX7_readTable 51 = .ok (.ifCond .ne 25, 3) := by decide +kernel
theorem dX7_readTable_76 : decode cX7_readTable 76 = .ok (.return_, 1) := by decide +kernel
theorem dX7_readTable_54 : decode cX7_readTable 54 = .ok (.aload_n 0, 1) := by decide +kernel
theorem dX7_readTable_55 : decode cX7_readTable 55 = .ok (.dup, 1) := by decide +kernel
theorem dX7_readTable_56 : decode cX7_readTable 56 = .ok (.getfield 37, 3) := by decide +kernel
theorem dX7_readTable_59 : decode cX7_readTable 59 = .ok (.iconst 1, 1) := by decide +kernel
theorem dX7_readTable_60 : decode cX7_readTable 60 = .ok (.iload 5, 2) := by decide +kernel
theorem dX7_readTable_62 : decode cX7_readTable 62 = .ok (.ishl, 1) := by decide +kernel
theorem dX7_readTable_63 : decode cX7_readTable 63 = .ok (.ior, 1) := by decide +kernel
theorem dX7_readTable_64 : decode cX7_readTable 64 = .ok (.putfield 37, 3) := by decide +kernel
theorem dX7_readTable_67 : decode cX7_readTable 67 = .ok (.aload_n 1, 1) := by decide +kernel
theorem dX7_readTable_68 : decode cX7_readTable 68 = .ok (.getfield 155, 3) := by decide +kernel
theorem dX7_readTable_71 : decode cX7_readTable 71 = .ok (.iload 5, 2) := by decide +kernel
theorem dX7_readTable_73 : decode cX7_readTable 73 = .ok (.iload 6, 2) := by decide +kernel
theorem dX7_readTable_75 : decode cX7_readTable 75 = .ok (.iastore, 1) := by decide +kernel
theorem dX7_readTable_25 : decode cX7_readTable 25 = .ok (.aload_n 0, 1) := by decide +kernel
theorem dX7_readTable_26 : decode cX7_readTable 26 = .ok (.iconst 4, 1) := by decide +kernel
theorem dX7_readTable_27 : decode cX7_readTable 27 = .ok (.aload_n 0, 1) := by decide +kernel
theorem dX7_readTable_28 : decode cX7_readTable 28 = .ok (.getfield 34, 3) := by decide +kernel
theorem dX7_readTable_31 : decode cX7_readTable 31 = .ok (.invokevirtual 91, 3) := by decide +kernel
theorem dX7_readLayer_107 : decode cX7_readLayer 107 = .ok (.aload_n 0, 1) := by decide +kernel
theorem dX7_readLayer_108 : decode cX7_readLayer 108 = .ok (.iconst 0, 1) := by decide +kernel
theorem dX7_readLayer_109 : decode cX7_readLayer 109 = .ok (.sipush 300, 3) := by decide +kernel
theorem dX7_readLayer_112 : decode cX7_readLayer 112 = .ok (.invokevirtual 101, 3) := by decide +kernel
theorem dX7_readLayer_115 : decode cX7_readLayer 115 = .ok (.istore 8, 2) := by decide +kernel
theorem dX7_readLayer_117 : decode cX7_readLayer 117 = .ok (.aload_n 0, 1) := by decide +kernel
theorem dX7_readLayer_118 : decode cX7_readLayer 118 = .ok (.invokevirtual 104, 3) := by decide +kernel
theorem dX7_readLayer_121 : decode cX7_readLayer 121 = .ok (.aload_n 0, 1) := by decide +kernel
theorem dX7_readLayer_122 : decode cX7_readLayer 122 = .ok (.getfield 15, 3) := by decide +kernel
theorem dX7_readLayer_125 : decode cX7_readLayer 125 = .ok (.ifCond .ne 37, 3) := by decide +kernel
theorem dX7_readLayer_162 : decode cX7_readLayer 162 = .ok (.return_, 1) := by decide +kernel
theorem dX7_readLayer_128 : decode cX7_readLayer 128 = .ok (.aload_n 2, 1) := by decide +kernel
theorem dX7_readLayer_129 : decode cX7_readLayer 129 = .ok (.getfield 114, 3) := by decide +kernel
theorem dX7_readLayer_132 : decode cX7_readLayer 132 = .ok (.iload_n 3, 1) := by decide +kernel
theorem dX7_readLayer_133 : decode cX7_readLayer 133 = .ok (.aaload, 1) := by decide +kernel
theorem dX7_readLayer_134 : decode cX7_readLayer 134 = .ok (.iload 4, 2) := by decide +kernel
theorem dX7_readLayer_136 : decode cX7_readLayer 136 = .ok (.iload 5, 2) := by decide +kernel
theorem dX7_readLayer_138 : decode cX7_readLayer 138 = .ok (.iload 6, 2) := by decide +kernel
theorem dX7_readLayer_140 : decode cX7_readLayer 140 = .ok (.iload 7, 2) := by decide +kernel
theorem dX7_readLayer_142 : decode cX7_readLayer 142 = .ok (.iload 8, 2) := by decide +kernel
theorem dX7_readLayer_144 : decode cX7_readLayer 144 = .ok (.ineg, 1) := by decide +kernel
theorem dX7_readLayer_145 : decode cX7_readLayer 145 = .ok (.aload_n 2, 1) := by decide +kernel
theorem dX7_readLayer_146 : decode cX7_readLayer 146 = .ok (.getfield 127, 3) := by decide +kernel
theorem dX7_readLayer_149 : decode cX7_readLayer 149 = .ok (.invokevirtual 130, 3) := by decide +kernel
theorem dX7_readLayer_152 : decode cX7_readLayer 152 = .ok (.aload_n 2, 1) := by decide +kernel
theorem dX7_readLayer_153 : decode cX7_readLayer 153 = .ok (.dup, 1) := by decide +kernel
theorem dX7_readLayer_154 : decode cX7_readLayer 154 = .ok (.getfield 127, 3) := by decide +kernel
theorem dX7_readLayer_157 : decode cX7_readLayer 157 = .ok (.iconst 1, 1) := by decide +kernel
theorem dX7_readLayer_158 : decode cX7_readLayer 158 = .ok (.iadd, 1) := by decide +kernel
theorem dX7_readLayer_159 : decode cX7_readLayer 159 = .ok (.putfield 127, 3) := by decide +kernel
theorem dX7_readLayer_54 : decode cX7_readLayer 54 = .ok (.aload_n 0, 1) := by decide +kernel
theorem dX7_readLayer_55 : decode cX7_readLayer 55 = .ok (.invokevirtual 123, 3) := by decide +kernel
theorem dX7_readLayer_58 : decode cX7_readLayer 58 = .ok (.istore 4, 2) := by decide +kernel
theorem dX7_readLayer_60 : decode cX7_readLayer 60 = .ok (.aload_n 0, 1) := by decide +kernel
theorem dX7_readLayer_61 : decode cX7_readLayer 61 = .ok (.iconst 1, 1) := by decide +kernel
theorem dX7_readLayer_62 : decode cX7_readLayer 62 = .ok (.bipush 99, 2) := by decide +kernel
theorem dX7_readLayer_64 : decode cX7_readLayer 64 = .ok (.invokevirtual 101, 3) := by decide +kernel
theorem dX7_readLayer_67 : decode cX7_readLayer 67 = .ok (.istore 5, 2) := by decide +kernel
theorem dX7_readLayer_69 : decode cX7_readLayer 69 = .ok (.aload_n 0, 1) := by decide +kernel
theorem dX7_readLayer_70 : decode cX7_readLayer 70 = .ok (.iconst 0, 1) := by decide +kernel
theorem dX7_readLayer_71 : decode cX7_readLayer 71 = .ok (.bipush 99, 2) := by decide +kernel
theorem dX7_readLayer_73 : decode cX7_readLayer 73 = .ok (.invokevirtual 101, 3) := by decide +kernel
theorem dX7_readLayer_76 : decode cX7_readLayer 76 = .ok (.istore 6, 2) := by decide +kernel
theorem dX7_readLayer_78 : decode cX7_readLayer 78 = .ok (.aload_n 0, 1) := by decide +kernel
theorem dX7_readLayer_79 : decode cX7_readLayer 79 = .ok (.iconst 1, 1) := by decide +kernel
theorem dX7_readLayer_80 : decode cX7_readLayer 80 = .ok (.sipush 999, 3) := by decide +kernel
theorem dX7_readLayer_83 : decode cX7_readLayer 83 = .ok (.invokevirtual 101, 3) := by decide +kernel
theorem dX7_readLayer_86 : decode cX7_readLayer 86 = .ok (.istore 7, 2) := by decide +kernel
theorem dX7_readLayer_88 : decode cX7_readLayer 88 = .ok (.iload 7, 2) := by decide +kernel
theorem dX7_readLayer_90 : decode cX7_readLayer 90 = .ok (.iload 5, 2) := by decide +kernel
theorem dX7_readLayer_92 : decode cX7_readLayer 92 = .ok (.iload 6, 2) := by decide +kernel
theorem dX7_readLayer_94 : decode cX7_readLayer 94 = .ok (.iadd, 1) := by decide +kernel
theorem dX7_readLayer_95 : decode cX7_readLayer 95 = .ok (.if_icmp .ge 12, 3) := by decide +kernel
theorem dX7_readLayer_98 : decode cX7_readLayer 98 = .ok (.aload_n 0, 1) := by decide +kernel
theorem dX7_readLayer_99 : decode cX7_readLayer 99 = .ok (.iconst 5, 1) := by decide +kernel
theorem dX7_readLayer_100 : decode cX7_readLayer 100 = .ok (.aload_n 0, 1) := by decide +kernel
theorem dX7_readLayer_101 : decode cX7_readLayer 101 = .ok (.getfield 34, 3) := by decide +kernel
theorem dX7_readLayer_104 : decode cX7_readLayer 104 = .ok (.invokevirtual 91, 3) := by decide +kernel
theorem dX7_readLayer_0 : decode cX7_readLayer 0 = .ok (.aload_n 0, 1) := by decide +kernel
theorem dX7_readLayer_1 : decode cX7_readLayer 1 = .ok (.invokevirtual 98, 3) := by decide +kernel
theorem dX7_readLayer_4 : decode cX7_readLayer 4 = .ok (.aload_n 0, 1) := by decide +kernel
theorem dX7_readLayer_5 : decode cX7_readLayer 5 = .ok (.iconst 0, 1) := by decide +kernel
theorem dX7_readLayer_6 : decode cX7_readLayer 6 = .ok (.iconst 3, 1) := by decide +kernel
theorem dX7_readLayer_7 : decode cX7_readLayer 7 = .ok (.invokevirtual 101, 3) := by decide +kernel
theorem dX7_readLayer_10 : decode cX7_readLayer 10 = .ok (.istore_n 3, 1) := by decide +kernel
theorem dX7_readLayer_11 : decode cX7_readLayer 11 = .ok (.iload_n 3, 1) := by decide +kernel
theorem dX7_readLayer_12 : decode cX7_readLayer 12 = .ok (.aload_n 1, 1) := by decide +kernel
theorem dX7_readLayer_13 : decode cX7_readLayer 13 = .ok (.getfield 95, 3) := by decide +kernel
theorem dX7_readLayer_16 : decode cX7_readLayer 16 = .ok (.if_icmp .lt 15, 3) := by decide +kernel
theorem dX7_readLayer_31 : decode cX7_readLayer 31 = .ok (.aload_n 2, 1) := by decide +kernel
theorem dX7_readLayer_32 : decode cX7_readLayer 32 = .ok (.getfield 114, 3) := by decide +kernel
theorem dX7_readLayer_35 : decode cX7_readLayer 35 = .ok (.iload_n 3, 1) := by decide +kernel
theorem dX7_readLayer_36 : decode cX7_readLayer 36 = .ok (.aaload, 1) := by decide +kernel
theorem dX7_readLayer_37 : decode cX7_readLayer 37 = .ok (.getfield 118, 3) := by decide +kernel
theorem dX7_readLayer_40 : decode cX7_readLayer 40 = .ok (.bipush 12, 2) := by decide +kernel
theorem dX7_readLayer_42 : decode cX7_readLayer 42 = .ok (.if_icmp .lt 12, 3) := by decide +kernel
theorem dX7_readLayer_45 : decode cX7_readLayer 45 = .ok (.aload_n 0, 1) := by decide +kernel
theorem dX7_readLayer_46 : decode cX7_readLayer 46 = .ok (.iconst 2, 1) := by decide +kernel
theorem dX7_readLayer_47 : decode cX7_readLayer 47 = .ok (.aload_n 0, 1) := by decide +kernel
theorem dX7_readLayer_48 : decode cX7_readLayer 48 = .ok (.getfield 34, 3) := by decide +kernel
theorem dX7_readLayer_51 : decode cX7_readLayer 51 = .ok (.invokevirtual 91, 3) := by decide +kernel
theorem dX7_readLayer_19 : decode cX7_readLayer 19 = .ok (.aload_n 0, 1) := by decide +kernel
theorem dX7_readLayer_20 : decode cX7_readLayer 20 = .ok (.iconst 3, 1) := by decide +kernel
theorem dX7_readLayer_21 : decode cX7_readLayer 21 = .ok (.aload_n 0, 1) := by decide +kernel
theorem dX7_readLayer_22 : decode cX7_readLayer 22 = .ok (.getfield 34, 3) := by decide +kernel
theorem dX7_readLayer_25 : decode cX7_readLayer 25 = .ok (.invokevirtual 91, 3) := by decide +kernel
theorem dX7_readLayer_28 : decode cX7_readLayer 28 = .ok (.goto 26, 3) := by decide +kernel
theorem dX7_readClause_0 : decode cX7_readClause 0 = .ok (.aload_n 0, 1) := by decide +kernel
theorem dX7_readClause_1 : decode cX7_readClause 1 = .ok (.ldc 61, 2) := by decide +kernel
theorem dX7_readClause_3 : decode cX7_readClause 3 = .ok (.invokevirtual 63, 3) := by decide +kernel
theorem dX7_readClause_6 : decode cX7_readClause 6 = .ok (.ifCond .eq 11, 3) := by decide +kernel
theorem dX7_readClause_17 : decode cX7_readClause 17 = .ok (.aload_n 0, 1) := by decide +kernel
theorem dX7_readClause_18 : decode cX7_readClause 18 = .ok (.ldc 71, 2) := by decide +kernel
theorem dX7_readClause_20 : decode cX7_readClause 20 = .ok (.invokevirtual 63, 3) := by decide +kernel
theorem dX7_readClause_23 : decode cX7_readClause 23 = .ok (.ifCond .eq 12, 3) := by decide +kernel
theorem dX7_readClause_35 : decode cX7_readClause 35 = .ok (.aload_n 0, 1) := by decide +kernel
theorem dX7_readClause_36 : decode cX7_readClause 36 = .ok (.ldc 76, 2) := by decide +kernel
theorem dX7_readClause_38 : decode cX7_readClause 38 = .ok (.invokevirtual 63, 3) := by decide +kernel
theorem dX7_readClause_41 : decode cX7_readClause 41 = .ok (.ifCond .eq 11, 3) := by decide +kernel
theorem dX7_readClause_52 : decode cX7_readClause 52 = .ok (.aload_n 0, 1) := by decide +kernel
theorem dX7_readClause_53 : decode cX7_readClause 53 = .ok (.ldc 81, 2) := by decide +kernel
theorem dX7_readClause_55 : decode cX7_readClause 55 = .ok (.invokevirtual 63, 3) := by decide +kernel
theorem dX7_readClause_58 : decode cX7_readClause 58 = .ok (.ifCond .eq 15, 3) := by decide +kernel
theorem dX7_readClause_73 : decode cX7_readClause 73 = .ok (.aload_n 0, 1) := by decide +kernel
theorem dX7_readClause_74 : decode cX7_readClause 74 = .ok (.ldc 87, 2) := by decide +kernel
theorem dX7_readClause_76 : decode cX7_readClause 76 = .ok (.invokevirtual 63, 3) := by decide +kernel
theorem dX7_readClause_79 : decode cX7_readClause 79 = .ok (.ifCond .eq 15, 3) := by decide +kernel
theorem dX7_readClause_94 : decode cX7_readClause 94 = .ok (.aload_n 0, 1) := by decide +kernel
theorem dX7_readClause_95 : decode cX7_readClause 95 = .ok (.ldc 89, 2) := by decide +kernel
theorem dX7_readClause_97 : decode cX7_readClause 97 = .ok (.invokevirtual 63, 3) := by decide +kernel
theorem dX7_readClause_100 : decode cX7_readClause 100 = .ok (.ifCond .eq 17, 3) := by decide +kernel
theorem dX7_readClause_117 : decode cX7_readClause 117 = .ok (.aload_n 0, 1) := by decide +kernel
theorem dX7_readClause_118 : decode cX7_readClause 118 = .ok (.iconst 1, 1) := by decide +kernel
theorem dX7_readClause_119 : decode cX7_readClause 119 = .ok (.aload_n 0, 1) := by decide +kernel
theorem dX7_readClause_120 : decode cX7_readClause 120 = .ok (.getfield 28, 3) := by decide +kernel
theorem dX7_readClause_123 : decode cX7_readClause 123 = .ok (.invokevirtual 91, 3) := by decide +kernel
theorem dX7_readClause_126 : decode cX7_readClause 126 = .ok (.return_, 1) := by decide +kernel
theorem dX7_readClause_103 : decode cX7_readClause 103 = .ok (.aload_n 0, 1) := by decide +kernel
theorem dX7_readClause_104 : decode cX7_readClause 104 = .ok (.aload_n 1, 1) := by decide +kernel
theorem dX7_readClause_105 : decode cX7_readClause 105 = .ok (.bipush 10, 2) := by decide +kernel
theorem dX7_readClause_107 : decode cX7_readClause 107 = .ok (.iconst 1, 1) := by decide +kernel
theorem dX7_readClause_108 : decode cX7_readClause 108 = .ok (.sipush 9999, 3) := by decide +kernel
theorem dX7_readClause_111 : decode cX7_readClause 111 = .ok (.invokevirtual 83, 3) := by decide +kernel
theorem dX7_readClause_114 : decode cX7_readClause 114 = .ok (.goto 12, 3) := by decide +kernel
theorem dX7_readClause_82 : decode cX7_readClause 82 = .ok (.aload_n 0, 1) := by decide +kernel
theorem dX7_readClause_83 : decode cX7_readClause 83 = .ok (.aload_n 1, 1) := by decide +kernel
theorem dX7_readClause_84 : decode cX7_readClause 84 = .ok (.iconst 5, 1) := by decide +kernel
theorem dX7_readClause_85 : decode cX7_readClause 85 = .ok (.iconst 0, 1) := by decide +kernel
theorem dX7_readClause_86 : decode cX7_readClause 86 = .ok (.bipush 99, 2) := by decide +kernel
theorem dX7_readClause_88 : decode cX7_readClause 88 = .ok (.invokevirtual 83, 3) := by decide +kernel
theorem dX7_readClause_91 : decode cX7_readClause 91 = .ok (.goto 35, 3) := by decide +kernel
theorem dX7_readClause_61 : decode cX7_readClause 61 = .ok (.aload_n 0, 1) := by decide +kernel
theorem dX7_readClause_62 : decode cX7_readClause 62 = .ok (.aload_n 1, 1) := by decide +kernel
theorem dX7_readClause_63 : decode cX7_readClause 63 = .ok (.iconst 0, 1) := by decide +kernel
theorem dX7_readClause_64 : decode cX7_readClause 64 = .ok (.iconst 0, 1) := by decide +kernel
theorem dX7_readClause_65 : decode cX7_readClause 65 = .ok (.bipush 99, 2) := by decide +kernel
theorem dX7_readClause_67 : decode cX7_readClause 67 = .ok (.invokevirtual 83, 3) := by decide +kernel
theorem dX7_readClause_70 : decode cX7_readClause 70 = .ok (.goto 56, 3) := by decide +kernel
theorem dX7_readClause_44 : decode cX7_readClause 44 = .ok (.aload_n 0, 1) := by decide +kernel
theorem dX7_readClause_45 : decode cX7_readClause 45 = .ok (.aload_n 1, 1) := by decide +kernel
theorem dX7_readClause_46 : decode cX7_readClause 46 = .ok (.invokevirtual 78, 3) := by decide +kernel
theorem dX7_readClause_49 : decode cX7_readClause 49 = .ok (.goto 77, 3) := by decide +kernel
theorem dX7_readClause_26 : decode cX7_readClause 26 = .ok (.aload_n 0, 1) := by decide +kernel
theorem dX7_readClause_27 : decode cX7_readClause 27 = .ok (.aload_n 1, 1) := by decide +kernel
theorem dX7_readClause_28 : decode cX7_readClause 28 = .ok (.aload_n 2, 1) := by decide +kernel
theorem dX7_readClause_29 : decode cX7_readClause 29 = .ok (.invokevirtual 73, 3) := by decide +kernel
theorem dX7_readClause_32 : decode cX7_readClause 32 = .ok (.goto 94, 3) := by decide +kernel
theorem dX7_readClause_9 : decode cX7_readClause 9 = .ok (.aload_n 0, 1) := by decide +kernel
theorem dX7_readClause_10 : decode cX7_readClause 10 = .ok (.aload_n 1, 1) := by decide +kernel
theorem dX7_readClause_11 : decode cX7_readClause 11 = .ok (.invokevirtual 67, 3) := by decide +kernel
theorem dX7_readClause_14 : decode cX7_readClause 14 = .ok (.goto 112, 3) := by decide +kernel
