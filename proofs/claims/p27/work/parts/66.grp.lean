section
-- 66.dec.lean.txt
-- decode rows of clause
theorem dX7_readSlope_0 : decode cX7_readSlope 0 = .ok (.aload_n 1, 1) := by decide +kernel
theorem dX7_readSlope_1 : decode cX7_readSlope 1 = .ok (.getfield 95, 3) := by decide +kernel
theorem dX7_readSlope_4 : decode cX7_readSlope 4 = .ok (.iconst 4, 1) := by decide +kernel
theorem dX7_readSlope_5 : decode cX7_readSlope 5 = .ok (.if_icmp .lt 12, 3) := by decide +kernel
theorem dX7_readSlope_17 : decode cX7_readSlope 17 = .ok (.aload_n 0, 1) := by decide +kernel
theorem dX7_readSlope_18 : decode cX7_readSlope 18 = .ok (.invokevirtual 98, 3) := by decide +kernel
theorem dX7_readSlope_21 : decode cX7_readSlope 21 = .ok (.aload_n 0, 1) := by decide +kernel
theorem dX7_readSlope_22 : decode cX7_readSlope 22 = .ok (.iconst 0, 1) := by decide +kernel
theorem dX7_readSlope_23 : decode cX7_readSlope 23 = .ok (.bipush 90, 2) := by decide +kernel
theorem dX7_readSlope_25 : decode cX7_readSlope 25 = .ok (.invokevirtual 101, 3) := by decide +kernel
theorem dX7_readSlope_28 : decode cX7_readSlope 28 = .ok (.istore_n 2, 1) := by decide +kernel
theorem dX7_readSlope_29 : decode cX7_readSlope 29 = .ok (.aload_n 0, 1) := by decide +kernel
theorem dX7_readSlope_30 : decode cX7_readSlope 30 = .ok (.iconst 0, 1) := by decide +kernel
theorem dX7_readSlope_31 : decode cX7_readSlope 31 = .ok (.bipush 20, 2) := by decide +kernel
theorem dX7_readSlope_33 : decode cX7_readSlope 33 = .ok (.invokevirtual 101, 3) := by decide +kernel
theorem dX7_readSlope_36 : decode cX7_readSlope 36 = .ok (.istore_n 3, 1) := by decide +kernel
theorem dX7_readSlope_37 : decode cX7_readSlope 37 = .ok (.aload_n 0, 1) := by decide +kernel
theorem dX7_readSlope_38 : decode cX7_readSlope 38 = .ok (.invokevirtual 104, 3) := by decide +kernel
theorem dX7_readSlope_41 : decode cX7_readSlope 41 = .ok (.aload_n 0, 1) := by decide +kernel
theorem dX7_readSlope_42 : decode cX7_readSlope 42 = .ok (.getfield 15, 3) := by decide +kernel
theorem dX7_readSlope_45 : decode cX7_readSlope 45 = .ok (.ifCond .ne 33, 3) := by decide +kernel
theorem dX7_readSlope_78 : decode cX7_readSlope 78 = .ok (.return_, 1) := by decide +kernel
theorem dX7_readSlope_48 : decode cX7_readSlope 48 = .ok (.aload_n 1, 1) := by decide +kernel
theorem dX7_readSlope_49 : decode cX7_readSlope 49 = .ok (.getfield 107, 3) := by decide +kernel
theorem dX7_readSlope_52 : decode cX7_readSlope 52 = .ok (.aload_n 1, 1) := by decide +kernel
theorem dX7_readSlope_53 : decode cX7_readSlope 53 = .ok (.getfield 95, 3) := by decide +kernel
theorem dX7_readSlope_56 : decode cX7_readSlope 56 = .ok (.iload_n 2, 1) := by decide +kernel
theorem dX7_readSlope_57 : decode cX7_readSlope 57 = .ok (.iastore, 1) := by decide +kernel
theorem dX7_readSlope_58 : decode cX7_readSlope 58 = .ok (.aload_n 1, 1) := by decide +kernel
theorem dX7_readSlope_59 : decode cX7_readSlope 59 = .ok (.getfield 111, 3) := by decide +kernel
theorem dX7_readSlope_62 : decode cX7_readSlope 62 = .ok (.aload_n 1, 1) := by decide +kernel
theorem dX7_readSlope_63 : decode cX7_readSlope 63 = .ok (.getfield 95, 3) := by decide +kernel
theorem dX7_readSlope_66 : decode cX7_readSlope 66 = .ok (.iload_n 3, 1) := by decide +kernel
theorem dX7_readSlope_67 : decode cX7_readSlope 67 = .ok (.iastore, 1) := by decide +kernel
theorem dX7_readSlope_68 : decode cX7_readSlope 68 = .ok (.aload_n 1, 1) := by decide +kernel
theorem dX7_readSlope_69 : decode cX7_readSlope 69 = .ok (.dup, 1) := by decide +kernel
theorem dX7_readSlope_70 : decode cX7_readSlope 70 = .ok (.getfield 95, 3) := by decide +kernel
theorem dX7_readSlope_73 : decode cX7_readSlope 73 = .ok (.iconst 1, 1) := by decide +kernel
theorem dX7_readSlope_74 : decode cX7_readSlope 74 = .ok (.iadd, 1) := by decide +kernel
theorem dX7_readSlope_75 : decode cX7_readSlope 75 = .ok (.putfield 95, 3) := by decide +kernel
theorem dX7_readSlope_8 : decode cX7_readSlope 8 = .ok (.aload_n 0, 1) := by decide +kernel
theorem dX7_readSlope_9 : decode cX7_readSlope 9 = .ok (.iconst 2, 1) := by decide +kernel
theorem dX7_readSlope_10 : decode cX7_readSlope 10 = .ok (.aload_n 0, 1) := by decide +kernel
theorem dX7_readSlope_11 : decode cX7_readSlope 11 = .ok (.getfield 28, 3) := by decide +kernel
theorem dX7_readSlope_14 : decode cX7_readSlope 14 = .ok (.invokevirtual 91, 3) := by decide +kernel
theorem dX7_readHour_93 : decode cX7_readHour 93 = .ok (.aload_n 0, 1) := by decide +kernel
theorem dX7_readHour_94 : decode cX7_readHour 94 = .ok (.invokevirtual 104, 3) := by decide +kernel
theorem dX7_readHour_97 : decode cX7_readHour 97 = .ok (.aload_n 0, 1) := by decide +kernel
theorem dX7_readHour_98 : decode cX7_readHour 98 = .ok (.getfield 15, 3) := by decide +kernel
theorem dX7_readHour_101 : decode cX7_readHour 101 = .ok (.ifCond .ne 54, 3) := by decide +kernel
theorem dX7_readHour_155 : decode cX7_readHour 155 = .ok (.return_, 1) := by decide +kernel
theorem dX7_readHour_104 : decode cX7_readHour 104 = .ok (.aload_n 1, 1) := by decide +kernel
theorem dX7_readHour_105 : decode cX7_readHour 105 = .ok (.getfield 140, 3) := by decide +kernel
theorem dX7_readHour_108 : decode cX7_readHour 108 = .ok (.aload_n 1, 1) := by decide +kernel
theorem dX7_readHour_109 : decode cX7_readHour 109 = .ok (.getfield 134, 3) := by decide +kernel
theorem dX7_readHour_112 : decode cX7_readHour 112 = .ok (.iload_n 2, 1) := by decide +kernel
theorem dX7_readHour_113 : decode cX7_readHour 113 = .ok (.ifCond .eq 8, 3) := by decide +kernel
theorem dX7_readHour_121 : decode cX7_readHour 121 = .ok (.iload_n 3, 1) := by decide +kernel
theorem dX7_readHour_122 : decode cX7_readHour 122 = .ok (.iastore, 1) := by decide +kernel
theorem dX7_readHour_123 : decode cX7_readHour 123 = .ok (.aload_n 1, 1) := by decide +kernel
theorem dX7_readHour_124 : decode cX7_readHour 124 = .ok (.getfield 143, 3) := by decide +kernel
theorem dX7_readHour_127 : decode cX7_readHour 127 = .ok (.aload_n 1, 1) := by decide +kernel
theorem dX7_readHour_128 : decode cX7_readHour 128 = .ok (.getfield 134, 3) := by decide +kernel
theorem dX7_readHour_131 : decode cX7_readHour 131 = .ok (.iload 4, 2) := by decide +kernel
theorem dX7_readHour_133 : decode cX7_readHour 133 = .ok (.iastore, 1) := by decide +kernel
theorem dX7_readHour_134 : decode cX7_readHour 134 = .ok (.aload_n 1, 1) := by decide +kernel
theorem dX7_readHour_135 : decode cX7_readHour 135 = .ok (.getfield 146, 3) := by decide +kernel
theorem dX7_readHour_138 : decode cX7_readHour 138 = .ok (.aload_n 1, 1) := by decide +kernel
theorem dX7_readHour_139 : decode cX7_readHour 139 = .ok (.getfield 134, 3) := by decide +kernel
theorem dX7_readHour_142 : decode cX7_readHour 142 = .ok (.iload 5, 2) := by decide +kernel
theorem dX7_readHour_144 : decode cX7_readHour 144 = .ok (.iastore, 1) := by decide +kernel
theorem dX7_readHour_145 : decode cX7_readHour 145 = .ok (.aload_n 1, 1) := by decide +kernel
theorem dX7_readHour_146 : decode cX7_readHour 146 = .ok (.dup, 1) := by decide +kernel
theorem dX7_readHour_147 : decode cX7_readHour 147 = .ok (.getfield 134, 3) := by decide +kernel
theorem dX7_readHour_150 : decode cX7_readHour 150 = .ok (.iconst 1, 1) := by decide +kernel
theorem dX7_readHour_151 : decode cX7_readHour 151 = .ok (.iadd, 1) := by decide +kernel
theorem dX7_readHour_152 : decode cX7_readHour 152 = .ok (.putfield 134, 3) := by decide +kernel
theorem dX7_readHour_116 : decode cX7_readHour 116 = .ok (.iload_n 3, 1) := by decide +kernel
theorem dX7_readHour_117 : decode cX7_readHour 117 = .ok (.ineg, 1) := by decide +kernel
theorem dX7_readHour_118 : decode cX7_readHour 118 = .ok (.goto 4, 3) := by decide +kernel
theorem dX7_readHour_62 : decode cX7_readHour 62 = .ok (.aload_n 0, 1) := by decide +kernel
theorem dX7_readHour_63 : decode cX7_readHour 63 = .ok (.invokevirtual 137, 3) := by decide +kernel
theorem dX7_readHour_66 : decode cX7_readHour 66 = .ok (.istore 4, 2) := by decide +kernel
theorem dX7_readHour_68 : decode cX7_readHour 68 = .ok (.iload 4, 2) := by decide +kernel
theorem dX7_readHour_70 : decode cX7_readHour 70 = .ok (.iconst 1, 1) := by decide +kernel
theorem dX7_readHour_71 : decode cX7_readHour 71 = .ok (.if_icmp .eq 9, 3) := by decide +kernel
theorem dX7_readHour_80 : decode cX7_readHour 80 = .ok (.aload_n 0, 1) := by decide +kernel
theorem dX7_readHour_81 : decode cX7_readHour 81 = .ok (.iconst 1, 1) := by decide +kernel
theorem dX7_readHour_82 : decode cX7_readHour 82 = .ok (.bipush 50, 2) := by decide +kernel
theorem dX7_readHour_84 : decode cX7_readHour 84 = .ok (.invokevirtual 101, 3) := by decide +kernel
theorem dX7_readHour_87 : decode cX7_readHour 87 = .ok (.goto 4, 3) := by decide +kernel
theorem dX7_readHour_91 : decode cX7_readHour 91 = .ok (.istore 5, 2) := by decide +kernel
theorem dX7_readHour_74 : decode cX7_readHour 74 = .ok (.iload 4, 2) := by decide +kernel
theorem dX7_readHour_76 : decode cX7_readHour 76 = .ok (.iconst 2, 1) := by decide +kernel
theorem dX7_readHour_77 : decode cX7_readHour 77 = .ok (.if_icmp .ne 13, 3) := by decide +kernel
theorem dX7_readHour_90 : decode cX7_readHour 90 = .ok (.iconst 0, 1) := by decide +kernel
theorem dX7_readHour_44 : decode cX7_readHour 44 = .ok (.aload_n 0, 1) := by decide +kernel
theorem dX7_readHour_45 : decode cX7_readHour 45 = .ok (.iconst 0, 1) := by decide +kernel
theorem dX7_readHour_46 : decode cX7_readHour 46 = .ok (.iload_n 2, 1) := by decide +kernel
theorem dX7_readHour_47 : decode cX7_readHour 47 = .ok (.ifCond .eq 9, 3) := by decide +kernel
theorem dX7_readHour_56 : decode cX7_readHour 56 = .ok (.bipush 100, 2) := by decide +kernel
theorem dX7_readHour_58 : decode cX7_readHour 58 = .ok (.invokevirtual 101, 3) := by decide +kernel
theorem dX7_readHour_61 : decode cX7_readHour 61 = .ok (.istore_n 3, 1) := by decide +kernel
theorem dX7_readHour_50 : decode cX7_readHour 50 = .ok (.sipush 300, 3) := by decide +kernel
theorem dX7_readHour_53 : decode cX7_readHour 53 = .ok (.goto 5, 3) := by decide +kernel
theorem dX7_readHour_18 : decode cX7_readHour 18 = .ok (.aload_n 0, 1) := by decide +kernel
theorem dX7_readHour_19 : decode cX7_readHour 19 = .ok (.invokevirtual 98, 3) := by decide +kernel
theorem dX7_readHour_22 : decode cX7_readHour 22 = .ok (.aload_n 0, 1) := by decide +kernel
theorem dX7_readHour_23 : decode cX7_readHour 23 = .ok (.getfield 25, 3) := by decide +kernel
theorem dX7_readHour_26 : decode cX7_readHour 26 = .ok (.iconst 4, 1) := by decide +kernel
theorem dX7_readHour_27 : decode cX7_readHour 27 = .ok (.if_icmp .ne 7, 3) := by decide +kernel
theorem dX7_readHour_34 : decode cX7_readHour 34 = .ok (.iconst 0, 1) := by decide +kernel
theorem dX7_readHour_35 : decode cX7_readHour 35 = .ok (.istore_n 2, 1) := by decide +kernel
theorem dX7_readHour_36 : decode cX7_readHour 36 = .ok (.iload_n 2, 1) := by decide +kernel
theorem dX7_readHour_37 : decode cX7_readHour 37 = .ok (.ifCond .eq 7, 3) := by decide +kernel
theorem dX7_readHour_30 : decode cX7_readHour 30 = .ok (.iconst 1, 1) := by decide +kernel
theorem dX7_readHour_31 : decode cX7_readHour 31 = .ok (.goto 4, 3) := by decide +kernel
theorem dX7_readHour_40 : decode cX7_readHour 40 = .ok (.aload_n 0, 1) := by decide +kernel
theorem dX7_readHour_41 : decode cX7_readHour 41 = .ok (.invokevirtual 98, 3) := by decide +kernel
theorem dX7_readHour_0 : decode cX7_readHour 0 = .ok (.aload_n 1, 1) := by decide +kernel
theorem dX7_readHour_1 : decode cX7_readHour 1 = .ok (.getfield 134, 3) := by decide +kernel
theorem dX7_readHour_4 : decode cX7_readHour 4 = .ok (.bipush 24, 2) := by decide +kernel
theorem dX7_readHour_6 : decode cX7_readHour 6 = .ok (.if_icmp .lt 12, 3) := by decide +kernel
theorem dX7_readHour_9 : decode cX7_readHour 9 = .ok (.aload_n 0, 1) := by decide +kernel
theorem dX7_readHour_10 : decode cX7_readHour 10 = .ok (.iconst 2, 1) := by decide +kernel
theorem dX7_readHour_11 : decode cX7_readHour 11 = .ok (.aload_n 0, 1) := by decide +kernel
theorem dX7_readHour_12 : decode cX7_readHour 12 = .ok (.getfield 28, 3) := by decide +kernel
theorem dX7_readHour_15 : decode cX7_readHour 15 = .ok (.invokevirtual 91, 3) := by decide +kernel
theorem dX7_readTable_0 : decode cX7_readTable 0 = .ok (.aload_n 0, 1) := by decide +kernel
theorem dX7_readTable_1 : decode cX7_readTable 1 = .ok (.invokevirtual 98, 3) := by decide +kernel
theorem dX7_readTable_4 : decode cX7_readTable 4 = .ok (.iload_n 2, 1) := by decide +kernel
theorem dX7_readTable_5 : decode cX7_readTable 5 = .ok (.aload_n 0, 1) := by decide +kernel
theorem dX7_readTable_6 : decode cX7_readTable 6 = .ok (.invokevirtual 123, 3) := by decide +kernel
theorem dX7_readTable_9 : decode cX7_readTable 9 = .ok (.iadd, 1) := by decide +kernel
theorem dX7_readTable_10 : decode cX7_readTable 10 = .ok (.istore 5, 2) := by decide +kernel
theorem dX7_readTable_12 : decode cX7_readTable 12 = .ok (.aload_n 0, 1) := by decide +kernel
theorem dX7_readTable_13 : decode cX7_readTable 13 = .ok (.getfield 37, 3) := by decide +kernel
theorem dX7_readTable_16 : decode cX7_readTable 16 = .ok (.iload 5, 2) := by decide +kernel
theorem dX7_readTable_18 : decode cX7_readTable 18 = .ok (.ishr, 1) := by decide +kernel
theorem dX7_readTable_19 : decode cX7_readTable 19 = .ok (.iconst 1, 1) := by decide +kernel
theorem dX7_readTable_20 : decode cX7_readTable 20 = .ok (.iand, 1) := by decide +kernel
theorem dX7_readTable_21 : decode cX7_readTable 21 = .ok (.iconst 1, 1) := by decide +kernel
theorem dX7_readTable_22 : decode cX7_readTable 22 = .ok (.if_icmp .ne 12, 3) := by decide +kernel
theorem dX7_readTable_34 : decode cX7_readTable 34 = .ok (.aload_n 0, 1) := by decide +kernel
theorem dX7_readTable_35 : decode cX7_readTable 35 = .ok (.iload_n 3, 1) := by decide +kernel
theorem dX7_readTable_36 : decode cX7_readTable 36 = .ok (.iload 4, 2) := by decide +kernel
theorem dX7_readTable_38 : decode cX7_readTable 38 = .ok (.invokevirtual 101, 3) := by decide +kernel
theorem dX7_readTable_41 : decode cX7_readTable 41 = .ok (.istore 6, 2) := by decide +kernel
theorem dX7_readTable_43 : decode cX7_readTable 43 = .ok (.aload_n 0, 1) := by decide +kernel
theorem dX7_readTable_44 : decode cX7_readTable 44 = .ok (.invokevirtual 104, 3) := by decide +kernel
theorem dX7_readTable_47 : decode cX7_readTable 47 = .ok (.aload_n 0, 1) := by decide +kernel
theorem dX7_readTable_48 : decode cX7_readTable 48 = .ok (.getfield 15, 3) := by decide +kernel
theorem dX7_readTable_51 : decode cX7_readTable 51 = .ok (.ifCond .ne 25, 3) := by decide +kernel
theorem dX7_readTable_76 : decode cX7_readTable 76 = .ok (.return_, 1) := by decide +kernel
theorem dX7_readTable_54 : decode cX7_readTable 54 = .ok (.aload_n 0, 1) := by decide +kernel
theorem dX7_readTable_55 : decode cX7_readTable 55 = .ok (.dup, 1) := by decide +kernel
theorem dX7_readTable_56 : decode cX7_readTable 56 = .ok (.getfield 37, 3) := by decide +kernel
theorem dX7_readTable_59 : decode cX7_readTable 59 = .ok (.iconst 1, 1) := by decide +kernel
theorem dX7_readTable_60 : decode cX7_readTable 60 = .ok (.iload 5, 2) := by decide +kernel
theorem dX7_readTable_62 : decode cX7_readTable 62 = .ok (.ishl, 1) := by decide +kernel
theorem dX7_readTable_63 : decode cX7_readTable 63 = .ok (.ior, 1) := by decide +kernel
theorem dX7_readTable_64 : decode cX7_readTable 64 = .ok (.putfield 37, 3) := by decide +kernel
theorem dX7_readTable_67 : decode cX7_readTable 67 = .ok (.aload_n 1, 1) := by decide +kernel
theorem dX7_readTable_68 : decode cX7_readTable 68 = .ok (.getfield 155, 3) := by decide +kernel
theorem dX7_readTable_71 : decode cX7_readTable 71 = .ok (.iload 5, 2) := by decide +kernel
theorem dX7_readTable_73 : decode cX7_readTable 73 = .ok (.iload 6, 2) := by decide +kernel
theorem dX7_readTable_75 : decode cX7_readTable 75 = .ok (.iastore, 1) := by decide +kernel
theorem dX7_readTable_25 : decode cX7_readTable 25 = .ok (.aload_n 0, 1) := by decide +kernel
theorem dX7_readTable_26 : decode cX7_readTable 26 = .ok (.iconst 4, 1) := by decide +kernel
theorem dX7_readTable_27 : decode cX7_readTable 27 = .ok (.aload_n 0, 1) := by decide +kernel
theorem dX7_readTable_28 : decode cX7_readTable 28 = .ok (.getfield 34, 3) := by decide +kernel
theorem dX7_readTable_31 : decode cX7_readTable 31 = .ok (.invokevirtual 91, 3) := by decide +kernel
theorem dX7_readLayer_107 : decode cX7_readLayer 107 = .ok (.aload_n 0, 1) := by decide +kernel
theorem dX7_readLayer_108 : decode cX7_readLayer 108 = .ok (.iconst 0, 1) := by decide +kernel
theorem dX7_readLayer_109 : decode cX7_readLayer 109 = .ok (.sipush 300, 3) := by decide +kernel
theorem dX7_readLayer_112 : decode cX7_readLayer 112 = .ok (.invokevirtual 101, 3) := by decide +kernel
theorem dX7_readLayer_115 : decode cX7_readLayer 115 = .ok (.istore 8, 2) := by decide +kernel
theorem dX7_readLayer_117 : decode cX7_readLayer 117 = .ok (.aload_n 0, 1) := by decide +kernel
theorem dX7_readLayer_118 : decode cX7_readLayer 118 = .ok (.invokevirtual 104, 3) := by decide +kernel
theorem dX7_readLayer_121 : decode cX7_readLayer 121 = .ok (.aload_n 0, 1) := by decide +kernel
theorem dX7_readLayer_122 : decode cX7_readLayer 122 = .ok (.getfield 15, 3) := by decide +kernel
theorem dX7_readLayer_125 : decode cX7_readLayer 125 = .ok (.ifCond .ne 37, 3) := by decide +kernel
theorem dX7_readLayer_162 : decode cX7_readLayer 162 = .ok (.return_, 1) := by decide +kernel
theorem dX7_readLayer_128 : decode cX7_readLayer 128 = .ok (.aload_n 2, 1) := by decide +kernel
theorem dX7_readLayer_129 : decode cX7_readLayer 129 = .ok (.getfield 114, 3) := by decide +kernel
theorem dX7_readLayer_132 : decode cX7_readLayer 132 = .ok (.iload_n 3, 1) := by decide +kernel
theorem dX7_readLayer_133 : decode cX7_readLayer 133 = .ok (.aaload, 1) := by decide +kernel
theorem dX7_readLayer_134 : decode cX7_readLayer 134 = .ok (.iload 4, 2) := by decide +kernel
theorem dX7_readLayer_136 : decode cX7_readLayer 136 = .ok (.iload 5, 2) := by decide +kernel
theorem dX7_readLayer_138 : decode cX7_readLayer 138 = .ok (.iload 6, 2) := by decide +kernel
theorem dX7_readLayer_140 : decode cX7_readLayer 140 = .ok (.iload 7, 2) := by decide +kernel
theorem dX7_readLayer_142 : decode cX7_readLayer 142 = .ok (.iload 8, 2) := by decide +kernel
theorem dX7_readLayer_144 : decode cX7_readLayer 144 = .ok (.ineg, 1) := by decide +kernel
theorem dX7_readLayer_145 : decode cX7_readLayer 145 = .ok (.aload_n 2, 1) := by decide +kernel
theorem dX7_readLayer_146 : decode cX7_readLayer 146 = .ok (.getfield 127, 3) := by decide +kernel
theorem dX7_readLayer_149 : decode cX7_readLayer 149 = .ok (.invokevirtual 130, 3) := by decide +kernel
theorem dX7_readLayer_152 : decode cX7_readLayer 152 = .ok (.aload_n 2, 1) := by decide +kernel
theorem dX7_readLayer_153 : decode cX7_readLayer 153 = .ok (.dup, 1) := by decide +kernel
theorem dX7_readLayer_154 : decode cX7_readLayer 154 = .ok (.getfield 127, 3) := by decide +kernel
theorem dX7_readLayer_157 : decode cX7_readLayer 157 = .ok (.iconst 1, 1) := by decide +kernel
theorem dX7_readLayer_158 : decode cX7_readLayer 158 = .ok (.iadd, 1) := by decide +kernel
theorem dX7_readLayer_159 : decode cX7_readLayer 159 = .ok (.putfield 127, 3) := by decide +kernel
theorem dX7_readLayer_54 : decode cX7_readLayer 54 = .ok (.aload_n 0, 1) := by decide +kernel
theorem dX7_readLayer_55 : decode cX7_readLayer 55 = .ok (.invokevirtual 123, 3) := by decide +kernel
theorem dX7_readLayer_58 : decode cX7_readLayer 58 = .ok (.istore 4, 2) := by decide +kernel
theorem dX7_readLayer_60 : decode cX7_readLayer 60 = .ok (.aload_n 0, 1) := by decide +kernel
theorem dX7_readLayer_61 : decode cX7_readLayer 61 = .ok (.iconst 1, 1) := by decide +kernel
theorem dX7_readLayer_62 : decode cX7_readLayer 62 = .ok (.bipush 99, 2) := by decide +kernel
theorem dX7_readLayer_64 : decode cX7_readLayer 64 = .ok (.invokevirtual 101, 3) := by decide +kernel
theorem dX7_readLayer_67 : decode cX7_readLayer 67 = .ok (.istore 5, 2) := by decide +kernel
theorem dX7_readLayer_69 : decode cX7_readLayer 69 = .ok (.aload_n 0, 1) := by decide +kernel
theorem dX7_readLayer_70 : decode cX7_readLayer 70 = .ok (.iconst 0, 1) := by decide +kernel
theorem dX7_readLayer_71 : decode cX7_readLayer 71 = .ok (.bipush 99, 2) := by decide +kernel
theorem dX7_readLayer_73 : decode cX7_readLayer 73 = .ok (.invokevirtual 101, 3) := by decide +kernel
theorem dX7_readLayer_76 : decode cX7_readLayer 76 = .ok (.istore 6, 2) := by decide +kernel
theorem dX7_readLayer_78 : decode cX7_readLayer 78 = .ok (.aload_n 0, 1) := by decide +kernel
theorem dX7_readLayer_79 : decode cX7_readLayer 79 = .ok (.iconst 1, 1) := by decide +kernel
theorem dX7_readLayer_80 : decode cX7_readLayer 80 = .ok (.sipush 999, 3) := by decide +kernel
theorem dX7_readLayer_83 : decode cX7_readLayer 83 = .ok (.invokevirtual 101, 3) := by decide +kernel
theorem dX7_readLayer_86 : decode cX7_readLayer 86 = .ok (.istore 7, 2) := by decide +kernel
theorem dX7_readLayer_88 : decode cX7_readLayer 88 = .ok (.iload 7, 2) := by decide +kernel
theorem dX7_readLayer_90 : decode cX7_readLayer 90 = .ok (.iload 5, 2) := by decide +kernel
theorem dX7_readLayer_92 : decode cX7_readLayer 92 = .ok (.iload 6, 2) := by decide +kernel
theorem dX7_readLayer_94 : decode cX7_readLayer 94 = .ok (.iadd, 1) := by decide +kernel
theorem dX7_readLayer_95 : decode cX7_readLayer 95 = .ok (.if_icmp .ge 12, 3) := by decide +kernel
theorem dX7_readLayer_98 : decode cX7_readLayer 98 = .ok (.aload_n 0, 1) := by decide +kernel
theorem dX7_readLayer_99 : decode cX7_readLayer 99 = .ok (.iconst 5, 1) := by decide +kernel
theorem dX7_readLayer_100 : decode cX7_readLayer 100 = .ok (.aload_n 0, 1) := by decide +kernel
theorem dX7_readLayer_101 : decode cX7_readLayer 101 = .ok (.getfield 34, 3) := by decide +kernel
theorem dX7_readLayer_104 : decode cX7_readLayer 104 = .ok (.invokevirtual 91, 3) := by decide +kernel
theorem dX7_readLayer_0 : decode cX7_readLayer 0 = .ok (.aload_n 0, 1) := by decide +kernel
theorem dX7_readLayer_1 : decode cX7_readLayer 1 = .ok (.invokevirtual 98, 3) := by decide +kernel
theorem dX7_readLayer_4 : decode cX7_readLayer 4 = .ok (.aload_n 0, 1) := by decide +kernel
theorem dX7_readLayer_5 : decode cX7_readLayer 5 = .ok (.iconst 0, 1) := by decide +kernel
theorem dX7_readLayer_6 : decode cX7_readLayer 6 = .ok (.iconst 3, 1) := by decide +kernel
theorem dX7_readLayer_7 : decode cX7_readLayer 7 = .ok (.invokevirtual 101, 3) := by decide +kernel
theorem dX7_readLayer_10 : decode cX7_readLayer 10 = .ok (.istore_n 3, 1) := by decide +kernel
theorem dX7_readLayer_11 : decode cX7_readLayer 11 = .ok (.iload_n 3, 1) := by decide +kernel
theorem dX7_readLayer_12 : decode cX7_readLayer 12 = .ok (.aload_n 1, 1) := by decide +kernel
theorem dX7_readLayer_13 : decode cX7_readLayer 13 = .ok (.getfield 95, 3) := by decide +kernel
theorem dX7_readLayer_16 : decode cX7_readLayer 16 = .ok (.if_icmp .lt 15, 3) := by decide +kernel
theorem dX7_readLayer_31 : decode cX7_readLayer 31 = .ok (.aload_n 2, 1) := by decide +kernel
theorem dX7_readLayer_32 : decode cX7_readLayer 32 = .ok (.getfield 114, 3) := by decide +kernel
theorem dX7_readLayer_35 : decode cX7_readLayer 35 = .ok (.iload_n 3, 1) := by decide +kernel
theorem dX7_readLayer_36 : decode cX7_readLayer 36 = .ok (.aaload, 1) := by decide +kernel
theorem dX7_readLayer_37 : decode cX7_readLayer 37 = .ok (.getfield 118, 3) := by decide +kernel
theorem dX7_readLayer_40 : decode cX7_readLayer 40 = .ok (.bipush 12, 2) := by decide +kernel
theorem dX7_readLayer_42 : decode cX7_readLayer 42 = .ok (.if_icmp .lt 12, 3) := by decide +kernel
theorem dX7_readLayer_45 : decode cX7_readLayer 45 = .ok (.aload_n 0, 1) := by decide +kernel
theorem dX7_readLayer_46 : decode cX7_readLayer 46 = .ok (.iconst 2, 1) := by decide +kernel
theorem dX7_readLayer_47 : decode cX7_readLayer 47 = .ok (.aload_n 0, 1) := by decide +kernel
theorem dX7_readLayer_48 : decode cX7_readLayer 48 = .ok (.getfield 34, 3) := by decide +kernel
theorem dX7_readLayer_51 : decode cX7_readLayer 51 = .ok (.invokevirtual 91, 3) := by decide +kernel
theorem dX7_readLayer_19 : decode cX7_readLayer 19 = .ok (.aload_n 0, 1) := by decide +kernel
theorem dX7_readLayer_20 : decode cX7_readLayer 20 = .ok (.iconst 3, 1) := by decide +kernel
theorem dX7_readLayer_21 : decode cX7_readLayer 21 = .ok (.aload_n 0, 1) := by decide +kernel
theorem dX7_readLayer_22 : decode cX7_readLayer 22 = .ok (.getfield 34, 3) := by decide +kernel
theorem dX7_readLayer_25 : decode cX7_readLayer 25 = .ok (.invokevirtual 91, 3) := by decide +kernel
theorem dX7_readLayer_28 : decode cX7_readLayer 28 = .ok (.goto 26, 3) := by decide +kernel
theorem dX7_readClause_0 : decode cX7_readClause 0 = .ok (.aload_n 0, 1) := by decide +kernel
theorem dX7_readClause_1 : decode cX7_readClause 1 = .ok (.ldc 61, 2) := by decide +kernel
theorem dX7_readClause_3 : decode cX7_readClause 3 = .ok (.invokevirtual 63, 3) := by decide +kernel
theorem dX7_readClause_6 : decode cX7_readClause 6 = .ok (.ifCond .eq 11, 3) := by decide +kernel
theorem dX7_readClause_17 : decode cX7_readClause 17 = .ok (.aload_n 0, 1) := by decide +kernel
theorem dX7_readClause_18 : decode cX7_readClause 18 = .ok (.ldc 71, 2) := by decide +kernel
theorem dX7_readClause_20 : decode cX7_readClause 20 = .ok (.invokevirtual 63, 3) := by decide +kernel
theorem dX7_readClause_23 : decode cX7_readClause 23 = .ok (.ifCond .eq 12, 3) := by decide +kernel
theorem dX7_readClause_35 : decode cX7_readClause 35 = .ok (.aload_n 0, 1) := by decide +kernel
theorem dX7_readClause_36 : decode cX7_readClause 36 = .ok (.ldc 76, 2) := by decide +kernel
theorem dX7_readClause_38 : decode cX7_readClause 38 = .ok (.invokevirtual 63, 3) := by decide +kernel
theorem dX7_readClause_41 : decode cX7_readClause 41 = .ok (.ifCond .eq 11, 3) := by decide +kernel
theorem dX7_readClause_52 : decode cX7_readClause 52 = .ok (.aload_n 0, 1) := by decide +kernel
theorem dX7_readClause_53 : decode cX7_readClause 53 = .ok (.ldc 81, 2) := by decide +kernel
theorem dX7_readClause_55 : decode cX7_readClause 55 = .ok (.invokevirtual 63, 3) := by decide +kernel
theorem dX7_readClause_58 : decode cX7_readClause 58 = .ok (.ifCond .eq 15, 3) := by decide +kernel
theorem dX7_readClause_73 : decode cX7_readClause 73 = .ok (.aload_n 0, 1) := by decide +kernel
theorem dX7_readClause_74 : decode cX7_readClause 74 = .ok (.ldc 87, 2) := by decide +kernel
theorem dX7_readClause_76 : decode cX7_readClause 76 = .ok (.invokevirtual 63, 3) := by decide +kernel
theorem dX7_readClause_79 : decode cX7_readClause 79 = .ok (.ifCond .eq 15, 3) := by decide +kernel
theorem dX7_readClause_94 : decode cX7_readClause 94 = .ok (.aload_n 0, 1) := by decide +kernel
theorem dX7_readClause_95 : decode cX7_readClause 95 = .ok (.ldc 89, 2) := by decide +kernel
theorem dX7_readClause_97 : decode cX7_readClause 97 = .ok (.invokevirtual 63, 3) := by decide +kernel
theorem dX7_readClause_100 : decode cX7_readClause 100 = .ok (.ifCond .eq 17, 3) := by decide +kernel
theorem dX7_readClause_117 : decode cX7_readClause 117 = .ok (.aload_n 0, 1) := by decide +kernel
theorem dX7_readClause_118 : decode cX7_readClause 118 = .ok (.iconst 1, 1) := by decide +kernel
theorem dX7_readClause_119 : decode cX7_readClause 119 = .ok (.aload_n 0, 1) := by decide +kernel
theorem dX7_readClause_120 : decode cX7_readClause 120 = .ok (.getfield 28, 3) := by decide +kernel
theorem dX7_readClause_123 : decode cX7_readClause 123 = .ok (.invokevirtual 91, 3) := by decide +kernel
theorem dX7_readClause_126 : decode cX7_readClause 126 = .ok (.return_, 1) := by decide +kernel
theorem dX7_readClause_103 : decode cX7_readClause 103 = .ok (.aload_n 0, 1) := by decide +kernel
theorem dX7_readClause_104 : decode cX7_readClause 104 = .ok (.aload_n 1, 1) := by decide +kernel
theorem dX7_readClause_105 : decode cX7_readClause 105 = .ok (.bipush 10, 2) := by decide +kernel
theorem dX7_readClause_107 : decode cX7_readClause 107 = .ok (.iconst 1, 1) := by decide +kernel
theorem dX7_readClause_108 : decode cX7_readClause 108 = .ok (.sipush 9999, 3) := by decide +kernel
theorem dX7_readClause_111 : decode cX7_readClause 111 = .ok (.invokevirtual 83, 3) := by decide +kernel
theorem dX7_readClause_114 : decode cX7_readClause 114 = .ok (.goto 12, 3) := by decide +kernel
theorem dX7_readClause_82 : decode cX7_readClause 82 = .ok (.aload_n 0, 1) := by decide +kernel
theorem dX7_readClause_83 : decode cX7_readClause 83 = .ok (.aload_n 1, 1) := by decide +kernel
theorem dX7_readClause_84 : decode cX7_readClause 84 = .ok (.iconst 5, 1) := by decide +kernel
theorem dX7_readClause_85 : decode cX7_readClause 85 = .ok (.iconst 0, 1) := by decide +kernel
theorem dX7_readClause_86 : decode cX7_readClause 86 = .ok (.bipush 99, 2) := by decide +kernel
theorem dX7_readClause_88 : decode cX7_readClause 88 = .ok (.invokevirtual 83, 3) := by decide +kernel
theorem dX7_readClause_91 : decode cX7_readClause 91 = .ok (.goto 35, 3) := by decide +kernel
theorem dX7_readClause_61 : decode cX7_readClause 61 = .ok (.aload_n 0, 1) := by decide +kernel
theorem dX7_readClause_62 : decode cX7_readClause 62 = .ok (.aload_n 1, 1) := by decide +kernel
theorem dX7_readClause_63 : decode cX7_readClause 63 = .ok (.iconst 0, 1) := by decide +kernel
theorem dX7_readClause_64 : decode cX7_readClause 64 = .ok (.iconst 0, 1) := by decide +kernel
theorem dX7_readClause_65 : decode cX7_readClause 65 = .ok (.bipush 99, 2) := by decide +kernel
theorem dX7_readClause_67 : decode cX7_readClause 67 = .ok (.invokevirtual 83, 3) := by decide +kernel
theorem dX7_readClause_70 : decode cX7_readClause 70 = .ok (.goto 56, 3) := by decide +kernel
theorem dX7_readClause_44 : decode cX7_readClause 44 = .ok (.aload_n 0, 1) := by decide +kernel
theorem dX7_readClause_45 : decode cX7_readClause 45 = .ok (.aload_n 1, 1) := by decide +kernel
theorem dX7_readClause_46 : decode cX7_readClause 46 = .ok (.invokevirtual 78, 3) := by decide +kernel
theorem dX7_readClause_49 : decode cX7_readClause 49 = .ok (.goto 77, 3) := by decide +kernel
theorem dX7_readClause_26 : decode cX7_readClause 26 = .ok (.aload_n 0, 1) := by decide +kernel
theorem dX7_readClause_27 : decode cX7_readClause 27 = .ok (.aload_n 1, 1) := by decide +kernel
theorem dX7_readClause_28 : decode cX7_readClause 28 = .ok (.aload_n 2, 1) := by decide +kernel
theorem dX7_readClause_29 : decode cX7_readClause 29 = .ok (.invokevirtual 73, 3) := by decide +kernel
theorem dX7_readClause_32 : decode cX7_readClause 32 = .ok (.goto 94, 3) := by decide +kernel
theorem dX7_readClause_9 : decode cX7_readClause 9 = .ok (.aload_n 0, 1) := by decide +kernel
theorem dX7_readClause_10 : decode cX7_readClause 10 = .ok (.aload_n 1, 1) := by decide +kernel
theorem dX7_readClause_11 : decode cX7_readClause 11 = .ok (.invokevirtual 67, 3) := by decide +kernel
theorem dX7_readClause_14 : decode cX7_readClause 14 = .ok (.goto 112, 3) := by decide +kernel
end
section
-- 67.clause.lean.txt
set_option maxRecDepth 100000 in
set_option maxHeartbeats 4000000 in
theorem c_X7_readSlope (l : Launch) (D : va_G) (A : Nat → Prop) (cs : Nat → ClassId) (tt : Nat) (N : Nat) (ad : Nat → Nat) (g : Nat → va_E) (hN : 952 ≤ N) (co : Int) (tp : Nat → Int) (hR : okRun cs ad g co tp) (hP9 : okPlan cs ad g 883) : zM l yX7_readSlope cX7_readSlope 4 none ({ frames := 6, cells := 0, slots := 0, locals := 360 } : Room) D A cs tt N ad g [.ref (ad 2), .ref (ad 883)] (rV0 N ad fun g' => (∃ co' : Int, okRun cs ad g' co' tp ∧ co ≤ co') ∧ okPlan cs ad g' 883 ∧ ∀ j, j ≠ 2 → (j < 883 ∨ 890 ≤ j) → g' j = g j) := by
  obtain ⟨pldy1, endy1, tydy1, a9dy1, bedy1, tkdy1, tddy1, hAdy1, hTdy1, hcdy1, hddy1⟩ := id hR
  have hay2 : zAt ad (2) (ad 2) := rfl
  have hay3 : zAt ad (1) (ad 1) := rfl
  have hay4 : zAt ad (883) (ad 883) := rfl
  obtain ⟨sloy5, hooy5, uaoy5, stoy5, opoy5, aioy5, faoy5, muoy5, tboy5, hsloy5, hhooy5, hpoy5⟩ := id hP9
  have hay6 : zAt ad (883 + 1) (ad (883 + 1)) := rfl
  have hay7 : zAt ad (883 + 2) (ad (883 + 2)) := rfl
  have hay8 : zAt ad (883 + 3) (ad (883 + 3)) := rfl
  have hay9 : zAt ad (883 + 4) (ad (883 + 4)) := rfl
  have hay10 : zAt ad (883 + 5) (ad (883 + 5)) := rfl
  have hay11 : zAt ad (883 + 6) (ad (883 + 6)) := rfl
  refine z_of (by decide) (Nat.le_of_ble_eq_true rfl) ?_
  intro p e s m below meth c C hr hlk hnm
  refine z_lv (lv' := [(0, .ref (ad 2)), (1, .ref (ad 883))]) [0, 1] rfl ?_
  refine z_aload_n C 1 dX7_readSlope_0 rfl ?_
  refine z_get (v := .int (zI (sloy5))) C (lt_K hN (rfl : Nat.blt (883) 952 = true)) hay4 hpoy5.1 rfl inA_X5 0 (by decide) q_89 rfl rfl dX7_readSlope_1 ?_
  refine z_iconst (z := 4) C dX7_readSlope_4 rfl ?_
  refine z_icmp_lt (tgt := 17) C dX7_readSlope_5 (by decide) (by omega) (by omega) (fun hby12 => ?_) (fun hby12 => ?_)
  · refine z_aload_n C 0 dX7_readSlope_17 rfl ?_
    have hruny13 : okRun cs ad g (co) tp := ⟨_, _, _, _, _, _, _, by omega, by omega, hcdy1, hddy1⟩
    refine z_cV (As := []) (rest := []) (ci := 9) C (c_X7_take l D A cs tt N ad _ (by omega) _ tp hruny13) (lt_K hN (rfl : Nat.blt (2) 952 = true)) hay2 hcdy1 rfl rfl mv_yX7_take q_813 hd_yX7_take (by decide) (Nat.le_of_ble_eq_true rfl) (by decide) dX7_readSlope_18 rfl (kV0 fun gvy14 hvy14 => ?_)
    obtain ⟨hkvy14, hfvy14⟩ := hvy14
    obtain ⟨pldy15, endy15, tydy15, a9dy15, bedy15, tkdy15, tddy15, hAdy15, hTdy15, hcdy15, hddy15⟩ := id hkvy14
    refine z_aload_n C 0 dX7_readSlope_21 rfl ?_
    refine z_iconst (z := 0) C dX7_readSlope_22 rfl ?_
    refine z_bipush (z := 90) C dX7_readSlope_23 (by decide) ?_
    have hruny16 : okRun cs ad gvy14 (co) tp := ⟨_, _, _, _, _, _, _, by omega, by omega, hcdy15, hddy15⟩
    refine z_cV (As := [.int (zI (0)), .int (zI (90))]) (rest := []) (ci := 9) C (c_X7_number l D A cs tt N ad _ (by omega) _ tp hruny16 (0) (by omega) (90) (by omega)) (lt_K hN (rfl : Nat.blt (2) 952 = true)) hay2 hcdy15 rfl rfl mv_yX7_number q_817 hd_yX7_number (by decide) (Nat.le_of_ble_eq_true rfl) (by decide) dX7_readSlope_25 rfl (kI0 fun vy17 gvy17 hvy17 => ?_)
    obtain ⟨hrvy17, ⟨covy17, hkvy17, hnvy17⟩, hfvy17⟩ := hvy17
    obtain ⟨pldy18, endy18, tydy18, a9dy18, bedy18, tkdy18, tddy18, hAdy18, hTdy18, hcdy18, hddy18⟩ := id hkvy17
    refine z_istore_n (lv' := [(2, .int (zI (vy17))), (0, .ref (ad 2)), (1, .ref (ad 883))]) C dX7_readSlope_28 rfl (by decide) rfl ?_
    refine z_aload_n C 1 dX7_readSlope_29 rfl ?_
    refine z_iconst (z := 0) C dX7_readSlope_30 rfl ?_
    refine z_bipush (z := 20) C dX7_readSlope_31 (by decide) ?_
    have hruny19 : okRun cs ad gvy17 (covy17) tp := ⟨_, _, _, _, _, _, _, by omega, by omega, hcdy18, hddy18⟩
    refine z_cV (As := [.int (zI (0)), .int (zI (20))]) (rest := []) (ci := 9) C (c_X7_number l D A cs tt N ad _ (by omega) _ tp hruny19 (0) (by omega) (20) (by omega)) (lt_K hN (rfl : Nat.blt (2) 952 = true)) hay2 hcdy18 rfl rfl mv_yX7_number q_817 hd_yX7_number (by decide) (Nat.le_of_ble_eq_true rfl) (by decide) dX7_readSlope_33 rfl (kI0 fun vy20 gvy20 hvy20 => ?_)
    obtain ⟨hrvy20, ⟨covy20, hkvy20, hnvy20⟩, hfvy20⟩ := hvy20
    obtain ⟨pldy21, endy21, tydy21, a9dy21, bedy21, tkdy21, tddy21, hAdy21, hTdy21, hcdy21, hddy21⟩ := id hkvy20
    refine z_istore_n (lv' := [(3, .int (zI (vy20))), (2, .int (zI (vy17))), (0, .ref (ad 2)), (1, .ref (ad 883))]) C dX7_readSlope_36 rfl (by decide) rfl ?_
    refine z_aload_n C 2 dX7_readSlope_37 rfl ?_
    have hruny22 : okRun cs ad gvy20 (covy20) tp := ⟨_, _, _, _, _, _, _, by omega, by omega, hcdy21, hddy21⟩
    refine z_cV (As := []) (rest := []) (ci := 9) C (c_X7_close l D A cs tt N ad _ (by omega) _ tp hruny22 ) (lt_K hN (rfl : Nat.blt (2) 952 = true)) hay2 hcdy21 rfl rfl mv_yX7_close q_821 hd_yX7_close (by decide) (Nat.le_of_ble_eq_true rfl) (by decide) dX7_readSlope_38 rfl (kV0 fun gvy23 hvy23 => ?_)
    obtain ⟨⟨covy23, hkvy23, hnvy23⟩, hfvy23⟩ := hvy23
    obtain ⟨pldy24, endy24, tydy24, a9dy24, bedy24, tkdy24, tddy24, hAdy24, hTdy24, hcdy24, hddy24⟩ := id hkvy23
    refine z_aload_n C 2 dX7_readSlope_41 rfl ?_
    refine z_get (v := .int (zI (covy23))) C (lt_K hN (rfl : Nat.blt (2) 952 = true)) hay2 hcdy24 rfl inA_X7 1 (by decide) q_45 rfl rfl dX7_readSlope_42 ?_
    refine z_if_ne (tgt := 78) C dX7_readSlope_45 (by decide) (by omega) (fun hby25 => ?_) (fun hby25 => ?_)
    · have hruny26 : okRun cs ad gvy23 (covy23) tp := ⟨_, _, _, _, _, _, _, by omega, by omega, hcdy24, hddy24⟩
      have hgy27 := (hfvy14 (883) (by decide)).trans hpoy5.1
      have hgy28 := (hfvy17 (883) (by decide)).trans hgy27
      have hgy29 := (hfvy20 (883) (by decide)).trans hgy28
      have hgy30 := (hfvy23 (883) (by decide)).trans hgy29
      have hgy31 := (hfvy14 (883 + 1) (by omega)).trans hpoy5.2.1
      have hgy32 := (hfvy17 (883 + 1) (by omega)).trans hgy31
      have hgy33 := (hfvy20 (883 + 1) (by omega)).trans hgy32
      have hgy34 := (hfvy23 (883 + 1) (by omega)).trans hgy33
      have hgy35 := (hfvy14 (883 + 2) (by omega)).trans hpoy5.2.2.1
      have hgy36 := (hfvy17 (883 + 2) (by omega)).trans hgy35
      have hgy37 := (hfvy20 (883 + 2) (by omega)).trans hgy36
      have hgy38 := (hfvy23 (883 + 2) (by omega)).trans hgy37
      have hgy39 := (hfvy14 (883 + 3) (by omega)).trans hpoy5.2.2.2.1
      have hgy40 := (hfvy17 (883 + 3) (by omega)).trans hgy39
      have hgy41 := (hfvy20 (883 + 3) (by omega)).trans hgy40
      have hgy42 := (hfvy23 (883 + 3) (by omega)).trans hgy41
      have hgy43 := (hfvy14 (883 + 4) (by omega)).trans hpoy5.2.2.2.2.1
      have hgy44 := (hfvy17 (883 + 4) (by omega)).trans hgy43
      have hgy45 := (hfvy20 (883 + 4) (by omega)).trans hgy44
      have hgy46 := (hfvy23 (883 + 4) (by omega)).trans hgy45
      have hgy47 := (hfvy14 (883 + 5) (by omega)).trans hpoy5.2.2.2.2.2.1
      have hgy48 := (hfvy17 (883 + 5) (by omega)).trans hgy47
      have hgy49 := (hfvy20 (883 + 5) (by omega)).trans hgy48
      have hgy50 := (hfvy23 (883 + 5) (by omega)).trans hgy49
      have hgy51 := (hfvy14 (883 + 6) (by omega)).trans hpoy5.2.2.2.2.2.2
      have hgy52 := (hfvy17 (883 + 6) (by omega)).trans hgy51
      have hgy53 := (hfvy20 (883 + 6) (by omega)).trans hgy52
      have hgy54 := (hfvy23 (883 + 6) (by omega)).trans hgy53
      exact z_vret C hr hlk dX7_readSlope_78 (by decide) (by decide) ⟨rfl, rfl, rfl, ⟨_, hruny26, by omega⟩, ⟨_, _, _, _, _, _, _, _, _, by omega, by omega, ⟨hgy30, hgy34, hgy38, hgy42, hgy46, hgy50, hgy54⟩⟩, fun j j1 j2 => by rw [hfvy23 _ (by omega)]; rw [hfvy20 _ (by omega)]; rw [hfvy17 _ (by omega)]; rw [hfvy14 _ (by omega)]⟩
    · refine z_aload_n C 3 dX7_readSlope_48 rfl ?_
      have hgy55 := (hfvy14 (883) (by decide)).trans hpoy5.1
      have hgy56 := (hfvy17 (883) (by decide)).trans hgy55
      have hgy57 := (hfvy20 (883) (by decide)).trans hgy56
      have hgy58 := (hfvy23 (883) (by decide)).trans hgy57
      refine z_get (v := .ref (ad (883 + 1))) C (lt_K hN (rfl : Nat.blt (883) 952 = true)) hay4 hgy58 rfl inA_X5 3 (by decide) q_97 rfl rfl dX7_readSlope_49 ?_
      refine z_aload_n C 3 dX7_readSlope_52 rfl ?_
      refine z_get (v := .int (zI (sloy5))) C (lt_K hN (rfl : Nat.blt (883) 952 = true)) hay4 hgy58 rfl inA_X5 0 (by decide) q_89 rfl rfl dX7_readSlope_53 ?_
      refine z_iload_n C 1 dX7_readSlope_56 rfl ?_
      have hgy59 := (hfvy14 (883 + 1) (by omega)).trans hpoy5.2.1
      have hgy60 := (hfvy17 (883 + 1) (by omega)).trans hgy59
      have hgy61 := (hfvy20 (883 + 1) (by omega)).trans hgy60
      have hgy62 := (hfvy23 (883 + 1) (by omega)).trans hgy61
      refine z_iast C (lt_K hN (rfl : Nat.blt (883 + 1) 952 = true)) hay6 hgy62 ((sloy5).toNat) (by omega) (by omega) (by decide) dX7_readSlope_57 (fun gy63 egy64 => ?_)
      have hgy65 := up_s egy64
      refine z_aload_n C 3 dX7_readSlope_58 rfl ?_
      have hgy66 := up_n egy64 hgy58 (ne_o (i := 883) (c := 0) (d := 1) rfl)
      refine z_get (v := .ref (ad (883 + 2))) C (lt_K hN (rfl : Nat.blt (883) 952 = true)) hay4 hgy66 rfl inA_X5 4 (by decide) q_101 rfl rfl dX7_readSlope_59 ?_
      refine z_aload_n C 3 dX7_readSlope_62 rfl ?_
      refine z_get (v := .int (zI (sloy5))) C (lt_K hN (rfl : Nat.blt (883) 952 = true)) hay4 hgy66 rfl inA_X5 0 (by decide) q_89 rfl rfl dX7_readSlope_63 ?_
      refine z_iload_n C 0 dX7_readSlope_66 rfl ?_
      have hgy67 := (hfvy14 (883 + 2) (by omega)).trans hpoy5.2.2.1
      have hgy68 := (hfvy17 (883 + 2) (by omega)).trans hgy67
      have hgy69 := (hfvy20 (883 + 2) (by omega)).trans hgy68
      have hgy70 := (hfvy23 (883 + 2) (by omega)).trans hgy69
      have hgy71 := up_n egy64 hgy70 (ne_o (i := 883) (c := 2) (d := 1) rfl)
      refine z_iast C (lt_K hN (rfl : Nat.blt (883 + 2) 952 = true)) hay7 hgy71 ((sloy5).toNat) (by omega) (by omega) (by decide) dX7_readSlope_67 (fun gy72 egy73 => ?_)
      have hgy74 := up_s egy73
      refine z_aload_n C 3 dX7_readSlope_68 rfl ?_
      refine z_dup C dX7_readSlope_69 rfl ?_
      have hgy75 := up_n egy73 hgy66 (ne_o (i := 883) (c := 0) (d := 2) rfl)
      refine z_get (v := .int (zI (sloy5))) C (lt_K hN (rfl : Nat.blt (883) 952 = true)) hay4 hgy75 rfl inA_X5 0 (by decide) q_89 rfl rfl dX7_readSlope_70 ?_
      refine z_iconst (z := 1) C dX7_readSlope_73 rfl ?_
      refine z_iadd C dX7_readSlope_74 ?_
      refine z_put (fs' := [.int (zI (sloy5 + 1)), .int (zI (hooy5)), .int (zI (uaoy5)), .ref (ad (883 + 1)), .ref (ad (883 + 2)), .ref (ad (883 + 3)), .ref (ad (883 + 4)), .ref (ad (883 + 5)), .ref (ad (883 + 6))]) C (lt_K hN (rfl : Nat.blt (883) 952 = true)) hay4 hgy75 tyX5 tyX5_ok nmX5 rfl inA_X5 0 (by decide) q_89 rfl rfl rfl rfl (Nat.le_of_ble_eq_true rfl) rfl dX7_readSlope_75 (fun gy76 egy77 => ?_)
      have hgy78 := up_s egy77
      have hgy80 := up_n egy64 hcdy24 (by omega)
      have hgy81 := up_n egy73 hgy80 (by omega)
      have hgy82 := up_n egy77 hgy81 (by decide)
      have hgy83 := up_n egy64 hddy24 (by omega)
      have hgy84 := up_n egy73 hgy83 (by omega)
      have hgy85 := up_n egy77 hgy84 (by decide)
      have hruny79 : okRun cs ad gy76 (covy23) tp := ⟨_, _, _, _, _, _, _, by omega, by omega, hgy82, hgy85⟩
      have hgy86 := up_n egy73 hgy65 (ne_o (i := 883) (c := 1) (d := 2) rfl)
      have hgy87 := up_n egy77 hgy86 (ne_o (i := 883) (c := 1) (d := 0) rfl)
      have hgy88 := up_n egy77 hgy74 (ne_o (i := 883) (c := 2) (d := 0) rfl)
      have hgy89 := (hfvy14 (883 + 3) (by omega)).trans hpoy5.2.2.2.1
      have hgy90 := (hfvy17 (883 + 3) (by omega)).trans hgy89
      have hgy91 := (hfvy20 (883 + 3) (by omega)).trans hgy90
      have hgy92 := (hfvy23 (883 + 3) (by omega)).trans hgy91
      have hgy93 := up_n egy64 hgy92 (ne_o (i := 883) (c := 3) (d := 1) rfl)
      have hgy94 := up_n egy73 hgy93 (ne_o (i := 883) (c := 3) (d := 2) rfl)
      have hgy95 := up_n egy77 hgy94 (ne_o (i := 883) (c := 3) (d := 0) rfl)
      have hgy96 := (hfvy14 (883 + 4) (by omega)).trans hpoy5.2.2.2.2.1
      have hgy97 := (hfvy17 (883 + 4) (by omega)).trans hgy96
      have hgy98 := (hfvy20 (883 + 4) (by omega)).trans hgy97
      have hgy99 := (hfvy23 (883 + 4) (by omega)).trans hgy98
      have hgy100 := up_n egy64 hgy99 (ne_o (i := 883) (c := 4) (d := 1) rfl)
      have hgy101 := up_n egy73 hgy100 (ne_o (i := 883) (c := 4) (d := 2) rfl)
      have hgy102 := up_n egy77 hgy101 (ne_o (i := 883) (c := 4) (d := 0) rfl)
      have hgy103 := (hfvy14 (883 + 5) (by omega)).trans hpoy5.2.2.2.2.2.1
      have hgy104 := (hfvy17 (883 + 5) (by omega)).trans hgy103
      have hgy105 := (hfvy20 (883 + 5) (by omega)).trans hgy104
      have hgy106 := (hfvy23 (883 + 5) (by omega)).trans hgy105
      have hgy107 := up_n egy64 hgy106 (ne_o (i := 883) (c := 5) (d := 1) rfl)
      have hgy108 := up_n egy73 hgy107 (ne_o (i := 883) (c := 5) (d := 2) rfl)
      have hgy109 := up_n egy77 hgy108 (ne_o (i := 883) (c := 5) (d := 0) rfl)
      have hgy110 := (hfvy14 (883 + 6) (by omega)).trans hpoy5.2.2.2.2.2.2
      have hgy111 := (hfvy17 (883 + 6) (by omega)).trans hgy110
      have hgy112 := (hfvy20 (883 + 6) (by omega)).trans hgy111
      have hgy113 := (hfvy23 (883 + 6) (by omega)).trans hgy112
      have hgy114 := up_n egy64 hgy113 (ne_o (i := 883) (c := 6) (d := 1) rfl)
      have hgy115 := up_n egy73 hgy114 (ne_o (i := 883) (c := 6) (d := 2) rfl)
      have hgy116 := up_n egy77 hgy115 (ne_o (i := 883) (c := 6) (d := 0) rfl)
      exact z_vret C hr hlk dX7_readSlope_78 (by decide) (by decide) ⟨rfl, rfl, rfl, ⟨_, hruny79, by omega⟩, ⟨_, _, _, _, _, _, _, _, _, by omega, by omega, ⟨hgy78, hgy87, hgy88, hgy95, hgy102, hgy109, hgy116⟩⟩, fun j j1 j2 => by rw [egy77, va_up_ne _ _ (by omega)]; rw [egy73, va_up_ne _ _ (by omega)]; rw [egy64, va_up_ne _ _ (by omega)]; rw [hfvy23 _ (by omega)]; rw [hfvy20 _ (by omega)]; rw [hfvy17 _ (by omega)]; rw [hfvy14 _ (by omega)]⟩
  · refine z_aload_n C 0 dX7_readSlope_8 rfl ?_
    refine z_iconst (z := 2) C dX7_readSlope_9 rfl ?_
    refine z_aload_n C 0 dX7_readSlope_10 rfl ?_
    refine z_get (v := .int (zI (a9dy1))) C (lt_K hN (rfl : Nat.blt (2) 952 = true)) hay2 hcdy1 rfl inA_X7 5 (by decide) q_49 rfl rfl dX7_readSlope_11 ?_
    have hruny117 : okRun cs ad g (co) tp := ⟨_, _, _, _, _, _, _, by omega, by omega, hcdy1, hddy1⟩
    refine z_cV (As := [.int (zI (2)), .int (zI (a9dy1))]) (rest := []) (ci := 9) C (c_X7_fail l D A cs tt N ad _ (by omega) _ tp hruny117 (2) (by omega) (a9dy1) (by omega)) (lt_K hN (rfl : Nat.blt (2) 952 = true)) hay2 hcdy1 rfl rfl mv_yX7_fail q_809 hd_yX7_fail (by decide) (Nat.le_of_ble_eq_true rfl) (by decide) dX7_readSlope_14 rfl (kV0 fun gvy118 hvy118 => ?_)
    obtain ⟨⟨covy118, hkvy118, hnvy118⟩, hfvy118⟩ := hvy118
    obtain ⟨pldy119, endy119, tydy119, a9dy119, bedy119, tkdy119, tddy119, hAdy119, hTdy119, hcdy119, hddy119⟩ := id hkvy118
    refine z_aload_n C 0 dX7_readSlope_17 rfl ?_
    have hruny120 : okRun cs ad gvy118 (covy118) tp := ⟨_, _, _, _, _, _, _, by omega, by omega, hcdy119, hddy119⟩
    refine z_cV (As := []) (rest := []) (ci := 9) C (c_X7_take l D A cs tt N ad _ (by omega) _ tp hruny120) (lt_K hN (rfl : Nat.blt (2) 952 = true)) hay2 hcdy119 rfl rfl mv_yX7_take q_813 hd_yX7_take (by decide) (Nat.le_of_ble_eq_true rfl) (by decide) dX7_readSlope_18 rfl (kV0 fun gvy121 hvy121 => ?_)
    obtain ⟨hkvy121, hfvy121⟩ := hvy121
    obtain ⟨pldy122, endy122, tydy122, a9dy122, bedy122, tkdy122, tddy122, hAdy122, hTdy122, hcdy122, hddy122⟩ := id hkvy121
    refine z_aload_n C 0 dX7_readSlope_21 rfl ?_
    refine z_iconst (z := 0) C dX7_readSlope_22 rfl ?_
    refine z_bipush (z := 90) C dX7_readSlope_23 (by decide) ?_
    have hruny123 : okRun cs ad gvy121 (covy118) tp := ⟨_, _, _, _, _, _, _, by omega, by omega, hcdy122, hddy122⟩
    refine z_cV (As := [.int (zI (0)), .int (zI (90))]) (rest := []) (ci := 9) C (c_X7_number l D A cs tt N ad _ (by omega) _ tp hruny123 (0) (by omega) (90) (by omega)) (lt_K hN (rfl : Nat.blt (2) 952 = true)) hay2 hcdy122 rfl rfl mv_yX7_number q_817 hd_yX7_number (by decide) (Nat.le_of_ble_eq_true rfl) (by decide) dX7_readSlope_25 rfl (kI0 fun vy124 gvy124 hvy124 => ?_)
    obtain ⟨hrvy124, ⟨covy124, hkvy124, hnvy124⟩, hfvy124⟩ := hvy124
    obtain ⟨pldy125, endy125, tydy125, a9dy125, bedy125, tkdy125, tddy125, hAdy125, hTdy125, hcdy125, hddy125⟩ := id hkvy124
    refine z_istore_n (lv' := [(2, .int (zI (vy124))), (0, .ref (ad 2)), (1, .ref (ad 883))]) C dX7_readSlope_28 rfl (by decide) rfl ?_
    refine z_aload_n C 1 dX7_readSlope_29 rfl ?_
    refine z_iconst (z := 0) C dX7_readSlope_30 rfl ?_
    refine z_bipush (z := 20) C dX7_readSlope_31 (by decide) ?_
    have hruny126 : okRun cs ad gvy124 (covy124) tp := ⟨_, _, _, _, _, _, _, by omega, by omega, hcdy125, hddy125⟩
    refine z_cV (As := [.int (zI (0)), .int (zI (20))]) (rest := []) (ci := 9) C (c_X7_number l D A cs tt N ad _ (by omega) _ tp hruny126 (0) (by omega) (20) (by omega)) (lt_K hN (rfl : Nat.blt (2) 952 = true)) hay2 hcdy125 rfl rfl mv_yX7_number q_817 hd_yX7_number (by decide) (Nat.le_of_ble_eq_true rfl) (by decide) dX7_readSlope_33 rfl (kI0 fun vy127 gvy127 hvy127 => ?_)
    obtain ⟨hrvy127, ⟨covy127, hkvy127, hnvy127⟩, hfvy127⟩ := hvy127
    obtain ⟨pldy128, endy128, tydy128, a9dy128, bedy128, tkdy128, tddy128, hAdy128, hTdy128, hcdy128, hddy128⟩ := id hkvy127
    refine z_istore_n (lv' := [(3, .int (zI (vy127))), (2, .int (zI (vy124))), (0, .ref (ad 2)), (1, .ref (ad 883))]) C dX7_readSlope_36 rfl (by decide) rfl ?_
    refine z_aload_n C 2 dX7_readSlope_37 rfl ?_
    have hruny129 : okRun cs ad gvy127 (covy127) tp := ⟨_, _, _, _, _, _, _, by omega, by omega, hcdy128, hddy128⟩
    refine z_cV (As := []) (rest := []) (ci := 9) C (c_X7_close l D A cs tt N ad _ (by omega) _ tp hruny129 ) (lt_K hN (rfl : Nat.blt (2) 952 = true)) hay2 hcdy128 rfl rfl mv_yX7_close q_821 hd_yX7_close (by decide) (Nat.le_of_ble_eq_true rfl) (by decide) dX7_readSlope_38 rfl (kV0 fun gvy130 hvy130 => ?_)
    obtain ⟨⟨covy130, hkvy130, hnvy130⟩, hfvy130⟩ := hvy130
    obtain ⟨pldy131, endy131, tydy131, a9dy131, bedy131, tkdy131, tddy131, hAdy131, hTdy131, hcdy131, hddy131⟩ := id hkvy130
    refine z_aload_n C 2 dX7_readSlope_41 rfl ?_
    refine z_get (v := .int (zI (covy130))) C (lt_K hN (rfl : Nat.blt (2) 952 = true)) hay2 hcdy131 rfl inA_X7 1 (by decide) q_45 rfl rfl dX7_readSlope_42 ?_
    refine z_if_ne (tgt := 78) C dX7_readSlope_45 (by decide) (by omega) (fun hby132 => ?_) (fun hby132 => ?_)
    · have hruny133 : okRun cs ad gvy130 (covy130) tp := ⟨_, _, _, _, _, _, _, by omega, by omega, hcdy131, hddy131⟩
      have hgy134 := (hfvy118 (883) (by decide)).trans hpoy5.1
      have hgy135 := (hfvy121 (883) (by decide)).trans hgy134
      have hgy136 := (hfvy124 (883) (by decide)).trans hgy135
      have hgy137 := (hfvy127 (883) (by decide)).trans hgy136
      have hgy138 := (hfvy130 (883) (by decide)).trans hgy137
      have hgy139 := (hfvy118 (883 + 1) (by omega)).trans hpoy5.2.1
      have hgy140 := (hfvy121 (883 + 1) (by omega)).trans hgy139
      have hgy141 := (hfvy124 (883 + 1) (by omega)).trans hgy140
      have hgy142 := (hfvy127 (883 + 1) (by omega)).trans hgy141
      have hgy143 := (hfvy130 (883 + 1) (by omega)).trans hgy142
      have hgy144 := (hfvy118 (883 + 2) (by omega)).trans hpoy5.2.2.1
      have hgy145 := (hfvy121 (883 + 2) (by omega)).trans hgy144
      have hgy146 := (hfvy124 (883 + 2) (by omega)).trans hgy145
      have hgy147 := (hfvy127 (883 + 2) (by omega)).trans hgy146
      have hgy148 := (hfvy130 (883 + 2) (by omega)).trans hgy147
      have hgy149 := (hfvy118 (883 + 3) (by omega)).trans hpoy5.2.2.2.1
      have hgy150 := (hfvy121 (883 + 3) (by omega)).trans hgy149
      have hgy151 := (hfvy124 (883 + 3) (by omega)).trans hgy150
      have hgy152 := (hfvy127 (883 + 3) (by omega)).trans hgy151
      have hgy153 := (hfvy130 (883 + 3) (by omega)).trans hgy152
      have hgy154 := (hfvy118 (883 + 4) (by omega)).trans hpoy5.2.2.2.2.1
      have hgy155 := (hfvy121 (883 + 4) (by omega)).trans hgy154
      have hgy156 := (hfvy124 (883 + 4) (by omega)).trans hgy155
      have hgy157 := (hfvy127 (883 + 4) (by omega)).trans hgy156
      have hgy158 := (hfvy130 (883 + 4) (by omega)).trans hgy157
      have hgy159 := (hfvy118 (883 + 5) (by omega)).trans hpoy5.2.2.2.2.2.1
      have hgy160 := (hfvy121 (883 + 5) (by omega)).trans hgy159
      have hgy161 := (hfvy124 (883 + 5) (by omega)).trans hgy160
      have hgy162 := (hfvy127 (883 + 5) (by omega)).trans hgy161
      have hgy163 := (hfvy130 (883 + 5) (by omega)).trans hgy162
      have hgy164 := (hfvy118 (883 + 6) (by omega)).trans hpoy5.2.2.2.2.2.2
      have hgy165 := (hfvy121 (883 + 6) (by omega)).trans hgy164
      have hgy166 := (hfvy124 (883 + 6) (by omega)).trans hgy165
      have hgy167 := (hfvy127 (883 + 6) (by omega)).trans hgy166
      have hgy168 := (hfvy130 (883 + 6) (by omega)).trans hgy167
      exact z_vret C hr hlk dX7_readSlope_78 (by decide) (by decide) ⟨rfl, rfl, rfl, ⟨_, hruny133, by omega⟩, ⟨_, _, _, _, _, _, _, _, _, by omega, by omega, ⟨hgy138, hgy143, hgy148, hgy153, hgy158, hgy163, hgy168⟩⟩, fun j j1 j2 => by rw [hfvy130 _ (by omega)]; rw [hfvy127 _ (by omega)]; rw [hfvy124 _ (by omega)]; rw [hfvy121 _ (by omega)]; rw [hfvy118 _ (by omega)]⟩
    · refine z_aload_n C 3 dX7_readSlope_48 rfl ?_
      have hgy169 := (hfvy118 (883) (by decide)).trans hpoy5.1
      have hgy170 := (hfvy121 (883) (by decide)).trans hgy169
      have hgy171 := (hfvy124 (883) (by decide)).trans hgy170
      have hgy172 := (hfvy127 (883) (by decide)).trans hgy171
      have hgy173 := (hfvy130 (883) (by decide)).trans hgy172
      refine z_get (v := .ref (ad (883 + 1))) C (lt_K hN (rfl : Nat.blt (883) 952 = true)) hay4 hgy173 rfl inA_X5 3 (by decide) q_97 rfl rfl dX7_readSlope_49 ?_
      refine z_aload_n C 3 dX7_readSlope_52 rfl ?_
      refine z_get (v := .int (zI (sloy5))) C (lt_K hN (rfl : Nat.blt (883) 952 = true)) hay4 hgy173 rfl inA_X5 0 (by decide) q_89 rfl rfl dX7_readSlope_53 ?_
      refine z_iload_n C 1 dX7_readSlope_56 rfl ?_
      have hgy174 := (hfvy118 (883 + 1) (by omega)).trans hpoy5.2.1
      have hgy175 := (hfvy121 (883 + 1) (by omega)).trans hgy174
      have hgy176 := (hfvy124 (883 + 1) (by omega)).trans hgy175
      have hgy177 := (hfvy127 (883 + 1) (by omega)).trans hgy176
      have hgy178 := (hfvy130 (883 + 1) (by omega)).trans hgy177
      refine z_iast C (lt_K hN (rfl : Nat.blt (883 + 1) 952 = true)) hay6 hgy178 ((sloy5).toNat) (by omega) (by omega) (by decide) dX7_readSlope_57 (fun gy179 egy180 => ?_)
      have hgy181 := up_s egy180
      refine z_aload_n C 3 dX7_readSlope_58 rfl ?_
      have hgy182 := up_n egy180 hgy173 (ne_o (i := 883) (c := 0) (d := 1) rfl)
      refine z_get (v := .ref (ad (883 + 2))) C (lt_K hN (rfl : Nat.blt (883) 952 = true)) hay4 hgy182 rfl inA_X5 4 (by decide) q_101 rfl rfl dX7_readSlope_59 ?_
      refine z_aload_n C 3 dX7_readSlope_62 rfl ?_
      refine z_get (v := .int (zI (sloy5))) C (lt_K hN (rfl : Nat.blt (883) 952 = true)) hay4 hgy182 rfl inA_X5 0 (by decide) q_89 rfl rfl dX7_readSlope_63 ?_
      refine z_iload_n C 0 dX7_readSlope_66 rfl ?_
      have hgy183 := (hfvy118 (883 + 2) (by omega)).trans hpoy5.2.2.1
      have hgy184 := (hfvy121 (883 + 2) (by omega)).trans hgy183
      have hgy185 := (hfvy124 (883 + 2) (by omega)).trans hgy184
      have hgy186 := (hfvy127 (883 + 2) (by omega)).trans hgy185
      have hgy187 := (hfvy130 (883 + 2) (by omega)).trans hgy186
      have hgy188 := up_n egy180 hgy187 (ne_o (i := 883) (c := 2) (d := 1) rfl)
      refine z_iast C (lt_K hN (rfl : Nat.blt (883 + 2) 952 = true)) hay7 hgy188 ((sloy5).toNat) (by omega) (by omega) (by decide) dX7_readSlope_67 (fun gy189 egy190 => ?_)
      have hgy191 := up_s egy190
      refine z_aload_n C 3 dX7_readSlope_68 rfl ?_
      refine z_dup C dX7_readSlope_69 rfl ?_
      have hgy192 := up_n egy190 hgy182 (ne_o (i := 883) (c := 0) (d := 2) rfl)
      refine z_get (v := .int (zI (sloy5))) C (lt_K hN (rfl : Nat.blt (883) 952 = true)) hay4 hgy192 rfl inA_X5 0 (by decide) q_89 rfl rfl dX7_readSlope_70 ?_
      refine z_iconst (z := 1) C dX7_readSlope_73 rfl ?_
      refine z_iadd C dX7_readSlope_74 ?_
      refine z_put (fs' := [.int (zI (sloy5 + 1)), .int (zI (hooy5)), .int (zI (uaoy5)), .ref (ad (883 + 1)), .ref (ad (883 + 2)), .ref (ad (883 + 3)), .ref (ad (883 + 4)), .ref (ad (883 + 5)), .ref (ad (883 + 6))]) C (lt_K hN (rfl : Nat.blt (883) 952 = true)) hay4 hgy192 tyX5 tyX5_ok nmX5 rfl inA_X5 0 (by decide) q_89 rfl rfl rfl rfl (Nat.le_of_ble_eq_true rfl) rfl dX7_readSlope_75 (fun gy193 egy194 => ?_)
      have hgy195 := up_s egy194
      have hgy197 := up_n egy180 hcdy131 (by omega)
      have hgy198 := up_n egy190 hgy197 (by omega)
      have hgy199 := up_n egy194 hgy198 (by decide)
      have hgy200 := up_n egy180 hddy131 (by omega)
      have hgy201 := up_n egy190 hgy200 (by omega)
      have hgy202 := up_n egy194 hgy201 (by decide)
      have hruny196 : okRun cs ad gy193 (covy130) tp := ⟨_, _, _, _, _, _, _, by omega, by omega, hgy199, hgy202⟩
      have hgy203 := up_n egy190 hgy181 (ne_o (i := 883) (c := 1) (d := 2) rfl)
      have hgy204 := up_n egy194 hgy203 (ne_o (i := 883) (c := 1) (d := 0) rfl)
      have hgy205 := up_n egy194 hgy191 (ne_o (i := 883) (c := 2) (d := 0) rfl)
      have hgy206 := (hfvy118 (883 + 3) (by omega)).trans hpoy5.2.2.2.1
      have hgy207 := (hfvy121 (883 + 3) (by omega)).trans hgy206
      have hgy208 := (hfvy124 (883 + 3) (by omega)).trans hgy207
      have hgy209 := (hfvy127 (883 + 3) (by omega)).trans hgy208
      have hgy210 := (hfvy130 (883 + 3) (by omega)).trans hgy209
      have hgy211 := up_n egy180 hgy210 (ne_o (i := 883) (c := 3) (d := 1) rfl)
      have hgy212 := up_n egy190 hgy211 (ne_o (i := 883) (c := 3) (d := 2) rfl)
      have hgy213 := up_n egy194 hgy212 (ne_o (i := 883) (c := 3) (d := 0) rfl)
      have hgy214 := (hfvy118 (883 + 4) (by omega)).trans hpoy5.2.2.2.2.1
      have hgy215 := (hfvy121 (883 + 4) (by omega)).trans hgy214
      have hgy216 := (hfvy124 (883 + 4) (by omega)).trans hgy215
      have hgy217 := (hfvy127 (883 + 4) (by omega)).trans hgy216
      have hgy218 := (hfvy130 (883 + 4) (by omega)).trans hgy217
      have hgy219 := up_n egy180 hgy218 (ne_o (i := 883) (c := 4) (d := 1) rfl)
      have hgy220 := up_n egy190 hgy219 (ne_o (i := 883) (c := 4) (d := 2) rfl)
      have hgy221 := up_n egy194 hgy220 (ne_o (i := 883) (c := 4) (d := 0) rfl)
      have hgy222 := (hfvy118 (883 + 5) (by omega)).trans hpoy5.2.2.2.2.2.1
      have hgy223 := (hfvy121 (883 + 5) (by omega)).trans hgy222
      have hgy224 := (hfvy124 (883 + 5) (by omega)).trans hgy223
      have hgy225 := (hfvy127 (883 + 5) (by omega)).trans hgy224
      have hgy226 := (hfvy130 (883 + 5) (by omega)).trans hgy225
      have hgy227 := up_n egy180 hgy226 (ne_o (i := 883) (c := 5) (d := 1) rfl)
      have hgy228 := up_n egy190 hgy227 (ne_o (i := 883) (c := 5) (d := 2) rfl)
      have hgy229 := up_n egy194 hgy228 (ne_o (i := 883) (c := 5) (d := 0) rfl)
      have hgy230 := (hfvy118 (883 + 6) (by omega)).trans hpoy5.2.2.2.2.2.2
      have hgy231 := (hfvy121 (883 + 6) (by omega)).trans hgy230
      have hgy232 := (hfvy124 (883 + 6) (by omega)).trans hgy231
      have hgy233 := (hfvy127 (883 + 6) (by omega)).trans hgy232
      have hgy234 := (hfvy130 (883 + 6) (by omega)).trans hgy233
      have hgy235 := up_n egy180 hgy234 (ne_o (i := 883) (c := 6) (d := 1) rfl)
      have hgy236 := up_n egy190 hgy235 (ne_o (i := 883) (c := 6) (d := 2) rfl)
      have hgy237 := up_n egy194 hgy236 (ne_o (i := 883) (c := 6) (d := 0) rfl)
      exact z_vret C hr hlk dX7_readSlope_78 (by decide) (by decide) ⟨rfl, rfl, rfl, ⟨_, hruny196, by omega⟩, ⟨_, _, _, _, _, _, _, _, _, by omega, by omega, ⟨hgy195, hgy204, hgy205, hgy213, hgy221, hgy229, hgy237⟩⟩, fun j j1 j2 => by rw [egy194, va_up_ne _ _ (by omega)]; rw [egy190, va_up_ne _ _ (by omega)]; rw [egy180, va_up_ne _ _ (by omega)]; rw [hfvy130 _ (by omega)]; rw [hfvy127 _ (by omega)]; rw [hfvy124 _ (by omega)]; rw [hfvy121 _ (by omega)]; rw [hfvy118 _ (by omega)]⟩

set_option maxRecDepth 100000 in
set_option maxHeartbeats 4000000 in
theorem c_X7_readHour (l : Launch) (D : va_G) (A : Nat → Prop) (cs : Nat → ClassId) (tt : Nat) (N : Nat) (ad : Nat → Nat) (g : Nat → va_E) (hN : 952 ≤ N) (co : Int) (tp : Nat → Int) (hR : okRun cs ad g co tp) (hP9 : okPlan cs ad g 883) : zM l yX7_readHour cX7_readHour 6 none ({ frames := 7, cells := 0, slots := 0, locals := 420 } : Room) D A cs tt N ad g [.ref (ad 2), .ref (ad 883)] (rV0 N ad fun g' => (∃ co' : Int, okRun cs ad g' co' tp ∧ co ≤ co') ∧ okPlan cs ad g' 883 ∧ ∀ j, j ≠ 2 → (j < 883 ∨ 890 ≤ j) → g' j = g j) := by
  obtain ⟨pldy1, endy1, tydy1, a9dy1, bedy1, tkdy1, tddy1, hAdy1, hTdy1, hcdy1, hddy1⟩ := id hR
  have hay2 : zAt ad (2) (ad 2) := rfl
  have hay3 : zAt ad (1) (ad 1) := rfl
  have hay4 : zAt ad (883) (ad 883) := rfl
  obtain ⟨sloy5, hooy5, uaoy5, stoy5, opoy5, aioy5, faoy5, muoy5, tboy5, hsloy5, hhooy5, hpoy5⟩ := id hP9
  have hay6 : zAt ad (883 + 1) (ad (883 + 1)) := rfl
  have hay7 : zAt ad (883 + 2) (ad (883 + 2)) := rfl
  have hay8 : zAt ad (883 + 3) (ad (883 + 3)) := rfl
  have hay9 : zAt ad (883 + 4) (ad (883 + 4)) := rfl
  have hay10 : zAt ad (883 + 5) (ad (883 + 5)) := rfl
  have hay11 : zAt ad (883 + 6) (ad (883 + 6)) := rfl
  refine z_of (by decide) (Nat.le_of_ble_eq_true rfl) ?_
  intro p e s m below meth c C hr hlk hnm
  refine z_lv (lv' := [(0, .ref (ad 2)), (1, .ref (ad 883))]) [0, 1] rfl ?_
  have s93 : ∀ (v2 : Int) (v3 : Int) (v4 : Int) (v5 : Int) (c1 : Int) (g1 : Nat → va_E), okRun cs ad g1 c1 tp → co ≤ c1 → (∀ j, j ≠ 2 → g1 j = g j) → (1 ≤ c1 ∨ hooy5 < 24) → (0 ≤ v2 ∧ v2 ≤ 1) → (0 ≤ v3 ∧ v3 ≤ 300) → (0 ≤ v4 ∧ v4 ≤ 3) → (0 ≤ v5 ∧ v5 ≤ 50) → zV p l e ({ frames := 7, cells := 0, slots := 0, locals := 420 } : Room) s m ([.ref (ad 2), .ref (ad 883)] : List Value).toArray below meth c (MQ below (zPost D A (rV0 N ad fun g' => (∃ co' : Int, okRun cs ad g' co' tp ∧ co ≤ co') ∧ okPlan cs ad g' 883 ∧ ∀ j, j ≠ 2 → (j < 883 ∨ 890 ≤ j) → g' j = g j)) ([.ref (ad 2), .ref (ad 883)] : List Value).toArray s ({ frames := 7, cells := 0, slots := 0, locals := 420 } : Room).cells ({ frames := 7, cells := 0, slots := 0, locals := 420 } : Room).slots A) D A 6 (N) ad g1 (0) (0) 93 [(0, .ref (ad 2)), (1, .ref (ad 883)), (2, .int (zI (v2))), (3, .int (zI (v3))), (4, .int (zI (v4))), (5, .int (zI (v5)))] [] := by
    intro v2 v3 v4 v5 c1 g1 f1 f2 f3 f4 hv2 hv3 hv4 hv5
    obtain ⟨pldy12, endy12, tydy12, a9dy12, bedy12, tkdy12, tddy12, hAdy12, hTdy12, hcdy12, hddy12⟩ := id f1
    refine z_aload_n C 0 dX7_readHour_93 rfl ?_
    have hruny13 : okRun cs ad g1 (c1) tp := ⟨_, _, _, _, _, _, _, by omega, by omega, hcdy12, hddy12⟩
    refine z_cV (As := []) (rest := []) (ci := 9) C (c_X7_close l D A cs tt N ad _ (by omega) _ tp hruny13 ) (by omega) hay2 hcdy12 rfl rfl mv_yX7_close q_821 hd_yX7_close (by decide) (Nat.le_of_ble_eq_true rfl) (by decide) dX7_readHour_94 rfl (kV0 fun gvy14 hvy14 => ?_)
    obtain ⟨⟨covy14, hkvy14, hnvy14⟩, hfvy14⟩ := hvy14
    obtain ⟨pldy15, endy15, tydy15, a9dy15, bedy15, tkdy15, tddy15, hAdy15, hTdy15, hcdy15, hddy15⟩ := id hkvy14
    refine z_aload_n C 0 dX7_readHour_97 rfl ?_
    refine z_get (v := .int (zI (covy14))) C (by omega) hay2 hcdy15 rfl inA_X7 1 (by decide) q_45 rfl rfl dX7_readHour_98 ?_
    refine z_if_ne (tgt := 155) C dX7_readHour_101 (by decide) (by omega) (fun hby16 => ?_) (fun hby16 => ?_)
    · have hruny17 : okRun cs ad gvy14 (covy14) tp := ⟨_, _, _, _, _, _, _, by omega, by omega, hcdy15, hddy15⟩
      have hgy18 := (hfvy14 (883) (by decide)).trans ((f3 _ (by omega)).trans hpoy5.1)
      have hgy19 := (hfvy14 (883 + 1) (by omega)).trans ((f3 _ (by omega)).trans hpoy5.2.1)
      have hgy20 := (hfvy14 (883 + 2) (by omega)).trans ((f3 _ (by omega)).trans hpoy5.2.2.1)
      have hgy21 := (hfvy14 (883 + 3) (by omega)).trans ((f3 _ (by omega)).trans hpoy5.2.2.2.1)
      have hgy22 := (hfvy14 (883 + 4) (by omega)).trans ((f3 _ (by omega)).trans hpoy5.2.2.2.2.1)
      have hgy23 := (hfvy14 (883 + 5) (by omega)).trans ((f3 _ (by omega)).trans hpoy5.2.2.2.2.2.1)
      have hgy24 := (hfvy14 (883 + 6) (by omega)).trans ((f3 _ (by omega)).trans hpoy5.2.2.2.2.2.2)
      exact z_vret C hr hlk dX7_readHour_155 (by decide) (by decide) ⟨rfl, rfl, rfl, ⟨_, hruny17, by omega⟩, ⟨_, _, _, _, _, _, _, _, _, by omega, by omega, ⟨hgy18, hgy19, hgy20, hgy21, hgy22, hgy23, hgy24⟩⟩, fun j j1 j2 => by rw [hfvy14 _ (by omega)]; exact f3 j j1⟩
    · refine z_aload_n C 1 dX7_readHour_104 rfl ?_
      have hgy25 := (hfvy14 (883) (by decide)).trans ((f3 _ (by omega)).trans hpoy5.1)
      refine z_get (v := .ref (ad (883 + 3))) C (by omega) hay4 hgy25 rfl inA_X5 5 (by decide) q_106 rfl rfl dX7_readHour_105 ?_
      refine z_aload_n C 1 dX7_readHour_108 rfl ?_
      refine z_get (v := .int (zI (hooy5))) C (by omega) hay4 hgy25 rfl inA_X5 1 (by decide) q_94 rfl rfl dX7_readHour_109 ?_
      refine z_iload_n C 2 dX7_readHour_112 rfl ?_
      refine z_if_eq (tgt := 121) C dX7_readHour_113 (by decide) (by omega) (fun hby26 => ?_) (fun hby26 => ?_)
      · refine z_iload_n C 3 dX7_readHour_121 rfl ?_
        have hgy27 := (hfvy14 (883 + 3) (by omega)).trans ((f3 _ (by omega)).trans hpoy5.2.2.2.1)
        refine z_iast C (by omega) hay8 hgy27 ((hooy5).toNat) (by omega) (by omega) (by decide) dX7_readHour_122 (fun gy28 egy29 => ?_)
        have hgy30 := up_s egy29
        refine z_aload_n C 1 dX7_readHour_123 rfl ?_
        have hgy31 := up_n egy29 hgy25 (ne_o (i := 883) (c := 0) (d := 3) rfl)
        refine z_get (v := .ref (ad (883 + 4))) C (by omega) hay4 hgy31 rfl inA_X5 6 (by decide) q_109 rfl rfl dX7_readHour_124 ?_
        refine z_aload_n C 1 dX7_readHour_127 rfl ?_
        refine z_get (v := .int (zI (hooy5))) C (by omega) hay4 hgy31 rfl inA_X5 1 (by decide) q_94 rfl rfl dX7_readHour_128 ?_
        refine z_iload C 4 dX7_readHour_131 rfl ?_
        have hgy32 := (hfvy14 (883 + 4) (by omega)).trans ((f3 _ (by omega)).trans hpoy5.2.2.2.2.1)
        have hgy33 := up_n egy29 hgy32 (ne_o (i := 883) (c := 4) (d := 3) rfl)
        refine z_iast C (by omega) hay9 hgy33 ((hooy5).toNat) (by omega) (by omega) (by decide) dX7_readHour_133 (fun gy34 egy35 => ?_)
        have hgy36 := up_s egy35
        refine z_aload_n C 1 dX7_readHour_134 rfl ?_
        have hgy37 := up_n egy35 hgy31 (ne_o (i := 883) (c := 0) (d := 4) rfl)
        refine z_get (v := .ref (ad (883 + 5))) C (by omega) hay4 hgy37 rfl inA_X5 7 (by decide) q_112 rfl rfl dX7_readHour_135 ?_
        refine z_aload_n C 1 dX7_readHour_138 rfl ?_
        refine z_get (v := .int (zI (hooy5))) C (by omega) hay4 hgy37 rfl inA_X5 1 (by decide) q_94 rfl rfl dX7_readHour_139 ?_
        refine z_iload C 5 dX7_readHour_142 rfl ?_
        have hgy38 := (hfvy14 (883 + 5) (by omega)).trans ((f3 _ (by omega)).trans hpoy5.2.2.2.2.2.1)
        have hgy39 := up_n egy29 hgy38 (ne_o (i := 883) (c := 5) (d := 3) rfl)
        have hgy40 := up_n egy35 hgy39 (ne_o (i := 883) (c := 5) (d := 4) rfl)
        refine z_iast C (by omega) hay10 hgy40 ((hooy5).toNat) (by omega) (by omega) (by decide) dX7_readHour_144 (fun gy41 egy42 => ?_)
        have hgy43 := up_s egy42
        refine z_aload_n C 1 dX7_readHour_145 rfl ?_
        refine z_dup C dX7_readHour_146 rfl ?_
        have hgy44 := up_n egy42 hgy37 (ne_o (i := 883) (c := 0) (d := 5) rfl)
        refine z_get (v := .int (zI (hooy5))) C (by omega) hay4 hgy44 rfl inA_X5 1 (by decide) q_94 rfl rfl dX7_readHour_147 ?_
        refine z_iconst (z := 1) C dX7_readHour_150 rfl ?_
        refine z_iadd C dX7_readHour_151 ?_
        refine z_put (fs' := [.int (zI (sloy5)), .int (zI (hooy5 + 1)), .int (zI (uaoy5)), .ref (ad (883 + 1)), .ref (ad (883 + 2)), .ref (ad (883 + 3)), .ref (ad (883 + 4)), .ref (ad (883 + 5)), .ref (ad (883 + 6))]) C (by omega) hay4 hgy44 tyX5 tyX5_ok nmX5 rfl inA_X5 1 (by decide) q_94 rfl rfl rfl rfl (Nat.le_of_ble_eq_true rfl) rfl dX7_readHour_152 (fun gy45 egy46 => ?_)
        have hgy47 := up_s egy46
        have hgy49 := up_n egy29 hcdy15 (by omega)
        have hgy50 := up_n egy35 hgy49 (by omega)
        have hgy51 := up_n egy42 hgy50 (by omega)
        have hgy52 := up_n egy46 hgy51 (by decide)
        have hgy53 := up_n egy29 hddy15 (by omega)
        have hgy54 := up_n egy35 hgy53 (by omega)
        have hgy55 := up_n egy42 hgy54 (by omega)
        have hgy56 := up_n egy46 hgy55 (by decide)
        have hruny48 : okRun cs ad gy45 (covy14) tp := ⟨_, _, _, _, _, _, _, by omega, by omega, hgy52, hgy56⟩
        have hgy57 := (hfvy14 (883 + 1) (by omega)).trans ((f3 _ (by omega)).trans hpoy5.2.1)
        have hgy58 := up_n egy29 hgy57 (ne_o (i := 883) (c := 1) (d := 3) rfl)
        have hgy59 := up_n egy35 hgy58 (ne_o (i := 883) (c := 1) (d := 4) rfl)
        have hgy60 := up_n egy42 hgy59 (ne_o (i := 883) (c := 1) (d := 5) rfl)
        have hgy61 := up_n egy46 hgy60 (ne_o (i := 883) (c := 1) (d := 0) rfl)
        have hgy62 := (hfvy14 (883 + 2) (by omega)).trans ((f3 _ (by omega)).trans hpoy5.2.2.1)
        have hgy63 := up_n egy29 hgy62 (ne_o (i := 883) (c := 2) (d := 3) rfl)
        have hgy64 := up_n egy35 hgy63 (ne_o (i := 883) (c := 2) (d := 4) rfl)
        have hgy65 := up_n egy42 hgy64 (ne_o (i := 883) (c := 2) (d := 5) rfl)
        have hgy66 := up_n egy46 hgy65 (ne_o (i := 883) (c := 2) (d := 0) rfl)
        have hgy67 := up_n egy35 hgy30 (ne_o (i := 883) (c := 3) (d := 4) rfl)
        have hgy68 := up_n egy42 hgy67 (ne_o (i := 883) (c := 3) (d := 5) rfl)
        have hgy69 := up_n egy46 hgy68 (ne_o (i := 883) (c := 3) (d := 0) rfl)
        have hgy70 := up_n egy42 hgy36 (ne_o (i := 883) (c := 4) (d := 5) rfl)
        have hgy71 := up_n egy46 hgy70 (ne_o (i := 883) (c := 4) (d := 0) rfl)
        have hgy72 := up_n egy46 hgy43 (ne_o (i := 883) (c := 5) (d := 0) rfl)
        have hgy73 := (hfvy14 (883 + 6) (by omega)).trans ((f3 _ (by omega)).trans hpoy5.2.2.2.2.2.2)
        have hgy74 := up_n egy29 hgy73 (ne_o (i := 883) (c := 6) (d := 3) rfl)
        have hgy75 := up_n egy35 hgy74 (ne_o (i := 883) (c := 6) (d := 4) rfl)
        have hgy76 := up_n egy42 hgy75 (ne_o (i := 883) (c := 6) (d := 5) rfl)
        have hgy77 := up_n egy46 hgy76 (ne_o (i := 883) (c := 6) (d := 0) rfl)
        exact z_vret C hr hlk dX7_readHour_155 (by decide) (by decide) ⟨rfl, rfl, rfl, ⟨_, hruny48, by omega⟩, ⟨_, _, _, _, _, _, _, _, _, by omega, by omega, ⟨hgy47, hgy61, hgy66, hgy69, hgy71, hgy72, hgy77⟩⟩, fun j j1 j2 => by rw [egy46, va_up_ne _ _ (by omega)]; rw [egy42, va_up_ne _ _ (by omega)]; rw [egy35, va_up_ne _ _ (by omega)]; rw [egy29, va_up_ne _ _ (by omega)]; rw [hfvy14 _ (by omega)]; exact f3 j j1⟩
      · refine z_iload_n C 3 dX7_readHour_116 rfl ?_
        refine z_ineg C dX7_readHour_117 ?_
        refine z_goto (tgt := 122) C dX7_readHour_118 (by decide) ?_
        have hgy78 := (hfvy14 (883 + 3) (by omega)).trans ((f3 _ (by omega)).trans hpoy5.2.2.2.1)
        refine z_iast C (by omega) hay8 hgy78 ((hooy5).toNat) (by omega) (by omega) (by decide) dX7_readHour_122 (fun gy79 egy80 => ?_)
        have hgy81 := up_s egy80
        refine z_aload_n C 1 dX7_readHour_123 rfl ?_
        have hgy82 := up_n egy80 hgy25 (ne_o (i := 883) (c := 0) (d := 3) rfl)
        refine z_get (v := .ref (ad (883 + 4))) C (by omega) hay4 hgy82 rfl inA_X5 6 (by decide) q_109 rfl rfl dX7_readHour_124 ?_
        refine z_aload_n C 1 dX7_readHour_127 rfl ?_
        refine z_get (v := .int (zI (hooy5))) C (by omega) hay4 hgy82 rfl inA_X5 1 (by decide) q_94 rfl rfl dX7_readHour_128 ?_
        refine z_iload C 4 dX7_readHour_131 rfl ?_
        have hgy83 := (hfvy14 (883 + 4) (by omega)).trans ((f3 _ (by omega)).trans hpoy5.2.2.2.2.1)
        have hgy84 := up_n egy80 hgy83 (ne_o (i := 883) (c := 4) (d := 3) rfl)
        refine z_iast C (by omega) hay9 hgy84 ((hooy5).toNat) (by omega) (by omega) (by decide) dX7_readHour_133 (fun gy85 egy86 => ?_)
        have hgy87 := up_s egy86
        refine z_aload_n C 1 dX7_readHour_134 rfl ?_
        have hgy88 := up_n egy86 hgy82 (ne_o (i := 883) (c := 0) (d := 4) rfl)
        refine z_get (v := .ref (ad (883 + 5))) C (by omega) hay4 hgy88 rfl inA_X5 7 (by decide) q_112 rfl rfl dX7_readHour_135 ?_
        refine z_aload_n C 1 dX7_readHour_138 rfl ?_
        refine z_get (v := .int (zI (hooy5))) C (by omega) hay4 hgy88 rfl inA_X5 1 (by decide) q_94 rfl rfl dX7_readHour_139 ?_
        refine z_iload C 5 dX7_readHour_142 rfl ?_
        have hgy89 := (hfvy14 (883 + 5) (by omega)).trans ((f3 _ (by omega)).trans hpoy5.2.2.2.2.2.1)
        have hgy90 := up_n egy80 hgy89 (ne_o (i := 883) (c := 5) (d := 3) rfl)
        have hgy91 := up_n egy86 hgy90 (ne_o (i := 883) (c := 5) (d := 4) rfl)
        refine z_iast C (by omega) hay10 hgy91 ((hooy5).toNat) (by omega) (by omega) (by decide) dX7_readHour_144 (fun gy92 egy93 => ?_)
        have hgy94 := up_s egy93
        refine z_aload_n C 1 dX7_readHour_145 rfl ?_
        refine z_dup C dX7_readHour_146 rfl ?_
        have hgy95 := up_n egy93 hgy88 (ne_o (i := 883) (c := 0) (d := 5) rfl)
        refine z_get (v := .int (zI (hooy5))) C (by omega) hay4 hgy95 rfl inA_X5 1 (by decide) q_94 rfl rfl dX7_readHour_147 ?_
        refine z_iconst (z := 1) C dX7_readHour_150 rfl ?_
        refine z_iadd C dX7_readHour_151 ?_
        refine z_put (fs' := [.int (zI (sloy5)), .int (zI (hooy5 + 1)), .int (zI (uaoy5)), .ref (ad (883 + 1)), .ref (ad (883 + 2)), .ref (ad (883 + 3)), .ref (ad (883 + 4)), .ref (ad (883 + 5)), .ref (ad (883 + 6))]) C (by omega) hay4 hgy95 tyX5 tyX5_ok nmX5 rfl inA_X5 1 (by decide) q_94 rfl rfl rfl rfl (Nat.le_of_ble_eq_true rfl) rfl dX7_readHour_152 (fun gy96 egy97 => ?_)
        have hgy98 := up_s egy97
        have hgy100 := up_n egy80 hcdy15 (by omega)
        have hgy101 := up_n egy86 hgy100 (by omega)
        have hgy102 := up_n egy93 hgy101 (by omega)
        have hgy103 := up_n egy97 hgy102 (by decide)
        have hgy104 := up_n egy80 hddy15 (by omega)
        have hgy105 := up_n egy86 hgy104 (by omega)
        have hgy106 := up_n egy93 hgy105 (by omega)
        have hgy107 := up_n egy97 hgy106 (by decide)
        have hruny99 : okRun cs ad gy96 (covy14) tp := ⟨_, _, _, _, _, _, _, by omega, by omega, hgy103, hgy107⟩
        have hgy108 := (hfvy14 (883 + 1) (by omega)).trans ((f3 _ (by omega)).trans hpoy5.2.1)
        have hgy109 := up_n egy80 hgy108 (ne_o (i := 883) (c := 1) (d := 3) rfl)
        have hgy110 := up_n egy86 hgy109 (ne_o (i := 883) (c := 1) (d := 4) rfl)
        have hgy111 := up_n egy93 hgy110 (ne_o (i := 883) (c := 1) (d := 5) rfl)
        have hgy112 := up_n egy97 hgy111 (ne_o (i := 883) (c := 1) (d := 0) rfl)
        have hgy113 := (hfvy14 (883 + 2) (by omega)).trans ((f3 _ (by omega)).trans hpoy5.2.2.1)
        have hgy114 := up_n egy80 hgy113 (ne_o (i := 883) (c := 2) (d := 3) rfl)
        have hgy115 := up_n egy86 hgy114 (ne_o (i := 883) (c := 2) (d := 4) rfl)
        have hgy116 := up_n egy93 hgy115 (ne_o (i := 883) (c := 2) (d := 5) rfl)
        have hgy117 := up_n egy97 hgy116 (ne_o (i := 883) (c := 2) (d := 0) rfl)
        have hgy118 := up_n egy86 hgy81 (ne_o (i := 883) (c := 3) (d := 4) rfl)
        have hgy119 := up_n egy93 hgy118 (ne_o (i := 883) (c := 3) (d := 5) rfl)
        have hgy120 := up_n egy97 hgy119 (ne_o (i := 883) (c := 3) (d := 0) rfl)
        have hgy121 := up_n egy93 hgy87 (ne_o (i := 883) (c := 4) (d := 5) rfl)
        have hgy122 := up_n egy97 hgy121 (ne_o (i := 883) (c := 4) (d := 0) rfl)
        have hgy123 := up_n egy97 hgy94 (ne_o (i := 883) (c := 5) (d := 0) rfl)
        have hgy124 := (hfvy14 (883 + 6) (by omega)).trans ((f3 _ (by omega)).trans hpoy5.2.2.2.2.2.2)
        have hgy125 := up_n egy80 hgy124 (ne_o (i := 883) (c := 6) (d := 3) rfl)
        have hgy126 := up_n egy86 hgy125 (ne_o (i := 883) (c := 6) (d := 4) rfl)
        have hgy127 := up_n egy93 hgy126 (ne_o (i := 883) (c := 6) (d := 5) rfl)
        have hgy128 := up_n egy97 hgy127 (ne_o (i := 883) (c := 6) (d := 0) rfl)
        exact z_vret C hr hlk dX7_readHour_155 (by decide) (by decide) ⟨rfl, rfl, rfl, ⟨_, hruny99, by omega⟩, ⟨_, _, _, _, _, _, _, _, _, by omega, by omega, ⟨hgy98, hgy112, hgy117, hgy120, hgy122, hgy123, hgy128⟩⟩, fun j j1 j2 => by rw [egy97, va_up_ne _ _ (by omega)]; rw [egy93, va_up_ne _ _ (by omega)]; rw [egy86, va_up_ne _ _ (by omega)]; rw [egy80, va_up_ne _ _ (by omega)]; rw [hfvy14 _ (by omega)]; exact f3 j j1⟩
  have s62 : ∀ (v2 : Int) (v3 : Int) (c1 : Int) (g1 : Nat → va_E), okRun cs ad g1 c1 tp → co ≤ c1 → (∀ j, j ≠ 2 → g1 j = g j) → (1 ≤ c1 ∨ hooy5 < 24) → (0 ≤ v2 ∧ v2 ≤ 1) → (0 ≤ v3 ∧ v3 ≤ 300) → zV p l e ({ frames := 7, cells := 0, slots := 0, locals := 420 } : Room) s m ([.ref (ad 2), .ref (ad 883)] : List Value).toArray below meth c (MQ below (zPost D A (rV0 N ad fun g' => (∃ co' : Int, okRun cs ad g' co' tp ∧ co ≤ co') ∧ okPlan cs ad g' 883 ∧ ∀ j, j ≠ 2 → (j < 883 ∨ 890 ≤ j) → g' j = g j)) ([.ref (ad 2), .ref (ad 883)] : List Value).toArray s ({ frames := 7, cells := 0, slots := 0, locals := 420 } : Room).cells ({ frames := 7, cells := 0, slots := 0, locals := 420 } : Room).slots A) D A 6 (N) ad g1 (0) (0) 62 [(0, .ref (ad 2)), (1, .ref (ad 883)), (2, .int (zI (v2))), (3, .int (zI (v3)))] [] := by
    intro v2 v3 c1 g1 f1 f2 f3 f4 hv2 hv3
    obtain ⟨pldy129, endy129, tydy129, a9dy129, bedy129, tkdy129, tddy129, hAdy129, hTdy129, hcdy129, hddy129⟩ := id f1
    refine z_aload_n C 0 dX7_readHour_62 rfl ?_
    have hruny130 : okRun cs ad g1 (c1) tp := ⟨_, _, _, _, _, _, _, by omega, by omega, hcdy129, hddy129⟩
    refine z_cV (As := []) (rest := []) (ci := 9) C (c_X7_readFall l D A cs tt N ad _ (by omega) _ tp hruny130 ) (by omega) hay2 hcdy129 rfl rfl mv_yX7_readFall q_848 hd_yX7_readFall (by decide) (Nat.le_of_ble_eq_true rfl) (by decide) dX7_readHour_63 rfl (kI0 fun vy131 gvy131 hvy131 => ?_)
    obtain ⟨hrvy131, ⟨covy131, hkvy131, hnvy131⟩, hfvy131⟩ := hvy131
    obtain ⟨pldy132, endy132, tydy132, a9dy132, bedy132, tkdy132, tddy132, hAdy132, hTdy132, hcdy132, hddy132⟩ := id hkvy131
    refine z_istore (lv' := [(4, .int (zI (vy131))), (0, .ref (ad 2)), (1, .ref (ad 883)), (2, .int (zI (v2))), (3, .int (zI (v3)))]) C dX7_readHour_66 (by decide) rfl ?_
    refine z_iload C 0 dX7_readHour_68 rfl ?_
    refine z_iconst (z := 1) C dX7_readHour_70 rfl ?_
    refine z_icmp_eq (tgt := 80) C dX7_readHour_71 (by decide) (by omega) (by omega) (fun hby133 => ?_) (fun hby133 => ?_)
    · refine z_aload_n C 1 dX7_readHour_80 rfl ?_
      refine z_iconst (z := 1) C dX7_readHour_81 rfl ?_
      refine z_bipush (z := 50) C dX7_readHour_82 (by decide) ?_
      have hruny134 : okRun cs ad gvy131 (covy131) tp := ⟨_, _, _, _, _, _, _, by omega, by omega, hcdy132, hddy132⟩
      refine z_cV (As := [.int (zI (1)), .int (zI (50))]) (rest := []) (ci := 9) C (c_X7_number l D A cs tt N ad _ (by omega) _ tp hruny134 (1) (by omega) (50) (by omega)) (by omega) hay2 hcdy132 rfl rfl mv_yX7_number q_817 hd_yX7_number (by decide) (Nat.le_of_ble_eq_true rfl) (by decide) dX7_readHour_84 rfl (kI0 fun vy135 gvy135 hvy135 => ?_)
      obtain ⟨hrvy135, ⟨covy135, hkvy135, hnvy135⟩, hfvy135⟩ := hvy135
      obtain ⟨pldy136, endy136, tydy136, a9dy136, bedy136, tkdy136, tddy136, hAdy136, hTdy136, hcdy136, hddy136⟩ := id hkvy135
      refine z_goto (tgt := 91) C dX7_readHour_87 (by decide) ?_
      refine z_istore (lv' := [(5, .int (zI (vy135))), (4, .int (zI (vy131))), (0, .ref (ad 2)), (1, .ref (ad 883)), (2, .int (zI (v2))), (3, .int (zI (v3)))]) C dX7_readHour_91 (by decide) rfl ?_
      have hruny137 : okRun cs ad gvy135 (covy135) tp := ⟨_, _, _, _, _, _, _, by omega, by omega, hcdy136, hddy136⟩
      refine z_lv (lv' := [(0, .ref (ad 2)), (1, .ref (ad 883)), (2, .int (zI (v2))), (3, .int (zI (v3))), (4, .int (zI (vy131))), (5, .int (zI (vy135)))]) [2, 3, 4, 5, 1, 0] rfl ?_
      exact s93 (v2) (v3) (vy131) (vy135) (covy135) gvy135 hruny137 (by omega) (fun j j1 => by rw [hfvy135 _ (by omega)]; rw [hfvy131 _ (by omega)]; exact f3 j j1) (by omega) (by omega) (by omega) (by omega) (by omega)
    · refine z_iload C 0 dX7_readHour_74 rfl ?_
      refine z_iconst (z := 2) C dX7_readHour_76 rfl ?_
      refine z_icmp_ne (tgt := 90) C dX7_readHour_77 (by decide) (by omega) (by omega) (fun hby138 => ?_) (fun hby138 => ?_)
      · refine z_iconst (z := 0) C dX7_readHour_90 rfl ?_
        refine z_istore (lv' := [(5, .int (zI (0))), (4, .int (zI (vy131))), (0, .ref (ad 2)), (1, .ref (ad 883)), (2, .int (zI (v2))), (3, .int (zI (v3)))]) C dX7_readHour_91 (by decide) rfl ?_
        have hruny139 : okRun cs ad gvy131 (covy131) tp := ⟨_, _, _, _, _, _, _, by omega, by omega, hcdy132, hddy132⟩
        refine z_lv (lv' := [(0, .ref (ad 2)), (1, .ref (ad 883)), (2, .int (zI (v2))), (3, .int (zI (v3))), (4, .int (zI (vy131))), (5, .int (zI (0)))]) [2, 3, 4, 5, 1, 0] rfl ?_
        exact s93 (v2) (v3) (vy131) (0) (covy131) gvy131 hruny139 (by omega) (fun j j1 => by rw [hfvy131 _ (by omega)]; exact f3 j j1) (by omega) (by omega) (by omega) (by omega) (by omega)
      · refine z_aload_n C 1 dX7_readHour_80 rfl ?_
        refine z_iconst (z := 1) C dX7_readHour_81 rfl ?_
        refine z_bipush (z := 50) C dX7_readHour_82 (by decide) ?_
        have hruny140 : okRun cs ad gvy131 (covy131) tp := ⟨_, _, _, _, _, _, _, by omega, by omega, hcdy132, hddy132⟩
        refine z_cV (As := [.int (zI (1)), .int (zI (50))]) (rest := []) (ci := 9) C (c_X7_number l D A cs tt N ad _ (by omega) _ tp hruny140 (1) (by omega) (50) (by omega)) (by omega) hay2 hcdy132 rfl rfl mv_yX7_number q_817 hd_yX7_number (by decide) (Nat.le_of_ble_eq_true rfl) (by decide) dX7_readHour_84 rfl (kI0 fun vy141 gvy141 hvy141 => ?_)
        obtain ⟨hrvy141, ⟨covy141, hkvy141, hnvy141⟩, hfvy141⟩ := hvy141
        obtain ⟨pldy142, endy142, tydy142, a9dy142, bedy142, tkdy142, tddy142, hAdy142, hTdy142, hcdy142, hddy142⟩ := id hkvy141
        refine z_goto (tgt := 91) C dX7_readHour_87 (by decide) ?_
        refine z_istore (lv' := [(5, .int (zI (vy141))), (4, .int (zI (vy131))), (0, .ref (ad 2)), (1, .ref (ad 883)), (2, .int (zI (v2))), (3, .int (zI (v3)))]) C dX7_readHour_91 (by decide) rfl ?_
        have hruny143 : okRun cs ad gvy141 (covy141) tp := ⟨_, _, _, _, _, _, _, by omega, by omega, hcdy142, hddy142⟩
        refine z_lv (lv' := [(0, .ref (ad 2)), (1, .ref (ad 883)), (2, .int (zI (v2))), (3, .int (zI (v3))), (4, .int (zI (vy131))), (5, .int (zI (vy141)))]) [2, 3, 4, 5, 1, 0] rfl ?_
        exact s93 (v2) (v3) (vy131) (vy141) (covy141) gvy141 hruny143 (by omega) (fun j j1 => by rw [hfvy141 _ (by omega)]; rw [hfvy131 _ (by omega)]; exact f3 j j1) (by omega) (by omega) (by omega) (by omega) (by omega)
  have s44 : ∀ (v2 : Int) (c1 : Int) (g1 : Nat → va_E), okRun cs ad g1 c1 tp → co ≤ c1 → (∀ j, j ≠ 2 → g1 j = g j) → (1 ≤ c1 ∨ hooy5 < 24) → (0 ≤ v2 ∧ v2 ≤ 1) → zV p l e ({ frames := 7, cells := 0, slots := 0, locals := 420 } : Room) s m ([.ref (ad 2), .ref (ad 883)] : List Value).toArray below meth c (MQ below (zPost D A (rV0 N ad fun g' => (∃ co' : Int, okRun cs ad g' co' tp ∧ co ≤ co') ∧ okPlan cs ad g' 883 ∧ ∀ j, j ≠ 2 → (j < 883 ∨ 890 ≤ j) → g' j = g j)) ([.ref (ad 2), .ref (ad 883)] : List Value).toArray s ({ frames := 7, cells := 0, slots := 0, locals := 420 } : Room).cells ({ frames := 7, cells := 0, slots := 0, locals := 420 } : Room).slots A) D A 6 (N) ad g1 (0) (0) 44 [(0, .ref (ad 2)), (1, .ref (ad 883)), (2, .int (zI (v2)))] [] := by
    intro v2 c1 g1 f1 f2 f3 f4 hv2
    obtain ⟨pldy144, endy144, tydy144, a9dy144, bedy144, tkdy144, tddy144, hAdy144, hTdy144, hcdy144, hddy144⟩ := id f1
    refine z_aload_n C 0 dX7_readHour_44 rfl ?_
    refine z_iconst (z := 0) C dX7_readHour_45 rfl ?_
    refine z_iload_n C 2 dX7_readHour_46 rfl ?_
    refine z_if_eq (tgt := 56) C dX7_readHour_47 (by decide) (by omega) (fun hby145 => ?_) (fun hby145 => ?_)
    · refine z_bipush (z := 100) C dX7_readHour_56 (by decide) ?_
      have hruny146 : okRun cs ad g1 (c1) tp := ⟨_, _, _, _, _, _, _, by omega, by omega, hcdy144, hddy144⟩
      refine z_cV (As := [.int (zI (0)), .int (zI (100))]) (rest := []) (ci := 9) C (c_X7_number l D A cs tt N ad _ (by omega) _ tp hruny146 (0) (by omega) (100) (by omega)) (by omega) hay2 hcdy144 rfl rfl mv_yX7_number q_817 hd_yX7_number (by decide) (Nat.le_of_ble_eq_true rfl) (by decide) dX7_readHour_58 rfl (kI0 fun vy147 gvy147 hvy147 => ?_)
      obtain ⟨hrvy147, ⟨covy147, hkvy147, hnvy147⟩, hfvy147⟩ := hvy147
      obtain ⟨pldy148, endy148, tydy148, a9dy148, bedy148, tkdy148, tddy148, hAdy148, hTdy148, hcdy148, hddy148⟩ := id hkvy147
      refine z_istore_n (lv' := [(3, .int (zI (vy147))), (0, .ref (ad 2)), (1, .ref (ad 883)), (2, .int (zI (v2)))]) C dX7_readHour_61 rfl (by decide) rfl ?_
      have hruny149 : okRun cs ad gvy147 (covy147) tp := ⟨_, _, _, _, _, _, _, by omega, by omega, hcdy148, hddy148⟩
      refine z_lv (lv' := [(0, .ref (ad 2)), (1, .ref (ad 883)), (2, .int (zI (v2))), (3, .int (zI (vy147)))]) [1, 2, 3, 0] rfl ?_
      exact s62 (v2) (vy147) (covy147) gvy147 hruny149 (by omega) (fun j j1 => by rw [hfvy147 _ (by omega)]; exact f3 j j1) (by omega) (by omega) (by omega)
    · refine z_sipush (z := 300) C dX7_readHour_50 (by decide) ?_
      refine z_goto (tgt := 58) C dX7_readHour_53 (by decide) ?_
      have hruny150 : okRun cs ad g1 (c1) tp := ⟨_, _, _, _, _, _, _, by omega, by omega, hcdy144, hddy144⟩
      refine z_cV (As := [.int (zI (0)), .int (zI (300))]) (rest := []) (ci := 9) C (c_X7_number l D A cs tt N ad _ (by omega) _ tp hruny150 (0) (by omega) (300) (by omega)) (by omega) hay2 hcdy144 rfl rfl mv_yX7_number q_817 hd_yX7_number (by decide) (Nat.le_of_ble_eq_true rfl) (by decide) dX7_readHour_58 rfl (kI0 fun vy151 gvy151 hvy151 => ?_)
      obtain ⟨hrvy151, ⟨covy151, hkvy151, hnvy151⟩, hfvy151⟩ := hvy151
      obtain ⟨pldy152, endy152, tydy152, a9dy152, bedy152, tkdy152, tddy152, hAdy152, hTdy152, hcdy152, hddy152⟩ := id hkvy151
      refine z_istore_n (lv' := [(3, .int (zI (vy151))), (0, .ref (ad 2)), (1, .ref (ad 883)), (2, .int (zI (v2)))]) C dX7_readHour_61 rfl (by decide) rfl ?_
      have hruny153 : okRun cs ad gvy151 (covy151) tp := ⟨_, _, _, _, _, _, _, by omega, by omega, hcdy152, hddy152⟩
      refine z_lv (lv' := [(0, .ref (ad 2)), (1, .ref (ad 883)), (2, .int (zI (v2))), (3, .int (zI (vy151)))]) [1, 2, 3, 0] rfl ?_
      exact s62 (v2) (vy151) (covy151) gvy151 hruny153 (by omega) (fun j j1 => by rw [hfvy151 _ (by omega)]; exact f3 j j1) (by omega) (by omega) (by omega)
  have s18 : ∀  (c1 : Int) (g1 : Nat → va_E), okRun cs ad g1 c1 tp → co ≤ c1 → (∀ j, j ≠ 2 → g1 j = g j) → (1 ≤ c1 ∨ hooy5 < 24) → zV p l e ({ frames := 7, cells := 0, slots := 0, locals := 420 } : Room) s m ([.ref (ad 2), .ref (ad 883)] : List Value).toArray below meth c (MQ below (zPost D A (rV0 N ad fun g' => (∃ co' : Int, okRun cs ad g' co' tp ∧ co ≤ co') ∧ okPlan cs ad g' 883 ∧ ∀ j, j ≠ 2 → (j < 883 ∨ 890 ≤ j) → g' j = g j)) ([.ref (ad 2), .ref (ad 883)] : List Value).toArray s ({ frames := 7, cells := 0, slots := 0, locals := 420 } : Room).cells ({ frames := 7, cells := 0, slots := 0, locals := 420 } : Room).slots A) D A 6 (N) ad g1 (0) (0) 18 [(0, .ref (ad 2)), (1, .ref (ad 883))] [] := by
    intro  c1 g1 f1 f2 f3 f4 
    obtain ⟨pldy154, endy154, tydy154, a9dy154, bedy154, tkdy154, tddy154, hAdy154, hTdy154, hcdy154, hddy154⟩ := id f1
    refine z_aload_n C 0 dX7_readHour_18 rfl ?_
    have hruny155 : okRun cs ad g1 (c1) tp := ⟨_, _, _, _, _, _, _, by omega, by omega, hcdy154, hddy154⟩
    refine z_cV (As := []) (rest := []) (ci := 9) C (c_X7_take l D A cs tt N ad _ (by omega) _ tp hruny155) (by omega) hay2 hcdy154 rfl rfl mv_yX7_take q_813 hd_yX7_take (by decide) (Nat.le_of_ble_eq_true rfl) (by decide) dX7_readHour_19 rfl (kV0 fun gvy156 hvy156 => ?_)
    obtain ⟨hkvy156, hfvy156⟩ := hvy156
    obtain ⟨pldy157, endy157, tydy157, a9dy157, bedy157, tkdy157, tddy157, hAdy157, hTdy157, hcdy157, hddy157⟩ := id hkvy156
    refine z_aload_n C 0 dX7_readHour_22 rfl ?_
    refine z_get (v := .int (zI (tydy157))) C (by omega) hay2 hcdy157 rfl inA_X7 4 (by decide) q_48 rfl rfl dX7_readHour_23 ?_
    refine z_iconst (z := 4) C dX7_readHour_26 rfl ?_
    refine z_icmp_ne (tgt := 34) C dX7_readHour_27 (by decide) (by omega) (by omega) (fun hby158 => ?_) (fun hby158 => ?_)
    · refine z_iconst (z := 0) C dX7_readHour_34 rfl ?_
      refine z_istore_n (lv' := [(2, .int (zI (0))), (0, .ref (ad 2)), (1, .ref (ad 883))]) C dX7_readHour_35 rfl (by decide) rfl ?_
      refine z_iload_n C 0 dX7_readHour_36 rfl ?_
      refine z_if_eq (tgt := 44) C dX7_readHour_37 (by decide) (by omega) (fun _ => ?_) (fun h => absurd h (by omega))
      have hruny159 : okRun cs ad gvy156 (c1) tp := ⟨_, _, _, _, _, _, _, by omega, by omega, hcdy157, hddy157⟩
      refine z_lv (lv' := [(0, .ref (ad 2)), (1, .ref (ad 883)), (2, .int (zI (0)))]) [1, 2, 0] rfl ?_
      exact s44 (0) (c1) gvy156 hruny159 (by omega) (fun j j1 => by rw [hfvy156 _ (by omega)]; exact f3 j j1) (by omega) (by omega)
    · refine z_iconst (z := 1) C dX7_readHour_30 rfl ?_
      refine z_goto (tgt := 35) C dX7_readHour_31 (by decide) ?_
      refine z_istore_n (lv' := [(2, .int (zI (1))), (0, .ref (ad 2)), (1, .ref (ad 883))]) C dX7_readHour_35 rfl (by decide) rfl ?_
      refine z_iload_n C 0 dX7_readHour_36 rfl ?_
      refine z_if_eq (tgt := 44) C dX7_readHour_37 (by decide) (by omega) (fun h => absurd h (by omega)) (fun _ => ?_)
      refine z_aload_n C 1 dX7_readHour_40 rfl ?_
      have hruny160 : okRun cs ad gvy156 (c1) tp := ⟨_, _, _, _, _, _, _, by omega, by omega, hcdy157, hddy157⟩
      refine z_cV (As := []) (rest := []) (ci := 9) C (c_X7_take l D A cs tt N ad _ (by omega) _ tp hruny160) (by omega) hay2 hcdy157 rfl rfl mv_yX7_take q_813 hd_yX7_take (by decide) (Nat.le_of_ble_eq_true rfl) (by decide) dX7_readHour_41 rfl (kV0 fun gvy161 hvy161 => ?_)
      obtain ⟨hkvy161, hfvy161⟩ := hvy161
      obtain ⟨pldy162, endy162, tydy162, a9dy162, bedy162, tkdy162, tddy162, hAdy162, hTdy162, hcdy162, hddy162⟩ := id hkvy161
      have hruny163 : okRun cs ad gvy161 (c1) tp := ⟨_, _, _, _, _, _, _, by omega, by omega, hcdy162, hddy162⟩
      refine z_lv (lv' := [(0, .ref (ad 2)), (1, .ref (ad 883)), (2, .int (zI (1)))]) [1, 2, 0] rfl ?_
      exact s44 (1) (c1) gvy161 hruny163 (by omega) (fun j j1 => by rw [hfvy161 _ (by omega)]; rw [hfvy156 _ (by omega)]; exact f3 j j1) (by omega) (by omega)
  refine z_aload_n C 1 dX7_readHour_0 rfl ?_
  refine z_get (v := .int (zI (hooy5))) C (lt_K hN (rfl : Nat.blt (883) 952 = true)) hay4 hpoy5.1 rfl inA_X5 1 (by decide) q_94 rfl rfl dX7_readHour_1 ?_
  refine z_bipush (z := 24) C dX7_readHour_4 (by decide) ?_
  refine z_icmp_lt (tgt := 18) C dX7_readHour_6 (by decide) (by omega) (by omega) (fun hby164 => ?_) (fun hby164 => ?_)
  · have hruny165 : okRun cs ad g (co) tp := ⟨_, _, _, _, _, _, _, by omega, by omega, hcdy1, hddy1⟩
    refine z_lv (lv' := [(0, .ref (ad 2)), (1, .ref (ad 883))]) [0, 1] rfl ?_
    exact s18  (co) g hruny165 (by omega) (fun j j1 => by rfl) (by omega)
  · refine z_aload_n C 0 dX7_readHour_9 rfl ?_
    refine z_iconst (z := 2) C dX7_readHour_10 rfl ?_
    refine z_aload_n C 0 dX7_readHour_11 rfl ?_
    refine z_get (v := .int (zI (a9dy1))) C (lt_K hN (rfl : Nat.blt (2) 952 = true)) hay2 hcdy1 rfl inA_X7 5 (by decide) q_49 rfl rfl dX7_readHour_12 ?_
    have hruny166 : okRun cs ad g (co) tp := ⟨_, _, _, _, _, _, _, by omega, by omega, hcdy1, hddy1⟩
    refine z_cV (As := [.int (zI (2)), .int (zI (a9dy1))]) (rest := []) (ci := 9) C (c_X7_fail l D A cs tt N ad _ (by omega) _ tp hruny166 (2) (by omega) (a9dy1) (by omega)) (lt_K hN (rfl : Nat.blt (2) 952 = true)) hay2 hcdy1 rfl rfl mv_yX7_fail q_809 hd_yX7_fail (by decide) (Nat.le_of_ble_eq_true rfl) (by decide) dX7_readHour_15 rfl (kV0 fun gvy167 hvy167 => ?_)
    obtain ⟨⟨covy167, hkvy167, hnvy167⟩, hfvy167⟩ := hvy167
    obtain ⟨pldy168, endy168, tydy168, a9dy168, bedy168, tkdy168, tddy168, hAdy168, hTdy168, hcdy168, hddy168⟩ := id hkvy167
    have hruny169 : okRun cs ad gvy167 (covy167) tp := ⟨_, _, _, _, _, _, _, by omega, by omega, hcdy168, hddy168⟩
    refine z_lv (lv' := [(0, .ref (ad 2)), (1, .ref (ad 883))]) [0, 1] rfl ?_
    exact s18  (covy167) gvy167 hruny169 (by omega) (fun j j1 => by rw [hfvy167 _ (by omega)]) (by omega)

set_option maxRecDepth 100000 in
set_option maxHeartbeats 4000000 in
theorem c_X7_readTable (l : Launch) (D : va_G) (A : Nat → Prop) (cs : Nat → ClassId) (tt : Nat) (N : Nat) (ad : Nat → Nat) (g : Nat → va_E) (hN : 952 ≤ N) (co : Int) (tp : Nat → Int) (hR : okRun cs ad g co tp) (hP9 : okPlan cs ad g 883) (z : Int) (hz : 0 ≤ z ∧ z ≤ 10) (z1 : Int) (hz1 : 0 ≤ z1 ∧ z1 ≤ 1) (z2 : Int) (hz2 : 0 ≤ z2 ∧ z2 ≤ 9999) : zM l yX7_readTable cX7_readTable 7 none ({ frames := 7, cells := 0, slots := 0, locals := 420 } : Room) D A cs tt N ad g [.ref (ad 2), .ref (ad 883), .int (zI (z)), .int (zI (z1)), .int (zI (z2))] (rV0 N ad fun g' => (∃ co' : Int, okRun cs ad g' co' tp ∧ co ≤ co') ∧ okPlan cs ad g' 883 ∧ ∀ j, j ≠ 2 → (j < 883 ∨ 890 ≤ j) → g' j = g j) := by
  obtain ⟨pldy1, endy1, tydy1, a9dy1, bedy1, tkdy1, tddy1, hAdy1, hTdy1, hcdy1, hddy1⟩ := id hR
  have hay2 : zAt ad (2) (ad 2) := rfl
  have hay3 : zAt ad (1) (ad 1) := rfl
  have hay4 : zAt ad (883) (ad 883) := rfl
  obtain ⟨sloy5, hooy5, uaoy5, stoy5, opoy5, aioy5, faoy5, muoy5, tboy5, hsloy5, hhooy5, hpoy5⟩ := id hP9
  have hay6 : zAt ad (883 + 1) (ad (883 + 1)) := rfl
  have hay7 : zAt ad (883 + 2) (ad (883 + 2)) := rfl
  have hay8 : zAt ad (883 + 3) (ad (883 + 3)) := rfl
  have hay9 : zAt ad (883 + 4) (ad (883 + 4)) := rfl
  have hay10 : zAt ad (883 + 5) (ad (883 + 5)) := rfl
  have hay11 : zAt ad (883 + 6) (ad (883 + 6)) := rfl
  refine z_of (by decide) (Nat.le_of_ble_eq_true rfl) ?_
  intro p e s m below meth c C hr hlk hnm
  refine z_lv (lv' := [(0, .ref (ad 2)), (1, .ref (ad 883)), (2, .int (zI (z))), (3, .int (zI (z1))), (4, .int (zI (z2)))]) [0, 1, 2, 3, 4] rfl ?_
  refine z_aload_n C 0 dX7_readTable_0 rfl ?_
  have hruny12 : okRun cs ad g (co) tp := ⟨_, _, _, _, _, _, _, by omega, by omega, hcdy1, hddy1⟩
  refine z_cV (As := []) (rest := []) (ci := 9) C (c_X7_take l D A cs tt N ad _ (by omega) _ tp hruny12) (lt_K hN (rfl : Nat.blt (2) 952 = true)) hay2 hcdy1 rfl rfl mv_yX7_take q_813 hd_yX7_take (by decide) (Nat.le_of_ble_eq_true rfl) (by decide) dX7_readTable_1 rfl (kV0 fun gvy13 hvy13 => ?_)
  obtain ⟨hkvy13, hfvy13⟩ := hvy13
  obtain ⟨pldy14, endy14, tydy14, a9dy14, bedy14, tkdy14, tddy14, hAdy14, hTdy14, hcdy14, hddy14⟩ := id hkvy13
  refine z_iload_n C 2 dX7_readTable_4 rfl ?_
  refine z_aload_n C 0 dX7_readTable_5 rfl ?_
  have hruny15 : okRun cs ad gvy13 (co) tp := ⟨_, _, _, _, _, _, _, by omega, by omega, hcdy14, hddy14⟩
  refine z_cV (As := []) (rest := [.int (zI (z))]) (ci := 9) C (c_X7_kind l D A cs tt N ad _ (by omega) _ tp hruny15 ) (lt_K hN (rfl : Nat.blt (2) 952 = true)) hay2 hcdy14 rfl rfl mv_yX7_kind q_830 hd_yX7_kind (by decide) (Nat.le_of_ble_eq_true rfl) (by decide) dX7_readTable_6 rfl (kI0 fun vy16 gvy16 hvy16 => ?_)
  obtain ⟨hrvy16, ⟨covy16, hkvy16, hnvy16⟩, hfvy16⟩ := hvy16
  obtain ⟨pldy17, endy17, tydy17, a9dy17, bedy17, tkdy17, tddy17, hAdy17, hTdy17, hcdy17, hddy17⟩ := id hkvy16
  refine z_iadd C dX7_readTable_9 ?_
  refine z_istore (lv' := [(5, .int (zI (z + vy16))), (0, .ref (ad 2)), (1, .ref (ad 883)), (2, .int (zI (z))), (3, .int (zI (z1))), (4, .int (zI (z2)))]) C dX7_readTable_10 (by decide) rfl ?_
  refine z_aload_n C 1 dX7_readTable_12 rfl ?_
  refine z_get (v := .int (zI (tddy17))) C (lt_K hN (rfl : Nat.blt (2) 952 = true)) hay2 hcdy17 rfl inA_X7 8 (by decide) q_52 rfl rfl dX7_readTable_13 ?_
  refine z_iload C 0 dX7_readTable_16 rfl ?_
  obtain ⟨xy18, exy19, hxy20⟩ := zI_of (zI (tddy17) >>> (zI (z + vy16) &&& 31))
  refine z_ishr (z := xy18) C dX7_readTable_18 exy19 ?_
  refine z_iconst (z := 1) C dX7_readTable_19 rfl ?_
  obtain ⟨xy21, exy22, hxy23⟩ := zI_and (zI (xy18)) (m := zI 1) 1 (by decide)
  refine z_iand (z := xy21) C dX7_readTable_20 exy22 ?_
  refine z_iconst (z := 1) C dX7_readTable_21 rfl ?_
  refine z_icmp_ne (tgt := 34) C dX7_readTable_22 (by decide) (by omega) (by omega) (fun hby24 => ?_) (fun hby24 => ?_)
  · refine z_aload_n C 1 dX7_readTable_34 rfl ?_
    refine z_iload_n C 4 dX7_readTable_35 rfl ?_
    refine z_iload C 5 dX7_readTable_36 rfl ?_
    have hruny25 : okRun cs ad gvy16 (covy16) tp := ⟨_, _, _, _, _, _, _, by omega, by omega, hcdy17, hddy17⟩
    refine z_cV (As := [.int (zI (z1)), .int (zI (z2))]) (rest := []) (ci := 9) C (c_X7_number l D A cs tt N ad _ (by omega) _ tp hruny25 (z1) (by omega) (z2) (by omega)) (lt_K hN (rfl : Nat.blt (2) 952 = true)) hay2 hcdy17 rfl rfl mv_yX7_number q_817 hd_yX7_number (by decide) (Nat.le_of_ble_eq_true rfl) (by decide) dX7_readTable_38 rfl (kI0 fun vy26 gvy26 hvy26 => ?_)
    obtain ⟨hrvy26, ⟨covy26, hkvy26, hnvy26⟩, hfvy26⟩ := hvy26
    obtain ⟨pldy27, endy27, tydy27, a9dy27, bedy27, tkdy27, tddy27, hAdy27, hTdy27, hcdy27, hddy27⟩ := id hkvy26
    refine z_istore (lv' := [(6, .int (zI (vy26))), (5, .int (zI (z + vy16))), (0, .ref (ad 2)), (1, .ref (ad 883)), (2, .int (zI (z))), (3, .int (zI (z1))), (4, .int (zI (z2)))]) C dX7_readTable_41 (by decide) rfl ?_
    refine z_aload_n C 2 dX7_readTable_43 rfl ?_
    have hruny28 : okRun cs ad gvy26 (covy26) tp := ⟨_, _, _, _, _, _, _, by omega, by omega, hcdy27, hddy27⟩
    refine z_cV (As := []) (rest := []) (ci := 9) C (c_X7_close l D A cs tt N ad _ (by omega) _ tp hruny28 ) (lt_K hN (rfl : Nat.blt (2) 952 = true)) hay2 hcdy27 rfl rfl mv_yX7_close q_821 hd_yX7_close (by decide) (Nat.le_of_ble_eq_true rfl) (by decide) dX7_readTable_44 rfl (kV0 fun gvy29 hvy29 => ?_)
    obtain ⟨⟨covy29, hkvy29, hnvy29⟩, hfvy29⟩ := hvy29
    obtain ⟨pldy30, endy30, tydy30, a9dy30, bedy30, tkdy30, tddy30, hAdy30, hTdy30, hcdy30, hddy30⟩ := id hkvy29
    refine z_aload_n C 2 dX7_readTable_47 rfl ?_
    refine z_get (v := .int (zI (covy29))) C (lt_K hN (rfl : Nat.blt (2) 952 = true)) hay2 hcdy30 rfl inA_X7 1 (by decide) q_45 rfl rfl dX7_readTable_48 ?_
    refine z_if_ne (tgt := 76) C dX7_readTable_51 (by decide) (by omega) (fun hby31 => ?_) (fun hby31 => ?_)
    · have hruny32 : okRun cs ad gvy29 (covy29) tp := ⟨_, _, _, _, _, _, _, by omega, by omega, hcdy30, hddy30⟩
      have hgy33 := (hfvy13 (883) (by decide)).trans hpoy5.1
      have hgy34 := (hfvy16 (883) (by decide)).trans hgy33
      have hgy35 := (hfvy26 (883) (by decide)).trans hgy34
      have hgy36 := (hfvy29 (883) (by decide)).trans hgy35
      have hgy37 := (hfvy13 (883 + 1) (by omega)).trans hpoy5.2.1
      have hgy38 := (hfvy16 (883 + 1) (by omega)).trans hgy37
      have hgy39 := (hfvy26 (883 + 1) (by omega)).trans hgy38
      have hgy40 := (hfvy29 (883 + 1) (by omega)).trans hgy39
      have hgy41 := (hfvy13 (883 + 2) (by omega)).trans hpoy5.2.2.1
      have hgy42 := (hfvy16 (883 + 2) (by omega)).trans hgy41
      have hgy43 := (hfvy26 (883 + 2) (by omega)).trans hgy42
      have hgy44 := (hfvy29 (883 + 2) (by omega)).trans hgy43
      have hgy45 := (hfvy13 (883 + 3) (by omega)).trans hpoy5.2.2.2.1
      have hgy46 := (hfvy16 (883 + 3) (by omega)).trans hgy45
      have hgy47 := (hfvy26 (883 + 3) (by omega)).trans hgy46
      have hgy48 := (hfvy29 (883 + 3) (by omega)).trans hgy47
      have hgy49 := (hfvy13 (883 + 4) (by omega)).trans hpoy5.2.2.2.2.1
      have hgy50 := (hfvy16 (883 + 4) (by omega)).trans hgy49
      have hgy51 := (hfvy26 (883 + 4) (by omega)).trans hgy50
      have hgy52 := (hfvy29 (883 + 4) (by omega)).trans hgy51
      have hgy53 := (hfvy13 (883 + 5) (by omega)).trans hpoy5.2.2.2.2.2.1
      have hgy54 := (hfvy16 (883 + 5) (by omega)).trans hgy53
      have hgy55 := (hfvy26 (883 + 5) (by omega)).trans hgy54
      have hgy56 := (hfvy29 (883 + 5) (by omega)).trans hgy55
      have hgy57 := (hfvy13 (883 + 6) (by omega)).trans hpoy5.2.2.2.2.2.2
      have hgy58 := (hfvy16 (883 + 6) (by omega)).trans hgy57
      have hgy59 := (hfvy26 (883 + 6) (by omega)).trans hgy58
      have hgy60 := (hfvy29 (883 + 6) (by omega)).trans hgy59
      exact z_vret C hr hlk dX7_readTable_76 (by decide) (by decide) ⟨rfl, rfl, rfl, ⟨_, hruny32, by omega⟩, ⟨_, _, _, _, _, _, _, _, _, by omega, by omega, ⟨hgy36, hgy40, hgy44, hgy48, hgy52, hgy56, hgy60⟩⟩, fun j j1 j2 => by rw [hfvy29 _ (by omega)]; rw [hfvy26 _ (by omega)]; rw [hfvy16 _ (by omega)]; rw [hfvy13 _ (by omega)]⟩
    · refine z_aload_n C 2 dX7_readTable_54 rfl ?_
      refine z_dup C dX7_readTable_55 rfl ?_
      refine z_get (v := .int (zI (tddy30))) C (lt_K hN (rfl : Nat.blt (2) 952 = true)) hay2 hcdy30 rfl inA_X7 8 (by decide) q_52 rfl rfl dX7_readTable_56 ?_
      refine z_iconst (z := 1) C dX7_readTable_59 rfl ?_
      refine z_iload C 1 dX7_readTable_60 rfl ?_
      obtain ⟨xy61, exy62, hxy63⟩ := zI_of (zI (1) <<< (zI (z + vy16) &&& 31))
      refine z_ishl (z := xy61) C dX7_readTable_62 exy62 ?_
      obtain ⟨xy64, exy65, hxy66⟩ := zI_of (zI (tddy30) ||| zI (xy61))
      refine z_ior (z := xy64) C dX7_readTable_63 exy65 ?_
      refine z_put (fs' := [.int (zI (pldy30)), .int (zI (covy29)), .ref (ad 1), .int (zI (endy30)), .int (zI (tydy30)), .int (zI (a9dy30)), .int (zI (bedy30)), .int (zI (tkdy30)), .int (zI (xy64))]) C (lt_K hN (rfl : Nat.blt (2) 952 = true)) hay2 hcdy30 tyX7 tyX7_ok nmX7 rfl inA_X7 8 (by decide) q_52 rfl rfl rfl rfl (Nat.le_of_ble_eq_true rfl) rfl dX7_readTable_64 (fun gy67 egy68 => ?_)
      have hgy69 := up_s egy68
      refine z_aload_n C 3 dX7_readTable_67 rfl ?_
      have hgy70 := (hfvy13 (883) (by decide)).trans hpoy5.1
      have hgy71 := (hfvy16 (883) (by decide)).trans hgy70
      have hgy72 := (hfvy26 (883) (by decide)).trans hgy71
      have hgy73 := (hfvy29 (883) (by decide)).trans hgy72
      have hgy74 := up_n egy68 hgy73 (by decide)
      refine z_get (v := .ref (ad (883 + 6))) C (lt_K hN (rfl : Nat.blt (883) 952 = true)) hay4 hgy74 rfl inA_X5 8 (by decide) q_114 rfl rfl dX7_readTable_68 ?_
      refine z_iload C 1 dX7_readTable_71 rfl ?_
      refine z_iload C 0 dX7_readTable_73 rfl ?_
      have hgy75 := (hfvy13 (883 + 6) (by omega)).trans hpoy5.2.2.2.2.2.2
      have hgy76 := (hfvy16 (883 + 6) (by omega)).trans hgy75
      have hgy77 := (hfvy26 (883 + 6) (by omega)).trans hgy76
      have hgy78 := (hfvy29 (883 + 6) (by omega)).trans hgy77
      have hgy79 := up_n egy68 hgy78 (by omega)
      refine z_iast C (lt_K hN (rfl : Nat.blt (883 + 6) 952 = true)) hay11 hgy79 ((z + vy16).toNat) (by omega) (by omega) (by decide) dX7_readTable_75 (fun gy80 egy81 => ?_)
      have hgy82 := up_s egy81
      have hgy84 := up_n egy81 hgy69 (by omega)
      have hgy85 := up_n egy68 hddy30 (by decide)
      have hgy86 := up_n egy81 hgy85 (by omega)
      have hruny83 : okRun cs ad gy80 (covy29) tp := ⟨_, _, _, _, _, _, _, by omega, by omega, hgy84, hgy86⟩
      have hgy87 := up_n egy81 hgy74 (ne_o (i := 883) (c := 0) (d := 6) rfl)
      have hgy88 := (hfvy13 (883 + 1) (by omega)).trans hpoy5.2.1
      have hgy89 := (hfvy16 (883 + 1) (by omega)).trans hgy88
      have hgy90 := (hfvy26 (883 + 1) (by omega)).trans hgy89
      have hgy91 := (hfvy29 (883 + 1) (by omega)).trans hgy90
      have hgy92 := up_n egy68 hgy91 (by omega)
      have hgy93 := up_n egy81 hgy92 (ne_o (i := 883) (c := 1) (d := 6) rfl)
      have hgy94 := (hfvy13 (883 + 2) (by omega)).trans hpoy5.2.2.1
      have hgy95 := (hfvy16 (883 + 2) (by omega)).trans hgy94
      have hgy96 := (hfvy26 (883 + 2) (by omega)).trans hgy95
      have hgy97 := (hfvy29 (883 + 2) (by omega)).trans hgy96
      have hgy98 := up_n egy68 hgy97 (by omega)
      have hgy99 := up_n egy81 hgy98 (ne_o (i := 883) (c := 2) (d := 6) rfl)
      have hgy100 := (hfvy13 (883 + 3) (by omega)).trans hpoy5.2.2.2.1
      have hgy101 := (hfvy16 (883 + 3) (by omega)).trans hgy100
      have hgy102 := (hfvy26 (883 + 3) (by omega)).trans hgy101
      have hgy103 := (hfvy29 (883 + 3) (by omega)).trans hgy102
      have hgy104 := up_n egy68 hgy103 (by omega)
      have hgy105 := up_n egy81 hgy104 (ne_o (i := 883) (c := 3) (d := 6) rfl)
      have hgy106 := (hfvy13 (883 + 4) (by omega)).trans hpoy5.2.2.2.2.1
      have hgy107 := (hfvy16 (883 + 4) (by omega)).trans hgy106
      have hgy108 := (hfvy26 (883 + 4) (by omega)).trans hgy107
      have hgy109 := (hfvy29 (883 + 4) (by omega)).trans hgy108
      have hgy110 := up_n egy68 hgy109 (by omega)
      have hgy111 := up_n egy81 hgy110 (ne_o (i := 883) (c := 4) (d := 6) rfl)
      have hgy112 := (hfvy13 (883 + 5) (by omega)).trans hpoy5.2.2.2.2.2.1
      have hgy113 := (hfvy16 (883 + 5) (by omega)).trans hgy112
      have hgy114 := (hfvy26 (883 + 5) (by omega)).trans hgy113
      have hgy115 := (hfvy29 (883 + 5) (by omega)).trans hgy114
      have hgy116 := up_n egy68 hgy115 (by omega)
      have hgy117 := up_n egy81 hgy116 (ne_o (i := 883) (c := 5) (d := 6) rfl)
      exact z_vret C hr hlk dX7_readTable_76 (by decide) (by decide) ⟨rfl, rfl, rfl, ⟨_, hruny83, by omega⟩, ⟨_, _, _, _, _, _, _, _, _, by omega, by omega, ⟨hgy87, hgy93, hgy99, hgy105, hgy111, hgy117, hgy82⟩⟩, fun j j1 j2 => by rw [egy81, va_up_ne _ _ (by omega)]; rw [egy68, va_up_ne _ _ (by omega)]; rw [hfvy29 _ (by omega)]; rw [hfvy26 _ (by omega)]; rw [hfvy16 _ (by omega)]; rw [hfvy13 _ (by omega)]⟩
  · refine z_aload_n C 1 dX7_readTable_25 rfl ?_
    refine z_iconst (z := 4) C dX7_readTable_26 rfl ?_
    refine z_aload_n C 1 dX7_readTable_27 rfl ?_
    refine z_get (v := .int (zI (tkdy17))) C (lt_K hN (rfl : Nat.blt (2) 952 = true)) hay2 hcdy17 rfl inA_X7 7 (by decide) q_51 rfl rfl dX7_readTable_28 ?_
    obtain ⟨xy118, exy119, hxy120⟩ := zI_of (zI (tkdy17))
    rw [exy119]
    have hruny121 : okRun cs ad gvy16 (covy16) tp := ⟨_, _, _, _, _, _, _, by omega, by omega, hcdy17, hddy17⟩
    refine z_cV (As := [.int (zI (4)), .int (zI (xy118))]) (rest := []) (ci := 9) C (c_X7_fail l D A cs tt N ad _ (by omega) _ tp hruny121 (4) (by omega) (xy118) (by omega)) (lt_K hN (rfl : Nat.blt (2) 952 = true)) hay2 hcdy17 rfl rfl mv_yX7_fail q_809 hd_yX7_fail (by decide) (Nat.le_of_ble_eq_true rfl) (by decide) dX7_readTable_31 rfl (kV0 fun gvy122 hvy122 => ?_)
    obtain ⟨⟨covy122, hkvy122, hnvy122⟩, hfvy122⟩ := hvy122
    obtain ⟨pldy123, endy123, tydy123, a9dy123, bedy123, tkdy123, tddy123, hAdy123, hTdy123, hcdy123, hddy123⟩ := id hkvy122
    refine z_aload_n C 1 dX7_readTable_34 rfl ?_
    refine z_iload_n C 4 dX7_readTable_35 rfl ?_
    refine z_iload C 5 dX7_readTable_36 rfl ?_
    have hruny124 : okRun cs ad gvy122 (covy122) tp := ⟨_, _, _, _, _, _, _, by omega, by omega, hcdy123, hddy123⟩
    refine z_cV (As := [.int (zI (z1)), .int (zI (z2))]) (rest := []) (ci := 9) C (c_X7_number l D A cs tt N ad _ (by omega) _ tp hruny124 (z1) (by omega) (z2) (by omega)) (lt_K hN (rfl : Nat.blt (2) 952 = true)) hay2 hcdy123 rfl rfl mv_yX7_number q_817 hd_yX7_number (by decide) (Nat.le_of_ble_eq_true rfl) (by decide) dX7_readTable_38 rfl (kI0 fun vy125 gvy125 hvy125 => ?_)
    obtain ⟨hrvy125, ⟨covy125, hkvy125, hnvy125⟩, hfvy125⟩ := hvy125
    obtain ⟨pldy126, endy126, tydy126, a9dy126, bedy126, tkdy126, tddy126, hAdy126, hTdy126, hcdy126, hddy126⟩ := id hkvy125
    refine z_istore (lv' := [(6, .int (zI (vy125))), (5, .int (zI (z + vy16))), (0, .ref (ad 2)), (1, .ref (ad 883)), (2, .int (zI (z))), (3, .int (zI (z1))), (4, .int (zI (z2)))]) C dX7_readTable_41 (by decide) rfl ?_
    refine z_aload_n C 2 dX7_readTable_43 rfl ?_
    have hruny127 : okRun cs ad gvy125 (covy125) tp := ⟨_, _, _, _, _, _, _, by omega, by omega, hcdy126, hddy126⟩
    refine z_cV (As := []) (rest := []) (ci := 9) C (c_X7_close l D A cs tt N ad _ (by omega) _ tp hruny127 ) (lt_K hN (rfl : Nat.blt (2) 952 = true)) hay2 hcdy126 rfl rfl mv_yX7_close q_821 hd_yX7_close (by decide) (Nat.le_of_ble_eq_true rfl) (by decide) dX7_readTable_44 rfl (kV0 fun gvy128 hvy128 => ?_)
    obtain ⟨⟨covy128, hkvy128, hnvy128⟩, hfvy128⟩ := hvy128
    obtain ⟨pldy129, endy129, tydy129, a9dy129, bedy129, tkdy129, tddy129, hAdy129, hTdy129, hcdy129, hddy129⟩ := id hkvy128
    refine z_aload_n C 2 dX7_readTable_47 rfl ?_
    refine z_get (v := .int (zI (covy128))) C (lt_K hN (rfl : Nat.blt (2) 952 = true)) hay2 hcdy129 rfl inA_X7 1 (by decide) q_45 rfl rfl dX7_readTable_48 ?_
    refine z_if_ne (tgt := 76) C dX7_readTable_51 (by decide) (by omega) (fun hby130 => ?_) (fun hby130 => ?_)
    · have hruny131 : okRun cs ad gvy128 (covy128) tp := ⟨_, _, _, _, _, _, _, by omega, by omega, hcdy129, hddy129⟩
      have hgy132 := (hfvy13 (883) (by decide)).trans hpoy5.1
      have hgy133 := (hfvy16 (883) (by decide)).trans hgy132
      have hgy134 := (hfvy122 (883) (by decide)).trans hgy133
      have hgy135 := (hfvy125 (883) (by decide)).trans hgy134
      have hgy136 := (hfvy128 (883) (by decide)).trans hgy135
      have hgy137 := (hfvy13 (883 + 1) (by omega)).trans hpoy5.2.1
      have hgy138 := (hfvy16 (883 + 1) (by omega)).trans hgy137
      have hgy139 := (hfvy122 (883 + 1) (by omega)).trans hgy138
      have hgy140 := (hfvy125 (883 + 1) (by omega)).trans hgy139
      have hgy141 := (hfvy128 (883 + 1) (by omega)).trans hgy140
      have hgy142 := (hfvy13 (883 + 2) (by omega)).trans hpoy5.2.2.1
      have hgy143 := (hfvy16 (883 + 2) (by omega)).trans hgy142
      have hgy144 := (hfvy122 (883 + 2) (by omega)).trans hgy143
      have hgy145 := (hfvy125 (883 + 2) (by omega)).trans hgy144
      have hgy146 := (hfvy128 (883 + 2) (by omega)).trans hgy145
      have hgy147 := (hfvy13 (883 + 3) (by omega)).trans hpoy5.2.2.2.1
      have hgy148 := (hfvy16 (883 + 3) (by omega)).trans hgy147
      have hgy149 := (hfvy122 (883 + 3) (by omega)).trans hgy148
      have hgy150 := (hfvy125 (883 + 3) (by omega)).trans hgy149
      have hgy151 := (hfvy128 (883 + 3) (by omega)).trans hgy150
      have hgy152 := (hfvy13 (883 + 4) (by omega)).trans hpoy5.2.2.2.2.1
      have hgy153 := (hfvy16 (883 + 4) (by omega)).trans hgy152
      have hgy154 := (hfvy122 (883 + 4) (by omega)).trans hgy153
      have hgy155 := (hfvy125 (883 + 4) (by omega)).trans hgy154
      have hgy156 := (hfvy128 (883 + 4) (by omega)).trans hgy155
      have hgy157 := (hfvy13 (883 + 5) (by omega)).trans hpoy5.2.2.2.2.2.1
      have hgy158 := (hfvy16 (883 + 5) (by omega)).trans hgy157
      have hgy159 := (hfvy122 (883 + 5) (by omega)).trans hgy158
      have hgy160 := (hfvy125 (883 + 5) (by omega)).trans hgy159
      have hgy161 := (hfvy128 (883 + 5) (by omega)).trans hgy160
      have hgy162 := (hfvy13 (883 + 6) (by omega)).trans hpoy5.2.2.2.2.2.2
      have hgy163 := (hfvy16 (883 + 6) (by omega)).trans hgy162
      have hgy164 := (hfvy122 (883 + 6) (by omega)).trans hgy163
      have hgy165 := (hfvy125 (883 + 6) (by omega)).trans hgy164
      have hgy166 := (hfvy128 (883 + 6) (by omega)).trans hgy165
      exact z_vret C hr hlk dX7_readTable_76 (by decide) (by decide) ⟨rfl, rfl, rfl, ⟨_, hruny131, by omega⟩, ⟨_, _, _, _, _, _, _, _, _, by omega, by omega, ⟨hgy136, hgy141, hgy146, hgy151, hgy156, hgy161, hgy166⟩⟩, fun j j1 j2 => by rw [hfvy128 _ (by omega)]; rw [hfvy125 _ (by omega)]; rw [hfvy122 _ (by omega)]; rw [hfvy16 _ (by omega)]; rw [hfvy13 _ (by omega)]⟩
    · refine z_aload_n C 2 dX7_readTable_54 rfl ?_
      refine z_dup C dX7_readTable_55 rfl ?_
      refine z_get (v := .int (zI (tddy129))) C (lt_K hN (rfl : Nat.blt (2) 952 = true)) hay2 hcdy129 rfl inA_X7 8 (by decide) q_52 rfl rfl dX7_readTable_56 ?_
      refine z_iconst (z := 1) C dX7_readTable_59 rfl ?_
      refine z_iload C 1 dX7_readTable_60 rfl ?_
      obtain ⟨xy167, exy168, hxy169⟩ := zI_of (zI (1) <<< (zI (z + vy16) &&& 31))
      refine z_ishl (z := xy167) C dX7_readTable_62 exy168 ?_
      obtain ⟨xy170, exy171, hxy172⟩ := zI_of (zI (tddy129) ||| zI (xy167))
      refine z_ior (z := xy170) C dX7_readTable_63 exy171 ?_
      refine z_put (fs' := [.int (zI (pldy129)), .int (zI (covy128)), .ref (ad 1), .int (zI (endy129)), .int (zI (tydy129)), .int (zI (a9dy129)), .int (zI (bedy129)), .int (zI (tkdy129)), .int (zI (xy170))]) C (lt_K hN (rfl : Nat.blt (2) 952 = true)) hay2 hcdy129 tyX7 tyX7_ok nmX7 rfl inA_X7 8 (by decide) q_52 rfl rfl rfl rfl (Nat.le_of_ble_eq_true rfl) rfl dX7_readTable_64 (fun gy173 egy174 => ?_)
      have hgy175 := up_s egy174
      refine z_aload_n C 3 dX7_readTable_67 rfl ?_
      have hgy176 := (hfvy13 (883) (by decide)).trans hpoy5.1
      have hgy177 := (hfvy16 (883) (by decide)).trans hgy176
      have hgy178 := (hfvy122 (883) (by decide)).trans hgy177
      have hgy179 := (hfvy125 (883) (by decide)).trans hgy178
      have hgy180 := (hfvy128 (883) (by decide)).trans hgy179
      have hgy181 := up_n egy174 hgy180 (by decide)
      refine z_get (v := .ref (ad (883 + 6))) C (lt_K hN (rfl : Nat.blt (883) 952 = true)) hay4 hgy181 rfl inA_X5 8 (by decide) q_114 rfl rfl dX7_readTable_68 ?_
      refine z_iload C 1 dX7_readTable_71 rfl ?_
      refine z_iload C 0 dX7_readTable_73 rfl ?_
      have hgy182 := (hfvy13 (883 + 6) (by omega)).trans hpoy5.2.2.2.2.2.2
      have hgy183 := (hfvy16 (883 + 6) (by omega)).trans hgy182
      have hgy184 := (hfvy122 (883 + 6) (by omega)).trans hgy183
      have hgy185 := (hfvy125 (883 + 6) (by omega)).trans hgy184
      have hgy186 := (hfvy128 (883 + 6) (by omega)).trans hgy185
      have hgy187 := up_n egy174 hgy186 (by omega)
      refine z_iast C (lt_K hN (rfl : Nat.blt (883 + 6) 952 = true)) hay11 hgy187 ((z + vy16).toNat) (by omega) (by omega) (by decide) dX7_readTable_75 (fun gy188 egy189 => ?_)
      have hgy190 := up_s egy189
      have hgy192 := up_n egy189 hgy175 (by omega)
      have hgy193 := up_n egy174 hddy129 (by decide)
      have hgy194 := up_n egy189 hgy193 (by omega)
      have hruny191 : okRun cs ad gy188 (covy128) tp := ⟨_, _, _, _, _, _, _, by omega, by omega, hgy192, hgy194⟩
      have hgy195 := up_n egy189 hgy181 (ne_o (i := 883) (c := 0) (d := 6) rfl)
      have hgy196 := (hfvy13 (883 + 1) (by omega)).trans hpoy5.2.1
      have hgy197 := (hfvy16 (883 + 1) (by omega)).trans hgy196
      have hgy198 := (hfvy122 (883 + 1) (by omega)).trans hgy197
      have hgy199 := (hfvy125 (883 + 1) (by omega)).trans hgy198
      have hgy200 := (hfvy128 (883 + 1) (by omega)).trans hgy199
      have hgy201 := up_n egy174 hgy200 (by omega)
      have hgy202 := up_n egy189 hgy201 (ne_o (i := 883) (c := 1) (d := 6) rfl)
      have hgy203 := (hfvy13 (883 + 2) (by omega)).trans hpoy5.2.2.1
      have hgy204 := (hfvy16 (883 + 2) (by omega)).trans hgy203
      have hgy205 := (hfvy122 (883 + 2) (by omega)).trans hgy204
      have hgy206 := (hfvy125 (883 + 2) (by omega)).trans hgy205
      have hgy207 := (hfvy128 (883 + 2) (by omega)).trans hgy206
      have hgy208 := up_n egy174 hgy207 (by omega)
      have hgy209 := up_n egy189 hgy208 (ne_o (i := 883) (c := 2) (d := 6) rfl)
      have hgy210 := (hfvy13 (883 + 3) (by omega)).trans hpoy5.2.2.2.1
      have hgy211 := (hfvy16 (883 + 3) (by omega)).trans hgy210
      have hgy212 := (hfvy122 (883 + 3) (by omega)).trans hgy211
      have hgy213 := (hfvy125 (883 + 3) (by omega)).trans hgy212
      have hgy214 := (hfvy128 (883 + 3) (by omega)).trans hgy213
      have hgy215 := up_n egy174 hgy214 (by omega)
      have hgy216 := up_n egy189 hgy215 (ne_o (i := 883) (c := 3) (d := 6) rfl)
      have hgy217 := (hfvy13 (883 + 4) (by omega)).trans hpoy5.2.2.2.2.1
      have hgy218 := (hfvy16 (883 + 4) (by omega)).trans hgy217
      have hgy219 := (hfvy122 (883 + 4) (by omega)).trans hgy218
      have hgy220 := (hfvy125 (883 + 4) (by omega)).trans hgy219
      have hgy221 := (hfvy128 (883 + 4) (by omega)).trans hgy220
      have hgy222 := up_n egy174 hgy221 (by omega)
      have hgy223 := up_n egy189 hgy222 (ne_o (i := 883) (c := 4) (d := 6) rfl)
      have hgy224 := (hfvy13 (883 + 5) (by omega)).trans hpoy5.2.2.2.2.2.1
      have hgy225 := (hfvy16 (883 + 5) (by omega)).trans hgy224
      have hgy226 := (hfvy122 (883 + 5) (by omega)).trans hgy225
      have hgy227 := (hfvy125 (883 + 5) (by omega)).trans hgy226
      have hgy228 := (hfvy128 (883 + 5) (by omega)).trans hgy227
      have hgy229 := up_n egy174 hgy228 (by omega)
      have hgy230 := up_n egy189 hgy229 (ne_o (i := 883) (c := 5) (d := 6) rfl)
      exact z_vret C hr hlk dX7_readTable_76 (by decide) (by decide) ⟨rfl, rfl, rfl, ⟨_, hruny191, by omega⟩, ⟨_, _, _, _, _, _, _, _, _, by omega, by omega, ⟨hgy195, hgy202, hgy209, hgy216, hgy223, hgy230, hgy190⟩⟩, fun j j1 j2 => by rw [egy189, va_up_ne _ _ (by omega)]; rw [egy174, va_up_ne _ _ (by omega)]; rw [hfvy128 _ (by omega)]; rw [hfvy125 _ (by omega)]; rw [hfvy122 _ (by omega)]; rw [hfvy16 _ (by omega)]; rw [hfvy13 _ (by omega)]⟩

set_option maxRecDepth 100000 in
set_option maxHeartbeats 4000000 in
theorem c_X7_readLayer (l : Launch) (D : va_G) (A : Nat → Prop) (cs : Nat → ClassId) (tt : Nat) (N : Nat) (ad : Nat → Nat) (g : Nat → va_E) (hN : 952 ≤ N) (co : Int) (tp : Nat → Int) (hR : okRun cs ad g co tp) (hP9 : okPlan cs ad g 883) (hW9 : okWorld cs ad g 890) : zM l yX7_readLayer cX7_readLayer 9 none ({ frames := 7, cells := 0, slots := 0, locals := 420 } : Room) D A cs tt N ad g [.ref (ad 2), .ref (ad 883), .ref (ad 890)] (rV0 N ad fun g' => (∃ co' : Int, okRun cs ad g' co' tp ∧ co ≤ co') ∧ okPlan cs ad g' 883 ∧ okWorld cs ad g' 890 ∧ ∀ j, j ≠ 2 → (j < 883 ∨ 900 ≤ j) → g' j = g j) := by
  obtain ⟨pldy1, endy1, tydy1, a9dy1, bedy1, tkdy1, tddy1, hAdy1, hTdy1, hcdy1, hddy1⟩ := id hR
  have hay2 : zAt ad (2) (ad 2) := rfl
  have hay3 : zAt ad (1) (ad 1) := rfl
  have hay4 : zAt ad (883) (ad 883) := rfl
  obtain ⟨sloy5, hooy5, uaoy5, stoy5, opoy5, aioy5, faoy5, muoy5, tboy5, hsloy5, hhooy5, hpoy5⟩ := id hP9
  have hay6 : zAt ad (883 + 1) (ad (883 + 1)) := rfl
  have hay7 : zAt ad (883 + 2) (ad (883 + 2)) := rfl
  have hay8 : zAt ad (883 + 3) (ad (883 + 3)) := rfl
  have hay9 : zAt ad (883 + 4) (ad (883 + 4)) := rfl
  have hay10 : zAt ad (883 + 5) (ad (883 + 5)) := rfl
  have hay11 : zAt ad (883 + 6) (ad (883 + 6)) := rfl
  have hay12 : zAt ad (890) (ad 890) := rfl
  obtain ⟨thcy13, zhcy13, ohcy13, rhcy13, hzhcy13, hthcy13, hwhcy13⟩ := id hW9
  obtain ⟨uy14t, uy14z, uy14o, uy14r, uy14z4, uy14t5, uy141, ⟨uy14u, uy142, uy143⟩, uy144⟩ := id hW9
  have hay15 : zAt ad (890) (ad 890) := rfl
  have hay16 : zAt ad (890 + 1) (ad (890 + 1)) := rfl
  refine z_of (by decide) (Nat.le_of_ble_eq_true rfl) ?_
  intro p e s m below meth c C hr hlk hnm
  refine z_lv (lv' := [(0, .ref (ad 2)), (1, .ref (ad 883)), (2, .ref (ad 890))]) [0, 1, 2] rfl ?_
  have s107 : ∀ (v3 : Int) (v4 : Int) (v5 : Int) (v6 : Int) (v7 : Int) (c1 : Int) (g1 : Nat → va_E), okRun cs ad g1 c1 tp → co ≤ c1 → (∀ j, j ≠ 2 → g1 j = g j) → (co ≤ c1) → (0 ≤ v3 ∧ v3 ≤ 3) → (0 ≤ v4 ∧ v4 ≤ 4) → (0 ≤ v5 ∧ v5 ≤ 99) → (0 ≤ v6 ∧ v6 ≤ 99) → (0 ≤ v7 ∧ v7 ≤ 999) → zV p l e ({ frames := 7, cells := 0, slots := 0, locals := 420 } : Room) s m ([.ref (ad 2), .ref (ad 883), .ref (ad 890)] : List Value).toArray below meth c (MQ below (zPost D A (rV0 N ad fun g' => (∃ co' : Int, okRun cs ad g' co' tp ∧ co ≤ co') ∧ okPlan cs ad g' 883 ∧ okWorld cs ad g' 890 ∧ ∀ j, j ≠ 2 → (j < 883 ∨ 900 ≤ j) → g' j = g j)) ([.ref (ad 2), .ref (ad 883), .ref (ad 890)] : List Value).toArray s ({ frames := 7, cells := 0, slots := 0, locals := 420 } : Room).cells ({ frames := 7, cells := 0, slots := 0, locals := 420 } : Room).slots A) D A 9 (N) ad g1 (0) (0) 107 [(0, .ref (ad 2)), (1, .ref (ad 883)), (2, .ref (ad 890)), (3, .int (zI (v3))), (4, .int (zI (v4))), (5, .int (zI (v5))), (6, .int (zI (v6))), (7, .int (zI (v7)))] [] := by
    intro v3 v4 v5 v6 v7 c1 g1 f1 f2 f3 f4 hv3 hv4 hv5 hv6 hv7
    have hW1 : okWorld cs ad g1 890 := okWorld.mv (fun j j1 j2 => f3 j (by omega)) hW9
    obtain ⟨thcy17, zhcy17, ohcy17, rhcy17, hzhcy17, hthcy17, hwhcy17⟩ := id hW1
    obtain ⟨uy18t, uy18z, uy18o, uy18r, uy18z4, uy18t5, uy181, ⟨uy18u, uy182, uy183⟩, uy184⟩ := id hW1
    have hay19 : zAt ad (890) (ad 890) := rfl
    have hay20 : zAt ad (890 + 1) (ad (890 + 1)) := rfl
    obtain ⟨pldy21, endy21, tydy21, a9dy21, bedy21, tkdy21, tddy21, hAdy21, hTdy21, hcdy21, hddy21⟩ := id f1
    refine z_aload_n C 0 dX7_readLayer_107 rfl ?_
    refine z_iconst (z := 0) C dX7_readLayer_108 rfl ?_
    refine z_sipush (z := 300) C dX7_readLayer_109 (by decide) ?_
    have hruny22 : okRun cs ad g1 (c1) tp := ⟨_, _, _, _, _, _, _, by omega, by omega, hcdy21, hddy21⟩
    refine z_cV (As := [.int (zI (0)), .int (zI (300))]) (rest := []) (ci := 9) C (c_X7_number l D A cs tt N ad _ (by omega) _ tp hruny22 (0) (by omega) (300) (by omega)) (by omega) hay2 hcdy21 rfl rfl mv_yX7_number q_817 hd_yX7_number (by decide) (Nat.le_of_ble_eq_true rfl) (by decide) dX7_readLayer_112 rfl (kI0 fun vy23 gvy23 hvy23 => ?_)
    obtain ⟨hrvy23, ⟨covy23, hkvy23, hnvy23⟩, hfvy23⟩ := hvy23
    obtain ⟨pldy24, endy24, tydy24, a9dy24, bedy24, tkdy24, tddy24, hAdy24, hTdy24, hcdy24, hddy24⟩ := id hkvy23
    refine z_istore (lv' := [(8, .int (zI (vy23))), (0, .ref (ad 2)), (1, .ref (ad 883)), (2, .ref (ad 890)), (3, .int (zI (v3))), (4, .int (zI (v4))), (5, .int (zI (v5))), (6, .int (zI (v6))), (7, .int (zI (v7)))]) C dX7_readLayer_115 (by decide) rfl ?_
    refine z_aload_n C 1 dX7_readLayer_117 rfl ?_
    have hruny25 : okRun cs ad gvy23 (covy23) tp := ⟨_, _, _, _, _, _, _, by omega, by omega, hcdy24, hddy24⟩
    refine z_cV (As := []) (rest := []) (ci := 9) C (c_X7_close l D A cs tt N ad _ (by omega) _ tp hruny25 ) (by omega) hay2 hcdy24 rfl rfl mv_yX7_close q_821 hd_yX7_close (by decide) (Nat.le_of_ble_eq_true rfl) (by decide) dX7_readLayer_118 rfl (kV0 fun gvy26 hvy26 => ?_)
    obtain ⟨⟨covy26, hkvy26, hnvy26⟩, hfvy26⟩ := hvy26
    obtain ⟨pldy27, endy27, tydy27, a9dy27, bedy27, tkdy27, tddy27, hAdy27, hTdy27, hcdy27, hddy27⟩ := id hkvy26
    refine z_aload_n C 1 dX7_readLayer_121 rfl ?_
    refine z_get (v := .int (zI (covy26))) C (by omega) hay2 hcdy27 rfl inA_X7 1 (by decide) q_45 rfl rfl dX7_readLayer_122 ?_
    refine z_if_ne (tgt := 162) C dX7_readLayer_125 (by decide) (by omega) (fun hby28 => ?_) (fun hby28 => ?_)
    · have hruny29 : okRun cs ad gvy26 (covy26) tp := ⟨_, _, _, _, _, _, _, by omega, by omega, hcdy27, hddy27⟩
      have hgy30 := (hfvy23 (883) (by decide)).trans ((f3 _ (by omega)).trans hpoy5.1)
      have hgy31 := (hfvy26 (883) (by decide)).trans hgy30
      have hgy32 := (hfvy23 (883 + 1) (by omega)).trans ((f3 _ (by omega)).trans hpoy5.2.1)
      have hgy33 := (hfvy26 (883 + 1) (by omega)).trans hgy32
      have hgy34 := (hfvy23 (883 + 2) (by omega)).trans ((f3 _ (by omega)).trans hpoy5.2.2.1)
      have hgy35 := (hfvy26 (883 + 2) (by omega)).trans hgy34
      have hgy36 := (hfvy23 (883 + 3) (by omega)).trans ((f3 _ (by omega)).trans hpoy5.2.2.2.1)
      have hgy37 := (hfvy26 (883 + 3) (by omega)).trans hgy36
      have hgy38 := (hfvy23 (883 + 4) (by omega)).trans ((f3 _ (by omega)).trans hpoy5.2.2.2.2.1)
      have hgy39 := (hfvy26 (883 + 4) (by omega)).trans hgy38
      have hgy40 := (hfvy23 (883 + 5) (by omega)).trans ((f3 _ (by omega)).trans hpoy5.2.2.2.2.2.1)
      have hgy41 := (hfvy26 (883 + 5) (by omega)).trans hgy40
      have hgy42 := (hfvy23 (883 + 6) (by omega)).trans ((f3 _ (by omega)).trans hpoy5.2.2.2.2.2.2)
      have hgy43 := (hfvy26 (883 + 6) (by omega)).trans hgy42
      have hoky44 : okWorld cs ad gvy26 (890) := okWorld.mv (fun j j1 j2 => by rw [hfvy26 _ (by omega)]; rw [hfvy23 _ (by omega)]) hW1
      exact z_vret C hr hlk dX7_readLayer_162 (by decide) (by decide) ⟨rfl, rfl, rfl, ⟨_, hruny29, by omega⟩, ⟨_, _, _, _, _, _, _, _, _, by omega, by omega, ⟨hgy31, hgy33, hgy35, hgy37, hgy39, hgy41, hgy43⟩⟩, hoky44, fun j j1 j2 => by rw [hfvy26 _ (by omega)]; rw [hfvy23 _ (by omega)]; exact f3 j j1⟩
    · refine z_aload_n C 3 dX7_readLayer_128 rfl ?_
      have hgy45 := (hfvy23 (890) (by decide)).trans uy181
      have hgy46 := (hfvy26 (890) (by decide)).trans hgy45
      refine z_get (v := .ref (ad (890 + 1))) C (by omega) hay19 hgy46 rfl inA_X8 6 (by decide) q_189 rfl rfl dX7_readLayer_129 ?_
      refine z_iload_n C 4 dX7_readLayer_132 rfl ?_
      have hgy47 := (hfvy23 (890 + 1) (by omega)).trans uy182
      have hgy48 := (hfvy26 (890 + 1) (by omega)).trans hgy47
      refine z_aald C (by omega) hay20 hgy48 3 rfl ((v3).toNat) (by omega) (by omega) (by decide) (uy183 (v3).toNat (by omega)) dX7_readLayer_133 ?_
      have hay49 : zAt ad (890 + 2 + 2 * (v3).toNat) (ad (890 + 2 + 2 * (v3).toNat)) := rfl
      have hay50 : zAt ad (890 + 2 + 2 * (v3).toNat + 1) (ad (890 + 2 + 2 * (v3).toNat + 1)) := rfl
      have hpy51 := uy184 (v3).toNat (by omega)
      have hqy52 := uy18z4 (v3).toNat (by omega)
      refine z_iload C 5 dX7_readLayer_134 rfl ?_
      refine z_iload C 6 dX7_readLayer_136 rfl ?_
      refine z_iload C 7 dX7_readLayer_138 rfl ?_
      refine z_iload C 8 dX7_readLayer_140 rfl ?_
      refine z_iload C 0 dX7_readLayer_142 rfl ?_
      refine z_ineg C dX7_readLayer_144 ?_
      refine z_aload_n C 3 dX7_readLayer_145 rfl ?_
      refine z_get (v := .int (zI (uy18t 1))) C (by omega) hay19 hgy46 rfl inA_X8 1 (by decide) q_178 rfl rfl dX7_readLayer_146 ?_
      have hoky53 : okWorld cs ad gvy26 (890) := okWorld.mv (fun j j1 j2 => by rw [hfvy26 _ (by omega)]; rw [hfvy23 _ (by omega)]) hW1
      obtain ⟨xy54, exy55, hxy56⟩ := zI_of (zI (uy18t 1))
      rw [exy55]
      have hgy58 := (hfvy23 (890 + 2 + 2 * (v3).toNat) (by omega)).trans hpy51.1
      have hgy59 := (hfvy26 (890 + 2 + 2 * (v3).toNat) (by omega)).trans hgy58
      have hgy60 := (hfvy23 (890 + 2 + 2 * (v3).toNat + 1) (by omega)).trans hpy51.2
      have hgy61 := (hfvy26 (890 + 2 + 2 * (v3).toNat + 1) (by omega)).trans hgy60
      refine z_cV (As := [.int (zI (v4)), .int (zI (v5)), .int (zI (v6)), .int (zI (v7)), .int (zI (-(vy23))), .int (zI (xy54))]) (rest := []) (ci := 5) C (c_X3_add l D A cs tt N ad _ (890 + 2 + 2 * (v3).toNat) (by omega) _ _ _ (by omega) ⟨hgy59, hgy61⟩  (v4) (by omega) (v5) (by omega) (v6) (by omega) (v7) (by omega) (-(vy23)) (by omega) (xy54) (by omega)) (by omega) hay49 hgy59 rfl rfl mv_yX3_add q_842 hd_yX3_add (by decide) (Nat.le_of_ble_eq_true rfl) (by decide) dX7_readLayer_149 rfl (kV0 fun gvy57 hvy57 => ?_)
      obtain ⟨⟨svy57, ovy57, rvy57, hsvy57, hpvy57⟩, hfvy57⟩ := hvy57
      refine z_aload_n C 3 dX7_readLayer_152 rfl ?_
      refine z_dup C dX7_readLayer_153 rfl ?_
      have hgy62 := (hfvy57 (890) (by omega) (by omega)).trans hgy46
      refine z_get (v := .int (zI (uy18t 1))) C (by omega) hay19 hgy62 rfl inA_X8 1 (by decide) q_178 rfl rfl dX7_readLayer_154 ?_
      refine z_iconst (z := 1) C dX7_readLayer_157 rfl ?_
      refine z_iadd C dX7_readLayer_158 ?_
      refine z_put (fs' := [.int (zI (uy18t 0)), .int (zI ((uy18t 1) + 1)), .int (zI (uy18t 2)), .int (zI (uy18t 3)), .int (zI (uy18t 4)), .int (zI (uy18t 5)), .ref (ad (890 + 1))]) C (by omega) hay19 hgy62 tyX8 tyX8_ok nmX8 rfl inA_X8 1 (by decide) q_178 rfl rfl rfl rfl (Nat.le_of_ble_eq_true rfl) rfl dX7_readLayer_159 (fun gy63 egy64 => ?_)
      have hgy65 := up_s egy64
      have hgy67 := (hfvy57 (2) (by omega) (by omega)).trans hcdy27
      have hgy68 := up_n egy64 hgy67 (by decide)
      have hgy69 := (hfvy57 (1) (by omega) (by omega)).trans hddy27
      have hgy70 := up_n egy64 hgy69 (by decide)
      have hruny66 : okRun cs ad gy63 (covy26) tp := ⟨_, _, _, _, _, _, _, by omega, by omega, hgy68, hgy70⟩
      have hgy71 := (hfvy23 (883) (by decide)).trans ((f3 _ (by omega)).trans hpoy5.1)
      have hgy72 := (hfvy26 (883) (by decide)).trans hgy71
      have hgy73 := (hfvy57 (883) (by omega) (by omega)).trans hgy72
      have hgy74 := up_n egy64 hgy73 (by decide)
      have hgy75 := (hfvy23 (883 + 1) (by omega)).trans ((f3 _ (by omega)).trans hpoy5.2.1)
      have hgy76 := (hfvy26 (883 + 1) (by omega)).trans hgy75
      have hgy77 := (hfvy57 (883 + 1) (by omega) (by omega)).trans hgy76
      have hgy78 := up_n egy64 hgy77 (by omega)
      have hgy79 := (hfvy23 (883 + 2) (by omega)).trans ((f3 _ (by omega)).trans hpoy5.2.2.1)
      have hgy80 := (hfvy26 (883 + 2) (by omega)).trans hgy79
      have hgy81 := (hfvy57 (883 + 2) (by omega) (by omega)).trans hgy80
      have hgy82 := up_n egy64 hgy81 (by omega)
      have hgy83 := (hfvy23 (883 + 3) (by omega)).trans ((f3 _ (by omega)).trans hpoy5.2.2.2.1)
      have hgy84 := (hfvy26 (883 + 3) (by omega)).trans hgy83
      have hgy85 := (hfvy57 (883 + 3) (by omega) (by omega)).trans hgy84
      have hgy86 := up_n egy64 hgy85 (by omega)
      have hgy87 := (hfvy23 (883 + 4) (by omega)).trans ((f3 _ (by omega)).trans hpoy5.2.2.2.2.1)
      have hgy88 := (hfvy26 (883 + 4) (by omega)).trans hgy87
      have hgy89 := (hfvy57 (883 + 4) (by omega) (by omega)).trans hgy88
      have hgy90 := up_n egy64 hgy89 (by omega)
      have hgy91 := (hfvy23 (883 + 5) (by omega)).trans ((f3 _ (by omega)).trans hpoy5.2.2.2.2.2.1)
      have hgy92 := (hfvy26 (883 + 5) (by omega)).trans hgy91
      have hgy93 := (hfvy57 (883 + 5) (by omega) (by omega)).trans hgy92
      have hgy94 := up_n egy64 hgy93 (by omega)
      have hgy95 := (hfvy23 (883 + 6) (by omega)).trans ((f3 _ (by omega)).trans hpoy5.2.2.2.2.2.2)
      have hgy96 := (hfvy26 (883 + 6) (by omega)).trans hgy95
      have hgy97 := (hfvy57 (883 + 6) (by omega) (by omega)).trans hgy96
      have hgy98 := up_n egy64 hgy97 (by omega)
      have hgy99 := up_n egy64 hpvy57.1 (by omega)
      have hgy100 := up_n egy64 hpvy57.2 (by omega)
      have hGp : okPack cs ad gy63 (890 + 2 + 2 * (v3).toNat) := ⟨_, _, _, by omega, hgy99, hgy100⟩
      have hGq : okWorld cs ad gy63 890 := okWorld.two (by omega) hoky53 (fun j j1 j2 j3 => by rw [egy64, va_up_ne _ _ (by omega)]; rw [hfvy57 _ (by omega) (by omega)]) hGp (by omega) hgy65
      exact z_vret C hr hlk dX7_readLayer_162 (by decide) (by decide) ⟨rfl, rfl, rfl, ⟨_, hruny66, by omega⟩, ⟨_, _, _, _, _, _, _, _, _, by omega, by omega, ⟨hgy74, hgy78, hgy82, hgy86, hgy90, hgy94, hgy98⟩⟩, hGq, fun j j1 j2 => by rw [egy64, va_up_ne _ _ (by omega)]; rw [hfvy57 _ (by omega) (by omega)]; rw [hfvy26 _ (by omega)]; rw [hfvy23 _ (by omega)]; exact f3 j j1⟩
  have s54 : ∀ (v3 : Int) (c1 : Int) (g1 : Nat → va_E), okRun cs ad g1 c1 tp → co ≤ c1 → (∀ j, j ≠ 2 → g1 j = g j) → (co ≤ c1) → (0 ≤ v3 ∧ v3 ≤ 3) → zV p l e ({ frames := 7, cells := 0, slots := 0, locals := 420 } : Room) s m ([.ref (ad 2), .ref (ad 883), .ref (ad 890)] : List Value).toArray below meth c (MQ below (zPost D A (rV0 N ad fun g' => (∃ co' : Int, okRun cs ad g' co' tp ∧ co ≤ co') ∧ okPlan cs ad g' 883 ∧ okWorld cs ad g' 890 ∧ ∀ j, j ≠ 2 → (j < 883 ∨ 900 ≤ j) → g' j = g j)) ([.ref (ad 2), .ref (ad 883), .ref (ad 890)] : List Value).toArray s ({ frames := 7, cells := 0, slots := 0, locals := 420 } : Room).cells ({ frames := 7, cells := 0, slots := 0, locals := 420 } : Room).slots A) D A 9 (N) ad g1 (0) (0) 54 [(0, .ref (ad 2)), (1, .ref (ad 883)), (2, .ref (ad 890)), (3, .int (zI (v3)))] [] := by
    intro v3 c1 g1 f1 f2 f3 f4 hv3
    have hW1 : okWorld cs ad g1 890 := okWorld.mv (fun j j1 j2 => f3 j (by omega)) hW9
    obtain ⟨thcy101, zhcy101, ohcy101, rhcy101, hzhcy101, hthcy101, hwhcy101⟩ := id hW1
    obtain ⟨uy102t, uy102z, uy102o, uy102r, uy102z4, uy102t5, uy1021, ⟨uy102u, uy1022, uy1023⟩, uy1024⟩ := id hW1
    have hay103 : zAt ad (890) (ad 890) := rfl
    have hay104 : zAt ad (890 + 1) (ad (890 + 1)) := rfl
    obtain ⟨pldy105, endy105, tydy105, a9dy105, bedy105, tkdy105, tddy105, hAdy105, hTdy105, hcdy105, hddy105⟩ := id f1
    refine z_aload_n C 0 dX7_readLayer_54 rfl ?_
    have hruny106 : okRun cs ad g1 (c1) tp := ⟨_, _, _, _, _, _, _, by omega, by omega, hcdy105, hddy105⟩
    refine z_cV (As := []) (rest := []) (ci := 9) C (c_X7_kind l D A cs tt N ad _ (by omega) _ tp hruny106 ) (by omega) hay2 hcdy105 rfl rfl mv_yX7_kind q_830 hd_yX7_kind (by decide) (Nat.le_of_ble_eq_true rfl) (by decide) dX7_readLayer_55 rfl (kI0 fun vy107 gvy107 hvy107 => ?_)
    obtain ⟨hrvy107, ⟨covy107, hkvy107, hnvy107⟩, hfvy107⟩ := hvy107
    obtain ⟨pldy108, endy108, tydy108, a9dy108, bedy108, tkdy108, tddy108, hAdy108, hTdy108, hcdy108, hddy108⟩ := id hkvy107
    refine z_istore (lv' := [(4, .int (zI (vy107))), (0, .ref (ad 2)), (1, .ref (ad 883)), (2, .ref (ad 890)), (3, .int (zI (v3)))]) C dX7_readLayer_58 (by decide) rfl ?_
    refine z_aload_n C 1 dX7_readLayer_60 rfl ?_
    refine z_iconst (z := 1) C dX7_readLayer_61 rfl ?_
    refine z_bipush (z := 99) C dX7_readLayer_62 (by decide) ?_
    have hruny109 : okRun cs ad gvy107 (covy107) tp := ⟨_, _, _, _, _, _, _, by omega, by omega, hcdy108, hddy108⟩
    refine z_cV (As := [.int (zI (1)), .int (zI (99))]) (rest := []) (ci := 9) C (c_X7_number l D A cs tt N ad _ (by omega) _ tp hruny109 (1) (by omega) (99) (by omega)) (by omega) hay2 hcdy108 rfl rfl mv_yX7_number q_817 hd_yX7_number (by decide) (Nat.le_of_ble_eq_true rfl) (by decide) dX7_readLayer_64 rfl (kI0 fun vy110 gvy110 hvy110 => ?_)
    obtain ⟨hrvy110, ⟨covy110, hkvy110, hnvy110⟩, hfvy110⟩ := hvy110
    obtain ⟨pldy111, endy111, tydy111, a9dy111, bedy111, tkdy111, tddy111, hAdy111, hTdy111, hcdy111, hddy111⟩ := id hkvy110
    refine z_istore (lv' := [(5, .int (zI (vy110))), (4, .int (zI (vy107))), (0, .ref (ad 2)), (1, .ref (ad 883)), (2, .ref (ad 890)), (3, .int (zI (v3)))]) C dX7_readLayer_67 (by decide) rfl ?_
    refine z_aload_n C 2 dX7_readLayer_69 rfl ?_
    refine z_iconst (z := 0) C dX7_readLayer_70 rfl ?_
    refine z_bipush (z := 99) C dX7_readLayer_71 (by decide) ?_
    have hruny112 : okRun cs ad gvy110 (covy110) tp := ⟨_, _, _, _, _, _, _, by omega, by omega, hcdy111, hddy111⟩
    refine z_cV (As := [.int (zI (0)), .int (zI (99))]) (rest := []) (ci := 9) C (c_X7_number l D A cs tt N ad _ (by omega) _ tp hruny112 (0) (by omega) (99) (by omega)) (by omega) hay2 hcdy111 rfl rfl mv_yX7_number q_817 hd_yX7_number (by decide) (Nat.le_of_ble_eq_true rfl) (by decide) dX7_readLayer_73 rfl (kI0 fun vy113 gvy113 hvy113 => ?_)
    obtain ⟨hrvy113, ⟨covy113, hkvy113, hnvy113⟩, hfvy113⟩ := hvy113
    obtain ⟨pldy114, endy114, tydy114, a9dy114, bedy114, tkdy114, tddy114, hAdy114, hTdy114, hcdy114, hddy114⟩ := id hkvy113
    refine z_istore (lv' := [(6, .int (zI (vy113))), (5, .int (zI (vy110))), (4, .int (zI (vy107))), (0, .ref (ad 2)), (1, .ref (ad 883)), (2, .ref (ad 890)), (3, .int (zI (v3)))]) C dX7_readLayer_76 (by decide) rfl ?_
    refine z_aload_n C 3 dX7_readLayer_78 rfl ?_
    refine z_iconst (z := 1) C dX7_readLayer_79 rfl ?_
    refine z_sipush (z := 999) C dX7_readLayer_80 (by decide) ?_
    have hruny115 : okRun cs ad gvy113 (covy113) tp := ⟨_, _, _, _, _, _, _, by omega, by omega, hcdy114, hddy114⟩
    refine z_cV (As := [.int (zI (1)), .int (zI (999))]) (rest := []) (ci := 9) C (c_X7_number l D A cs tt N ad _ (by omega) _ tp hruny115 (1) (by omega) (999) (by omega)) (by omega) hay2 hcdy114 rfl rfl mv_yX7_number q_817 hd_yX7_number (by decide) (Nat.le_of_ble_eq_true rfl) (by decide) dX7_readLayer_83 rfl (kI0 fun vy116 gvy116 hvy116 => ?_)
    obtain ⟨hrvy116, ⟨covy116, hkvy116, hnvy116⟩, hfvy116⟩ := hvy116
    obtain ⟨pldy117, endy117, tydy117, a9dy117, bedy117, tkdy117, tddy117, hAdy117, hTdy117, hcdy117, hddy117⟩ := id hkvy116
    refine z_istore (lv' := [(7, .int (zI (vy116))), (6, .int (zI (vy113))), (5, .int (zI (vy110))), (4, .int (zI (vy107))), (0, .ref (ad 2)), (1, .ref (ad 883)), (2, .ref (ad 890)), (3, .int (zI (v3)))]) C dX7_readLayer_86 (by decide) rfl ?_
    refine z_iload C 0 dX7_readLayer_88 rfl ?_
    refine z_iload C 2 dX7_readLayer_90 rfl ?_
    refine z_iload C 1 dX7_readLayer_92 rfl ?_
    refine z_iadd C dX7_readLayer_94 ?_
    refine z_icmp_ge (tgt := 107) C dX7_readLayer_95 (by decide) (by omega) (by omega) (fun hby118 => ?_) (fun hby118 => ?_)
    · have hruny119 : okRun cs ad gvy116 (covy116) tp := ⟨_, _, _, _, _, _, _, by omega, by omega, hcdy117, hddy117⟩
      refine z_lv (lv' := [(0, .ref (ad 2)), (1, .ref (ad 883)), (2, .ref (ad 890)), (3, .int (zI (v3))), (4, .int (zI (vy107))), (5, .int (zI (vy110))), (6, .int (zI (vy113))), (7, .int (zI (vy116)))]) [4, 5, 6, 7, 3, 2, 1, 0] rfl ?_
      exact s107 (v3) (vy107) (vy110) (vy113) (vy116) (covy116) gvy116 hruny119 (by omega) (fun j j1 => by rw [hfvy116 _ (by omega)]; rw [hfvy113 _ (by omega)]; rw [hfvy110 _ (by omega)]; rw [hfvy107 _ (by omega)]; exact f3 j j1) (by omega) (by omega) (by omega) (by omega) (by omega) (by omega)
    · refine z_aload_n C 4 dX7_readLayer_98 rfl ?_
      refine z_iconst (z := 5) C dX7_readLayer_99 rfl ?_
      refine z_aload_n C 4 dX7_readLayer_100 rfl ?_
      refine z_get (v := .int (zI (tkdy117))) C (by omega) hay2 hcdy117 rfl inA_X7 7 (by decide) q_51 rfl rfl dX7_readLayer_101 ?_
      obtain ⟨xy120, exy121, hxy122⟩ := zI_of (zI (tkdy117))
      rw [exy121]
      have hruny123 : okRun cs ad gvy116 (covy116) tp := ⟨_, _, _, _, _, _, _, by omega, by omega, hcdy117, hddy117⟩
      refine z_cV (As := [.int (zI (5)), .int (zI (xy120))]) (rest := []) (ci := 9) C (c_X7_fail l D A cs tt N ad _ (by omega) _ tp hruny123 (5) (by omega) (xy120) (by omega)) (by omega) hay2 hcdy117 rfl rfl mv_yX7_fail q_809 hd_yX7_fail (by decide) (Nat.le_of_ble_eq_true rfl) (by decide) dX7_readLayer_104 rfl (kV0 fun gvy124 hvy124 => ?_)
      obtain ⟨⟨covy124, hkvy124, hnvy124⟩, hfvy124⟩ := hvy124
      obtain ⟨pldy125, endy125, tydy125, a9dy125, bedy125, tkdy125, tddy125, hAdy125, hTdy125, hcdy125, hddy125⟩ := id hkvy124
      have hruny126 : okRun cs ad gvy124 (covy124) tp := ⟨_, _, _, _, _, _, _, by omega, by omega, hcdy125, hddy125⟩
      refine z_lv (lv' := [(0, .ref (ad 2)), (1, .ref (ad 883)), (2, .ref (ad 890)), (3, .int (zI (v3))), (4, .int (zI (vy107))), (5, .int (zI (vy110))), (6, .int (zI (vy113))), (7, .int (zI (vy116)))]) [4, 5, 6, 7, 3, 2, 1, 0] rfl ?_
      exact s107 (v3) (vy107) (vy110) (vy113) (vy116) (covy124) gvy124 hruny126 (by omega) (fun j j1 => by rw [hfvy124 _ (by omega)]; rw [hfvy116 _ (by omega)]; rw [hfvy113 _ (by omega)]; rw [hfvy110 _ (by omega)]; rw [hfvy107 _ (by omega)]; exact f3 j j1) (by omega) (by omega) (by omega) (by omega) (by omega) (by omega)
  refine z_aload_n C 0 dX7_readLayer_0 rfl ?_
  have hruny127 : okRun cs ad g (co) tp := ⟨_, _, _, _, _, _, _, by omega, by omega, hcdy1, hddy1⟩
  refine z_cV (As := []) (rest := []) (ci := 9) C (c_X7_take l D A cs tt N ad _ (by omega) _ tp hruny127) (lt_K hN (rfl : Nat.blt (2) 952 = true)) hay2 hcdy1 rfl rfl mv_yX7_take q_813 hd_yX7_take (by decide) (Nat.le_of_ble_eq_true rfl) (by decide) dX7_readLayer_1 rfl (kV0 fun gvy128 hvy128 => ?_)
  obtain ⟨hkvy128, hfvy128⟩ := hvy128
  obtain ⟨pldy129, endy129, tydy129, a9dy129, bedy129, tkdy129, tddy129, hAdy129, hTdy129, hcdy129, hddy129⟩ := id hkvy128
  refine z_aload_n C 0 dX7_readLayer_4 rfl ?_
  refine z_iconst (z := 0) C dX7_readLayer_5 rfl ?_
  refine z_iconst (z := 3) C dX7_readLayer_6 rfl ?_
  have hruny130 : okRun cs ad gvy128 (co) tp := ⟨_, _, _, _, _, _, _, by omega, by omega, hcdy129, hddy129⟩
  refine z_cV (As := [.int (zI (0)), .int (zI (3))]) (rest := []) (ci := 9) C (c_X7_number l D A cs tt N ad _ (by omega) _ tp hruny130 (0) (by omega) (3) (by omega)) (lt_K hN (rfl : Nat.blt (2) 952 = true)) hay2 hcdy129 rfl rfl mv_yX7_number q_817 hd_yX7_number (by decide) (Nat.le_of_ble_eq_true rfl) (by decide) dX7_readLayer_7 rfl (kI0 fun vy131 gvy131 hvy131 => ?_)
  obtain ⟨hrvy131, ⟨covy131, hkvy131, hnvy131⟩, hfvy131⟩ := hvy131
  obtain ⟨pldy132, endy132, tydy132, a9dy132, bedy132, tkdy132, tddy132, hAdy132, hTdy132, hcdy132, hddy132⟩ := id hkvy131
  refine z_istore_n (lv' := [(3, .int (zI (vy131))), (0, .ref (ad 2)), (1, .ref (ad 883)), (2, .ref (ad 890))]) C dX7_readLayer_10 rfl (by decide) rfl ?_
  refine z_iload_n C 0 dX7_readLayer_11 rfl ?_
  refine z_aload_n C 2 dX7_readLayer_12 rfl ?_
  have hgy133 := (hfvy128 (883) (by decide)).trans hpoy5.1
  have hgy134 := (hfvy131 (883) (by decide)).trans hgy133
  refine z_get (v := .int (zI (sloy5))) C (lt_K hN (rfl : Nat.blt (883) 952 = true)) hay4 hgy134 rfl inA_X5 0 (by decide) q_89 rfl rfl dX7_readLayer_13 ?_
  refine z_icmp_lt (tgt := 31) C dX7_readLayer_16 (by decide) (by omega) (by omega) (fun hby135 => ?_) (fun hby135 => ?_)
  · refine z_aload_n C 3 dX7_readLayer_31 rfl ?_
    have hgy136 := (hfvy128 (890) (by decide)).trans uy141
    have hgy137 := (hfvy131 (890) (by decide)).trans hgy136
    refine z_get (v := .ref (ad (890 + 1))) C (lt_K hN (rfl : Nat.blt (890) 952 = true)) hay15 hgy137 rfl inA_X8 6 (by decide) q_189 rfl rfl dX7_readLayer_32 ?_
    refine z_iload_n C 0 dX7_readLayer_35 rfl ?_
    have hgy138 := (hfvy128 (890 + 1) (by omega)).trans uy142
    have hgy139 := (hfvy131 (890 + 1) (by omega)).trans hgy138
    refine z_aald C (lt_K hN (rfl : Nat.blt (890 + 1) 952 = true)) hay16 hgy139 3 rfl ((vy131).toNat) (by omega) (by omega) (by decide) (uy143 (vy131).toNat (by omega)) dX7_readLayer_36 ?_
    have hay140 : zAt ad (890 + 2 + 2 * (vy131).toNat) (ad (890 + 2 + 2 * (vy131).toNat)) := rfl
    have hay141 : zAt ad (890 + 2 + 2 * (vy131).toNat + 1) (ad (890 + 2 + 2 * (vy131).toNat + 1)) := rfl
    have hpy142 := uy144 (vy131).toNat (by omega)
    have hqy143 := uy14z4 (vy131).toNat (by omega)
    have hgy144 := (hfvy128 (890 + 2 + 2 * (vy131).toNat) (by omega)).trans hpy142.1
    have hgy145 := (hfvy131 (890 + 2 + 2 * (vy131).toNat) (by omega)).trans hgy144
    refine z_get (v := .int (zI (uy14z (vy131).toNat))) C (by omega) hay140 hgy145 rfl inA_X3 0 (by decide) q_157 rfl rfl dX7_readLayer_37 ?_
    refine z_bipush (z := 12) C dX7_readLayer_40 (by decide) ?_
    refine z_icmp_lt (tgt := 54) C dX7_readLayer_42 (by decide) (by omega) (by omega) (fun hby146 => ?_) (fun hby146 => ?_)
    · have hruny147 : okRun cs ad gvy131 (covy131) tp := ⟨_, _, _, _, _, _, _, by omega, by omega, hcdy132, hddy132⟩
      refine z_lv (lv' := [(0, .ref (ad 2)), (1, .ref (ad 883)), (2, .ref (ad 890)), (3, .int (zI (vy131)))]) [1, 2, 3, 0] rfl ?_
      exact s54 (vy131) (covy131) gvy131 hruny147 (by omega) (fun j j1 => by rw [hfvy131 _ (by omega)]; rw [hfvy128 _ (by omega)]) (by omega) (by omega)
    · refine z_aload_n C 1 dX7_readLayer_45 rfl ?_
      refine z_iconst (z := 2) C dX7_readLayer_46 rfl ?_
      refine z_aload_n C 1 dX7_readLayer_47 rfl ?_
      refine z_get (v := .int (zI (tkdy132))) C (lt_K hN (rfl : Nat.blt (2) 952 = true)) hay2 hcdy132 rfl inA_X7 7 (by decide) q_51 rfl rfl dX7_readLayer_48 ?_
      obtain ⟨xy148, exy149, hxy150⟩ := zI_of (zI (tkdy132))
      rw [exy149]
      have hruny151 : okRun cs ad gvy131 (covy131) tp := ⟨_, _, _, _, _, _, _, by omega, by omega, hcdy132, hddy132⟩
      refine z_cV (As := [.int (zI (2)), .int (zI (xy148))]) (rest := []) (ci := 9) C (c_X7_fail l D A cs tt N ad _ (by omega) _ tp hruny151 (2) (by omega) (xy148) (by omega)) (lt_K hN (rfl : Nat.blt (2) 952 = true)) hay2 hcdy132 rfl rfl mv_yX7_fail q_809 hd_yX7_fail (by decide) (Nat.le_of_ble_eq_true rfl) (by decide) dX7_readLayer_51 rfl (kV0 fun gvy152 hvy152 => ?_)
      obtain ⟨⟨covy152, hkvy152, hnvy152⟩, hfvy152⟩ := hvy152
      obtain ⟨pldy153, endy153, tydy153, a9dy153, bedy153, tkdy153, tddy153, hAdy153, hTdy153, hcdy153, hddy153⟩ := id hkvy152
      have hruny154 : okRun cs ad gvy152 (covy152) tp := ⟨_, _, _, _, _, _, _, by omega, by omega, hcdy153, hddy153⟩
      refine z_lv (lv' := [(0, .ref (ad 2)), (1, .ref (ad 883)), (2, .ref (ad 890)), (3, .int (zI (vy131)))]) [1, 2, 3, 0] rfl ?_
      exact s54 (vy131) (covy152) gvy152 hruny154 (by omega) (fun j j1 => by rw [hfvy152 _ (by omega)]; rw [hfvy131 _ (by omega)]; rw [hfvy128 _ (by omega)]) (by omega) (by omega)
  · refine z_aload_n C 1 dX7_readLayer_19 rfl ?_
    refine z_iconst (z := 3) C dX7_readLayer_20 rfl ?_
    refine z_aload_n C 1 dX7_readLayer_21 rfl ?_
    refine z_get (v := .int (zI (tkdy132))) C (lt_K hN (rfl : Nat.blt (2) 952 = true)) hay2 hcdy132 rfl inA_X7 7 (by decide) q_51 rfl rfl dX7_readLayer_22 ?_
    obtain ⟨xy155, exy156, hxy157⟩ := zI_of (zI (tkdy132))
    rw [exy156]
    have hruny158 : okRun cs ad gvy131 (covy131) tp := ⟨_, _, _, _, _, _, _, by omega, by omega, hcdy132, hddy132⟩
    refine z_cV (As := [.int (zI (3)), .int (zI (xy155))]) (rest := []) (ci := 9) C (c_X7_fail l D A cs tt N ad _ (by omega) _ tp hruny158 (3) (by omega) (xy155) (by omega)) (lt_K hN (rfl : Nat.blt (2) 952 = true)) hay2 hcdy132 rfl rfl mv_yX7_fail q_809 hd_yX7_fail (by decide) (Nat.le_of_ble_eq_true rfl) (by decide) dX7_readLayer_25 rfl (kV0 fun gvy159 hvy159 => ?_)
    obtain ⟨⟨covy159, hkvy159, hnvy159⟩, hfvy159⟩ := hvy159
    obtain ⟨pldy160, endy160, tydy160, a9dy160, bedy160, tkdy160, tddy160, hAdy160, hTdy160, hcdy160, hddy160⟩ := id hkvy159
    refine z_goto (tgt := 54) C dX7_readLayer_28 (by decide) ?_
    have hruny161 : okRun cs ad gvy159 (covy159) tp := ⟨_, _, _, _, _, _, _, by omega, by omega, hcdy160, hddy160⟩
    refine z_lv (lv' := [(0, .ref (ad 2)), (1, .ref (ad 883)), (2, .ref (ad 890)), (3, .int (zI (vy131)))]) [1, 2, 3, 0] rfl ?_
    exact s54 (vy131) (covy159) gvy159 hruny161 (by omega) (fun j j1 => by rw [hfvy159 _ (by omega)]; rw [hfvy131 _ (by omega)]; rw [hfvy128 _ (by omega)]) (by omega) (by omega)

set_option maxRecDepth 100000 in
set_option maxHeartbeats 4000000 in
theorem c_X7_readClause (l : Launch) (D : va_G) (A : Nat → Prop) (cs : Nat → ClassId) (tt : Nat) (N : Nat) (ad : Nat → Nat) (g : Nat → va_E) (hN : 952 ≤ N) (co : Int) (tp : Nat → Int) (hR : okRun cs ad g co tp) (hP9 : okPlan cs ad g 883) (hW9 : okWorld cs ad g 890) : zM l yX7_readClause cX7_readClause 3 none ({ frames := 8, cells := 0, slots := 0, locals := 480 } : Room) D A cs tt N ad g [.ref (ad 2), .ref (ad 883), .ref (ad 890)] (rV0 N ad fun g' => (∃ co' : Int, okRun cs ad g' co' tp ∧ co ≤ co') ∧ okPlan cs ad g' 883 ∧ okWorld cs ad g' 890 ∧ ∀ j, j ≠ 2 → (j < 883 ∨ 900 ≤ j) → g' j = g j) := by
  obtain ⟨pldy1, endy1, tydy1, a9dy1, bedy1, tkdy1, tddy1, hAdy1, hTdy1, hcdy1, hddy1⟩ := id hR
  have hay2 : zAt ad (2) (ad 2) := rfl
  have hay3 : zAt ad (1) (ad 1) := rfl
  have hay4 : zAt ad (883) (ad 883) := rfl
  have hay5 : zAt ad (890) (ad 890) := rfl
  refine z_of (by decide) (Nat.le_of_ble_eq_true rfl) ?_
  intro p e s m below meth c C hr hlk hnm
  refine z_lv (lv' := [(0, .ref (ad 2)), (1, .ref (ad 883)), (2, .ref (ad 890))]) [0, 1, 2] rfl ?_
  refine z_aload_n C 0 dX7_readClause_0 rfl ?_
  refine z_ldcS C skm0 rfl rfl dX7_readClause_1 ?_
  have hruny6 : okRun cs ad g (co) tp := ⟨_, _, _, _, _, _, _, by omega, by omega, hcdy1, hddy1⟩
  refine z_cV (As := [.ref (cs (100 + 0))]) (rest := []) (ci := 9) C (c_X7_is l D A cs tt N ad _ (by omega) _ tp hruny6 _ skm0) (lt_K hN (rfl : Nat.blt (2) 952 = true)) hay2 hcdy1 rfl rfl mv_yX7_is q_754 hd_yX7_is (by decide) (Nat.le_of_ble_eq_true rfl) (by decide) dX7_readClause_3 rfl (kI0 fun vy7 gvy7 hvy7 => ?_)
  obtain ⟨hvy7, rfl⟩ := hvy7
  refine z_if_eq (tgt := 17) C dX7_readClause_6 (by decide) (by omega) (fun hby8 => ?_) (fun hby8 => ?_)
  · refine z_aload_n C 0 dX7_readClause_17 rfl ?_
    refine z_ldcS C skm1 rfl rfl dX7_readClause_18 ?_
    have hruny9 : okRun cs ad g (co) tp := ⟨_, _, _, _, _, _, _, by omega, by omega, hcdy1, hddy1⟩
    refine z_cV (As := [.ref (cs (100 + 1))]) (rest := []) (ci := 9) C (c_X7_is l D A cs tt N ad _ (by omega) _ tp hruny9 _ skm1) (lt_K hN (rfl : Nat.blt (2) 952 = true)) hay2 hcdy1 rfl rfl mv_yX7_is q_754 hd_yX7_is (by decide) (Nat.le_of_ble_eq_true rfl) (by decide) dX7_readClause_20 rfl (kI0 fun vy10 gvy10 hvy10 => ?_)
    obtain ⟨hvy10, rfl⟩ := hvy10
    refine z_if_eq (tgt := 35) C dX7_readClause_23 (by decide) (by omega) (fun hby11 => ?_) (fun hby11 => ?_)
    · refine z_aload_n C 0 dX7_readClause_35 rfl ?_
      refine z_ldcS C skm7 rfl rfl dX7_readClause_36 ?_
      have hruny12 : okRun cs ad g (co) tp := ⟨_, _, _, _, _, _, _, by omega, by omega, hcdy1, hddy1⟩
      refine z_cV (As := [.ref (cs (100 + 7))]) (rest := []) (ci := 9) C (c_X7_is l D A cs tt N ad _ (by omega) _ tp hruny12 _ skm7) (lt_K hN (rfl : Nat.blt (2) 952 = true)) hay2 hcdy1 rfl rfl mv_yX7_is q_754 hd_yX7_is (by decide) (Nat.le_of_ble_eq_true rfl) (by decide) dX7_readClause_38 rfl (kI0 fun vy13 gvy13 hvy13 => ?_)
      obtain ⟨hvy13, rfl⟩ := hvy13
      refine z_if_eq (tgt := 52) C dX7_readClause_41 (by decide) (by omega) (fun hby14 => ?_) (fun hby14 => ?_)
      · refine z_aload_n C 0 dX7_readClause_52 rfl ?_
        refine z_ldcS C skm11 rfl rfl dX7_readClause_53 ?_
        have hruny15 : okRun cs ad g (co) tp := ⟨_, _, _, _, _, _, _, by omega, by omega, hcdy1, hddy1⟩
        refine z_cV (As := [.ref (cs (100 + 11))]) (rest := []) (ci := 9) C (c_X7_is l D A cs tt N ad _ (by omega) _ tp hruny15 _ skm11) (lt_K hN (rfl : Nat.blt (2) 952 = true)) hay2 hcdy1 rfl rfl mv_yX7_is q_754 hd_yX7_is (by decide) (Nat.le_of_ble_eq_true rfl) (by decide) dX7_readClause_55 rfl (kI0 fun vy16 gvy16 hvy16 => ?_)
        obtain ⟨hvy16, rfl⟩ := hvy16
        refine z_if_eq (tgt := 73) C dX7_readClause_58 (by decide) (by omega) (fun hby17 => ?_) (fun hby17 => ?_)
        · refine z_aload_n C 0 dX7_readClause_73 rfl ?_
          refine z_ldcS C skm12 rfl rfl dX7_readClause_74 ?_
          have hruny18 : okRun cs ad g (co) tp := ⟨_, _, _, _, _, _, _, by omega, by omega, hcdy1, hddy1⟩
          refine z_cV (As := [.ref (cs (100 + 12))]) (rest := []) (ci := 9) C (c_X7_is l D A cs tt N ad _ (by omega) _ tp hruny18 _ skm12) (lt_K hN (rfl : Nat.blt (2) 952 = true)) hay2 hcdy1 rfl rfl mv_yX7_is q_754 hd_yX7_is (by decide) (Nat.le_of_ble_eq_true rfl) (by decide) dX7_readClause_76 rfl (kI0 fun vy19 gvy19 hvy19 => ?_)
          obtain ⟨hvy19, rfl⟩ := hvy19
          refine z_if_eq (tgt := 94) C dX7_readClause_79 (by decide) (by omega) (fun hby20 => ?_) (fun hby20 => ?_)
          · refine z_aload_n C 0 dX7_readClause_94 rfl ?_
            refine z_ldcS C skm13 rfl rfl dX7_readClause_95 ?_
            have hruny21 : okRun cs ad g (co) tp := ⟨_, _, _, _, _, _, _, by omega, by omega, hcdy1, hddy1⟩
            refine z_cV (As := [.ref (cs (100 + 13))]) (rest := []) (ci := 9) C (c_X7_is l D A cs tt N ad _ (by omega) _ tp hruny21 _ skm13) (lt_K hN (rfl : Nat.blt (2) 952 = true)) hay2 hcdy1 rfl rfl mv_yX7_is q_754 hd_yX7_is (by decide) (Nat.le_of_ble_eq_true rfl) (by decide) dX7_readClause_97 rfl (kI0 fun vy22 gvy22 hvy22 => ?_)
            obtain ⟨hvy22, rfl⟩ := hvy22
            refine z_if_eq (tgt := 117) C dX7_readClause_100 (by decide) (by omega) (fun hby23 => ?_) (fun hby23 => ?_)
            · refine z_aload_n C 0 dX7_readClause_117 rfl ?_
              refine z_iconst (z := 1) C dX7_readClause_118 rfl ?_
              refine z_aload_n C 0 dX7_readClause_119 rfl ?_
              refine z_get (v := .int (zI (a9dy1))) C (lt_K hN (rfl : Nat.blt (2) 952 = true)) hay2 hcdy1 rfl inA_X7 5 (by decide) q_49 rfl rfl dX7_readClause_120 ?_
              have hruny24 : okRun cs ad g (co) tp := ⟨_, _, _, _, _, _, _, by omega, by omega, hcdy1, hddy1⟩
              refine z_cV (As := [.int (zI (1)), .int (zI (a9dy1))]) (rest := []) (ci := 9) C (c_X7_fail l D A cs tt N ad _ (by omega) _ tp hruny24 (1) (by omega) (a9dy1) (by omega)) (lt_K hN (rfl : Nat.blt (2) 952 = true)) hay2 hcdy1 rfl rfl mv_yX7_fail q_809 hd_yX7_fail (by decide) (Nat.le_of_ble_eq_true rfl) (by decide) dX7_readClause_123 rfl (kV0 fun gvy25 hvy25 => ?_)
              obtain ⟨⟨covy25, hkvy25, hnvy25⟩, hfvy25⟩ := hvy25
              obtain ⟨pldy26, endy26, tydy26, a9dy26, bedy26, tkdy26, tddy26, hAdy26, hTdy26, hcdy26, hddy26⟩ := id hkvy25
              have hruny27 : okRun cs ad gvy25 (covy25) tp := ⟨_, _, _, _, _, _, _, by omega, by omega, hcdy26, hddy26⟩
              have hpy28 := okPlan.mv (ad' := ad) (g' := gvy25) (fun j h1 h2 => by rfl) (fun j h1 h2 => by rw [hfvy25 _ (by omega)]) hP9
              have hoky29 : okWorld cs ad gvy25 (890) := okWorld.mv (fun j j1 j2 => by rw [hfvy25 _ (by omega)]) hW9
              exact z_vret C hr hlk dX7_readClause_126 (by decide) (by decide) ⟨rfl, rfl, rfl, ⟨_, hruny27, by omega⟩, hpy28, hoky29, fun j j1 j2 => by rw [hfvy25 _ (by omega)]⟩
            · refine z_aload_n C 0 dX7_readClause_103 rfl ?_
              refine z_aload_n C 1 dX7_readClause_104 rfl ?_
              refine z_bipush (z := 10) C dX7_readClause_105 (by decide) ?_
              refine z_iconst (z := 1) C dX7_readClause_107 rfl ?_
              refine z_sipush (z := 9999) C dX7_readClause_108 (by decide) ?_
              have hruny30 : okRun cs ad g (co) tp := ⟨_, _, _, _, _, _, _, by omega, by omega, hcdy1, hddy1⟩
              refine z_cV (As := [.ref (ad 883), .int (zI (10)), .int (zI (1)), .int (zI (9999))]) (rest := []) (ci := 9) C (c_X7_readTable l D A cs tt N ad _ (by omega) _ tp hruny30 hP9  (10) (by omega) (1) (by omega) (9999) (by omega)) (lt_K hN (rfl : Nat.blt (2) 952 = true)) hay2 hcdy1 rfl rfl mv_yX7_readTable q_856 hd_yX7_readTable (by decide) (Nat.le_of_ble_eq_true rfl) (by decide) dX7_readClause_111 rfl (kV0 fun gvy31 hvy31 => ?_)
              obtain ⟨⟨covy31, hkvy31, hnvy31⟩, hpvy31, hfvy31⟩ := hvy31
              obtain ⟨pldy32, endy32, tydy32, a9dy32, bedy32, tkdy32, tddy32, hAdy32, hTdy32, hcdy32, hddy32⟩ := id hkvy31
              refine z_goto (tgt := 126) C dX7_readClause_114 (by decide) ?_
              have hruny33 : okRun cs ad gvy31 (covy31) tp := ⟨_, _, _, _, _, _, _, by omega, by omega, hcdy32, hddy32⟩
              have hoky34 : okWorld cs ad gvy31 (890) := okWorld.mv (fun j j1 j2 => by rw [hfvy31 _ (by omega) (by omega)]) hW9
              exact z_vret C hr hlk dX7_readClause_126 (by decide) (by decide) ⟨rfl, rfl, rfl, ⟨_, hruny33, by omega⟩, hpvy31, hoky34, fun j j1 j2 => by rw [hfvy31 _ (by omega) (by omega)]⟩
          · refine z_aload_n C 0 dX7_readClause_82 rfl ?_
            refine z_aload_n C 1 dX7_readClause_83 rfl ?_
            refine z_iconst (z := 5) C dX7_readClause_84 rfl ?_
            refine z_iconst (z := 0) C dX7_readClause_85 rfl ?_
            refine z_bipush (z := 99) C dX7_readClause_86 (by decide) ?_
            have hruny35 : okRun cs ad g (co) tp := ⟨_, _, _, _, _, _, _, by omega, by omega, hcdy1, hddy1⟩
            refine z_cV (As := [.ref (ad 883), .int (zI (5)), .int (zI (0)), .int (zI (99))]) (rest := []) (ci := 9) C (c_X7_readTable l D A cs tt N ad _ (by omega) _ tp hruny35 hP9  (5) (by omega) (0) (by omega) (99) (by omega)) (lt_K hN (rfl : Nat.blt (2) 952 = true)) hay2 hcdy1 rfl rfl mv_yX7_readTable q_856 hd_yX7_readTable (by decide) (Nat.le_of_ble_eq_true rfl) (by decide) dX7_readClause_88 rfl (kV0 fun gvy36 hvy36 => ?_)
            obtain ⟨⟨covy36, hkvy36, hnvy36⟩, hpvy36, hfvy36⟩ := hvy36
            obtain ⟨pldy37, endy37, tydy37, a9dy37, bedy37, tkdy37, tddy37, hAdy37, hTdy37, hcdy37, hddy37⟩ := id hkvy36
            refine z_goto (tgt := 126) C dX7_readClause_91 (by decide) ?_
            have hruny38 : okRun cs ad gvy36 (covy36) tp := ⟨_, _, _, _, _, _, _, by omega, by omega, hcdy37, hddy37⟩
            have hoky39 : okWorld cs ad gvy36 (890) := okWorld.mv (fun j j1 j2 => by rw [hfvy36 _ (by omega) (by omega)]) hW9
            exact z_vret C hr hlk dX7_readClause_126 (by decide) (by decide) ⟨rfl, rfl, rfl, ⟨_, hruny38, by omega⟩, hpvy36, hoky39, fun j j1 j2 => by rw [hfvy36 _ (by omega) (by omega)]⟩
        · refine z_aload_n C 0 dX7_readClause_61 rfl ?_
          refine z_aload_n C 1 dX7_readClause_62 rfl ?_
          refine z_iconst (z := 0) C dX7_readClause_63 rfl ?_
          refine z_iconst (z := 0) C dX7_readClause_64 rfl ?_
          refine z_bipush (z := 99) C dX7_readClause_65 (by decide) ?_
          have hruny40 : okRun cs ad g (co) tp := ⟨_, _, _, _, _, _, _, by omega, by omega, hcdy1, hddy1⟩
          refine z_cV (As := [.ref (ad 883), .int (zI (0)), .int (zI (0)), .int (zI (99))]) (rest := []) (ci := 9) C (c_X7_readTable l D A cs tt N ad _ (by omega) _ tp hruny40 hP9  (0) (by omega) (0) (by omega) (99) (by omega)) (lt_K hN (rfl : Nat.blt (2) 952 = true)) hay2 hcdy1 rfl rfl mv_yX7_readTable q_856 hd_yX7_readTable (by decide) (Nat.le_of_ble_eq_true rfl) (by decide) dX7_readClause_67 rfl (kV0 fun gvy41 hvy41 => ?_)
          obtain ⟨⟨covy41, hkvy41, hnvy41⟩, hpvy41, hfvy41⟩ := hvy41
          obtain ⟨pldy42, endy42, tydy42, a9dy42, bedy42, tkdy42, tddy42, hAdy42, hTdy42, hcdy42, hddy42⟩ := id hkvy41
          refine z_goto (tgt := 126) C dX7_readClause_70 (by decide) ?_
          have hruny43 : okRun cs ad gvy41 (covy41) tp := ⟨_, _, _, _, _, _, _, by omega, by omega, hcdy42, hddy42⟩
          have hoky44 : okWorld cs ad gvy41 (890) := okWorld.mv (fun j j1 j2 => by rw [hfvy41 _ (by omega) (by omega)]) hW9
          exact z_vret C hr hlk dX7_readClause_126 (by decide) (by decide) ⟨rfl, rfl, rfl, ⟨_, hruny43, by omega⟩, hpvy41, hoky44, fun j j1 j2 => by rw [hfvy41 _ (by omega) (by omega)]⟩
      · refine z_aload_n C 0 dX7_readClause_44 rfl ?_
        refine z_aload_n C 1 dX7_readClause_45 rfl ?_
        have hruny45 : okRun cs ad g (co) tp := ⟨_, _, _, _, _, _, _, by omega, by omega, hcdy1, hddy1⟩
        refine z_cV (As := [.ref (ad 883)]) (rest := []) (ci := 9) C (c_X7_readHour l D A cs tt N ad _ (by omega) _ tp hruny45 hP9  ) (lt_K hN (rfl : Nat.blt (2) 952 = true)) hay2 hcdy1 rfl rfl mv_yX7_readHour q_844 hd_yX7_readHour (by decide) (Nat.le_of_ble_eq_true rfl) (by decide) dX7_readClause_46 rfl (kV0 fun gvy46 hvy46 => ?_)
        obtain ⟨⟨covy46, hkvy46, hnvy46⟩, hpvy46, hfvy46⟩ := hvy46
        obtain ⟨pldy47, endy47, tydy47, a9dy47, bedy47, tkdy47, tddy47, hAdy47, hTdy47, hcdy47, hddy47⟩ := id hkvy46
        refine z_goto (tgt := 126) C dX7_readClause_49 (by decide) ?_
        have hruny48 : okRun cs ad gvy46 (covy46) tp := ⟨_, _, _, _, _, _, _, by omega, by omega, hcdy47, hddy47⟩
        have hoky49 : okWorld cs ad gvy46 (890) := okWorld.mv (fun j j1 j2 => by rw [hfvy46 _ (by omega) (by omega)]) hW9
        exact z_vret C hr hlk dX7_readClause_126 (by decide) (by decide) ⟨rfl, rfl, rfl, ⟨_, hruny48, by omega⟩, hpvy46, hoky49, fun j j1 j2 => by rw [hfvy46 _ (by omega) (by omega)]⟩
    · refine z_aload_n C 0 dX7_readClause_26 rfl ?_
      refine z_aload_n C 1 dX7_readClause_27 rfl ?_
      refine z_aload_n C 2 dX7_readClause_28 rfl ?_
      have hruny50 : okRun cs ad g (co) tp := ⟨_, _, _, _, _, _, _, by omega, by omega, hcdy1, hddy1⟩
      refine z_cV (As := [.ref (ad 883), .ref (ad 890)]) (rest := []) (ci := 9) C (c_X7_readLayer l D A cs tt N ad _ (by omega) _ tp hruny50 hP9 hW9 ) (lt_K hN (rfl : Nat.blt (2) 952 = true)) hay2 hcdy1 rfl rfl mv_yX7_readLayer q_826 hd_yX7_readLayer (by decide) (Nat.le_of_ble_eq_true rfl) (by decide) dX7_readClause_29 rfl (kV0 fun gvy51 hvy51 => ?_)
      obtain ⟨⟨covy51, hkvy51, hnvy51⟩, hpvy51, hwvy51, hfvy51⟩ := hvy51
      obtain ⟨pldy52, endy52, tydy52, a9dy52, bedy52, tkdy52, tddy52, hAdy52, hTdy52, hcdy52, hddy52⟩ := id hkvy51
      refine z_goto (tgt := 126) C dX7_readClause_32 (by decide) ?_
      have hruny53 : okRun cs ad gvy51 (covy51) tp := ⟨_, _, _, _, _, _, _, by omega, by omega, hcdy52, hddy52⟩
      exact z_vret C hr hlk dX7_readClause_126 (by decide) (by decide) ⟨rfl, rfl, rfl, ⟨_, hruny53, by omega⟩, hpvy51, hwvy51, fun j j1 j2 => by rw [hfvy51 _ (by omega) (by omega)]⟩
  · refine z_aload_n C 0 dX7_readClause_9 rfl ?_
    refine z_aload_n C 1 dX7_readClause_10 rfl ?_
    have hruny54 : okRun cs ad g (co) tp := ⟨_, _, _, _, _, _, _, by omega, by omega, hcdy1, hddy1⟩
    refine z_cV (As := [.ref (ad 883)]) (rest := []) (ci := 9) C (c_X7_readSlope l D A cs tt N ad _ (by omega) _ tp hruny54 hP9  ) (lt_K hN (rfl : Nat.blt (2) 952 = true)) hay2 hcdy1 rfl rfl mv_yX7_readSlope q_805 hd_yX7_readSlope (by decide) (Nat.le_of_ble_eq_true rfl) (by decide) dX7_readClause_11 rfl (kV0 fun gvy55 hvy55 => ?_)
    obtain ⟨⟨covy55, hkvy55, hnvy55⟩, hpvy55, hfvy55⟩ := hvy55
    obtain ⟨pldy56, endy56, tydy56, a9dy56, bedy56, tkdy56, tddy56, hAdy56, hTdy56, hcdy56, hddy56⟩ := id hkvy55
    refine z_goto (tgt := 126) C dX7_readClause_14 (by decide) ?_
    have hruny57 : okRun cs ad gvy55 (covy55) tp := ⟨_, _, _, _, _, _, _, by omega, by omega, hcdy56, hddy56⟩
    have hoky58 : okWorld cs ad gvy55 (890) := okWorld.mv (fun j j1 j2 => by rw [hfvy55 _ (by omega) (by omega)]) hW9
    exact z_vret C hr hlk dX7_readClause_126 (by decide) (by decide) ⟨rfl, rfl, rfl, ⟨_, hruny57, by omega⟩, hpvy55, hoky58, fun j j1 j2 => by rw [hfvy55 _ (by omega) (by omega)]⟩
end
section
-- 68.words.lean.txt
-- words of snow
theorem q_44 : (Jvm.Cond.fieldLink "SnowRecorder" (97 : Nat) "SnowRecorder$TextReader" "place" "I") ∈ AW := AW_m1 44 (by decide +kernel) (by decide +kernel)
theorem q_724 : (Jvm.Cond.methodLink "SnowRecorder" (93 : Nat) ({ cls := "SnowRecorder$TextReader", name := "read", desc := "([BILSnowRecorder$Plan;LSnowRecorder$World;)I" } : Jvm.MethodName)) ∈ AW := AW_m4 4 (by decide +kernel) (by decide +kernel)
theorem q_725 : (Jvm.Cond.instanceMethod ({ cls := "SnowRecorder$TextReader", name := "read", desc := "([BILSnowRecorder$Plan;LSnowRecorder$World;)I" } : Jvm.MethodName)) ∈ AW := AW_m4 5 (by decide +kernel) (by decide +kernel)
theorem q_726 : (Jvm.Cond.selects "SnowRecorder$TextReader" ({ cls := "SnowRecorder$TextReader", name := "read", desc := "([BILSnowRecorder$Plan;LSnowRecorder$World;)I" } : Jvm.MethodName) ({ cls := "SnowRecorder$TextReader", name := "read", desc := "([BILSnowRecorder$Plan;LSnowRecorder$World;)I" } : Jvm.MethodName)) ∈ AW := AW_m4 6 (by decide +kernel) (by decide +kernel)
theorem q_727 : (Jvm.Cond.code ({ cls := "SnowRecorder$TextReader", name := "read", desc := "([BILSnowRecorder$Plan;LSnowRecorder$World;)I" } : Jvm.MethodName) prog_9_method_2_code (6 : Nat) (Option.some Jvm.ClassFile.FieldType.int)) ∈ AW := AW_m4 7 (by decide +kernel) (by decide +kernel)
theorem q_728 : (Jvm.Cond.methodLink "SnowRecorder$TextReader" (40 : Nat) ({ cls := "java/lang/Math", name := "min", desc := "(II)I" } : Jvm.MethodName)) ∈ AW := AW_m4 8 (by decide +kernel) (by decide +kernel)
theorem q_729 : (Jvm.Cond.methodLink "SnowRecorder$TextReader" (46 : Nat) ({ cls := "SnowRecorder$Plan", name := "clear", desc := "()V" } : Jvm.MethodName)) ∈ AW := AW_m4 9 (by decide +kernel) (by decide +kernel)
theorem q_730 : (Jvm.Cond.instanceMethod ({ cls := "SnowRecorder$Plan", name := "clear", desc := "()V" } : Jvm.MethodName)) ∈ AW := AW_m4 10 (by decide +kernel) (by decide +kernel)
theorem q_731 : (Jvm.Cond.selects "SnowRecorder$Plan" ({ cls := "SnowRecorder$Plan", name := "clear", desc := "()V" } : Jvm.MethodName) ({ cls := "SnowRecorder$Plan", name := "clear", desc := "()V" } : Jvm.MethodName)) ∈ AW := AW_m4 11 (by decide +kernel) (by decide +kernel)
theorem q_732 : (Jvm.Cond.code ({ cls := "SnowRecorder$Plan", name := "clear", desc := "()V" } : Jvm.MethodName) prog_7_method_2_code (1 : Nat) (Option.none : Option Jvm.ClassFile.FieldType)) ∈ AW := AW_m4 12 (by decide +kernel) (by decide +kernel)
theorem q_734 : (Jvm.Cond.methodLink "SnowRecorder$TextReader" (51 : Nat) ({ cls := "SnowRecorder$World", name := "clear", desc := "()V" } : Jvm.MethodName)) ∈ AW := AW_m4 14 (by decide +kernel) (by decide +kernel)
theorem q_735 : (Jvm.Cond.instanceMethod ({ cls := "SnowRecorder$World", name := "clear", desc := "()V" } : Jvm.MethodName)) ∈ AW := AW_m4 15 (by decide +kernel) (by decide +kernel)
theorem q_736 : (Jvm.Cond.selects "SnowRecorder$World" ({ cls := "SnowRecorder$World", name := "clear", desc := "()V" } : Jvm.MethodName) ({ cls := "SnowRecorder$World", name := "clear", desc := "()V" } : Jvm.MethodName)) ∈ AW := AW_m4 16 (by decide +kernel) (by decide +kernel)
theorem q_737 : (Jvm.Cond.code ({ cls := "SnowRecorder$World", name := "clear", desc := "()V" } : Jvm.MethodName) prog_10_method_2_code (2 : Nat) (Option.none : Option Jvm.ClassFile.FieldType)) ∈ AW := AW_m4 17 (by decide +kernel) (by decide +kernel)
theorem q_749 : (Jvm.Cond.methodLink "SnowRecorder$TextReader" (57 : Nat) ({ cls := "SnowRecorder$TextReader", name := "readClause", desc := "(LSnowRecorder$Plan;LSnowRecorder$World;)V" } : Jvm.MethodName)) ∈ AW := AW_m4 29 (by decide +kernel) (by decide +kernel)
theorem q_751 : (Jvm.Cond.instanceMethod ({ cls := "SnowRecorder$TextReader", name := "readClause", desc := "(LSnowRecorder$Plan;LSnowRecorder$World;)V" } : Jvm.MethodName)) ∈ AW := AW_m4 31 (by decide +kernel) (by decide +kernel)
theorem q_752 : (Jvm.Cond.code ({ cls := "SnowRecorder$TextReader", name := "readClause", desc := "(LSnowRecorder$Plan;LSnowRecorder$World;)V" } : Jvm.MethodName) prog_9_method_3_code (3 : Nat) (Option.none : Option Jvm.ClassFile.FieldType)) ∈ AW := AW_m4 32 (by decide +kernel) (by decide +kernel)
theorem q_866 : (Jvm.Cond.methodLink "SnowRecorder" (108 : Nat) ({ cls := "SnowRecorder$State", name := "beginWith", desc := "(LSnowRecorder$World;)V" } : Jvm.MethodName)) ∈ AW := AW_m4 146 (by decide +kernel) (by decide +kernel)
theorem q_867 : (Jvm.Cond.instanceMethod ({ cls := "SnowRecorder$State", name := "beginWith", desc := "(LSnowRecorder$World;)V" } : Jvm.MethodName)) ∈ AW := AW_m4 147 (by decide +kernel) (by decide +kernel)
theorem q_868 : (Jvm.Cond.selects "SnowRecorder$State" ({ cls := "SnowRecorder$State", name := "beginWith", desc := "(LSnowRecorder$World;)V" } : Jvm.MethodName) ({ cls := "SnowRecorder$State", name := "beginWith", desc := "(LSnowRecorder$World;)V" } : Jvm.MethodName)) ∈ AW := AW_m4 148 (by decide +kernel) (by decide +kernel)
theorem q_869 : (Jvm.Cond.code ({ cls := "SnowRecorder$State", name := "beginWith", desc := "(LSnowRecorder$World;)V" } : Jvm.MethodName) prog_8_method_2_code (2 : Nat) (Option.none : Option Jvm.ClassFile.FieldType)) ∈ AW := AW_m4 149 (by decide +kernel) (by decide +kernel)
theorem s_10 : Cond.selects "SnowRecorder$TextReader" ({ cls := "SnowRecorder$TextReader", name := "readClause", desc := "(LSnowRecorder$Plan;LSnowRecorder$World;)V" } : Jvm.MethodName) ({ cls := "SnowRecorder$TextReader", name := "readClause", desc := "(LSnowRecorder$Plan;LSnowRecorder$World;)V" } : Jvm.MethodName) ∈ AW := AW_m 10 (by decide +kernel) (by decide +kernel)
theorem hd_yX5_clear : yX5_clear.cls ≠ "java/lang/invoke/MethodHandle" ∧ yX5_clear.cls ≠ "java/lang/invoke/VarHandle" ∧ (parseMethodDescriptor yX5_clear.desc).map (fun d => d.parameters.length) = some 0 := by decide +kernel
theorem hd_yX8_clear : yX8_clear.cls ≠ "java/lang/invoke/MethodHandle" ∧ yX8_clear.cls ≠ "java/lang/invoke/VarHandle" ∧ (parseMethodDescriptor yX8_clear.desc).map (fun d => d.parameters.length) = some 0 := by decide +kernel
theorem hd_yX7_readClause : yX7_readClause.cls ≠ "java/lang/invoke/MethodHandle" ∧ yX7_readClause.cls ≠ "java/lang/invoke/VarHandle" ∧ (parseMethodDescriptor yX7_readClause.desc).map (fun d => d.parameters.length) = some 2 := by decide +kernel
theorem hd_yX7_read : yX7_read.cls ≠ "java/lang/invoke/MethodHandle" ∧ yX7_read.cls ≠ "java/lang/invoke/VarHandle" ∧ (parseMethodDescriptor yX7_read.desc).map (fun d => d.parameters.length) = some 4 := by decide +kernel
theorem hd_yX6_beginWith : yX6_beginWith.cls ≠ "java/lang/invoke/MethodHandle" ∧ yX6_beginWith.cls ≠ "java/lang/invoke/VarHandle" ∧ (parseMethodDescriptor yX6_beginWith.desc).map (fun d => d.parameters.length) = some 1 := by decide +kernel
theorem mv_yX5_clear : zWv yX5_clear cX5_clear 1 none := ⟨q_730, q_731, q_3, q_732⟩
theorem mv_yX8_clear : zWv yX8_clear cX8_clear 2 none := ⟨q_735, q_736, q_5, q_737⟩
theorem mv_yX7_readClause : zWv yX7_readClause cX7_readClause 3 none := ⟨q_751, s_10, q_2, q_752⟩
theorem mv_yX7_read : zWv yX7_read cX7_read 6 (some .int) := ⟨q_725, q_726, q_2, q_727⟩
theorem mv_yX6_beginWith : zWv yX6_beginWith cX6_beginWith 2 none := ⟨q_867, q_868, q_4, q_869⟩
end
section
-- 69.dec.lean.txt
-- decode rows of snow
theorem dX5_clear_0 : decode cX5_clear 0 = .ok (.aload_n 0, 1) := by decide +kernel
theorem dX5_clear_1 : decode cX5_clear 1 = .ok (.iconst 0, 1) := by decide +kernel
theorem dX5_clear_2 : decode cX5_clear 2 = .ok (.putfield 9, 3) := by decide +kernel
theorem dX5_clear_5 : decode cX5_clear 5 = .ok (.aload_n 0, 1) := by decide +kernel
theorem dX5_clear_6 : decode cX5_clear 6 = .ok (.iconst 0, 1) := by decide +kernel
theorem dX5_clear_7 : decode cX5_clear 7 = .ok (.putfield 15, 3) := by decide +kernel
theorem dX5_clear_10 : decode cX5_clear 10 = .ok (.aload_n 0, 1) := by decide +kernel
theorem dX5_clear_11 : decode cX5_clear 11 = .ok (.iconst 0, 1) := by decide +kernel
theorem dX5_clear_12 : decode cX5_clear 12 = .ok (.putfield 18, 3) := by decide +kernel
theorem dX5_clear_15 : decode cX5_clear 15 = .ok (.getstatic 37, 3) := by decide +kernel
theorem dX5_clear_18 : decode cX5_clear 18 = .ok (.iconst 0, 1) := by decide +kernel
theorem dX5_clear_19 : decode cX5_clear 19 = .ok (.aload_n 0, 1) := by decide +kernel
theorem dX5_clear_20 : decode cX5_clear 20 = .ok (.getfield 45, 3) := by decide +kernel
theorem dX5_clear_23 : decode cX5_clear 23 = .ok (.iconst 0, 1) := by decide +kernel
theorem dX5_clear_24 : decode cX5_clear 24 = .ok (.aload_n 0, 1) := by decide +kernel
theorem dX5_clear_25 : decode cX5_clear 25 = .ok (.getfield 45, 3) := by decide +kernel
theorem dX5_clear_28 : decode cX5_clear 28 = .ok (.arraylength, 1) := by decide +kernel
theorem dX5_clear_29 : decode cX5_clear 29 = .ok (.invokestatic 48, 3) := by decide +kernel
theorem dX5_clear_32 : decode cX5_clear 32 = .ok (.return_, 1) := by decide +kernel
theorem dX7_read_0 : decode cX7_read 0 = .ok (.aload_n 0, 1) := by decide +kernel
theorem dX7_read_1 : decode cX7_read 1 = .ok (.aload_n 1, 1) := by decide +kernel
theorem dX7_read_2 : decode cX7_read 2 = .ok (.putfield 18, 3) := by decide +kernel
theorem dX7_read_5 : decode cX7_read 5 = .ok (.aload_n 0, 1) := by decide +kernel
theorem dX7_read_6 : decode cX7_read 6 = .ok (.iload_n 2, 1) := by decide +kernel
theorem dX7_read_7 : decode cX7_read 7 = .ok (.aload_n 1, 1) := by decide +kernel
theorem dX7_read_8 : decode cX7_read 8 = .ok (.arraylength, 1) := by decide +kernel
theorem dX7_read_9 : decode cX7_read 9 = .ok (.invokestatic 40, 3) := by decide +kernel
theorem dX7_read_12 : decode cX7_read 12 = .ok (.putfield 22, 3) := by decide +kernel
theorem dX7_read_15 : decode cX7_read 15 = .ok (.aload_n 0, 1) := by decide +kernel
theorem dX7_read_16 : decode cX7_read 16 = .ok (.iconst 0, 1) := by decide +kernel
theorem dX7_read_17 : decode cX7_read 17 = .ok (.putfield 31, 3) := by decide +kernel
theorem dX7_read_20 : decode cX7_read 20 = .ok (.aload_n 0, 1) := by decide +kernel
theorem dX7_read_21 : decode cX7_read 21 = .ok (.iconst 0, 1) := by decide +kernel
theorem dX7_read_22 : decode cX7_read 22 = .ok (.putfield 15, 3) := by decide +kernel
theorem dX7_read_25 : decode cX7_read 25 = .ok (.aload_n 0, 1) := by decide +kernel
theorem dX7_read_26 : decode cX7_read 26 = .ok (.iconst (-1), 1) := by decide +kernel
theorem dX7_read_27 : decode cX7_read 27 = .ok (.putfield 9, 3) := by decide +kernel
theorem dX7_read_30 : decode cX7_read 30 = .ok (.aload_n 0, 1) := by decide +kernel
theorem dX7_read_31 : decode cX7_read 31 = .ok (.iconst 0, 1) := by decide +kernel
theorem dX7_read_32 : decode cX7_read 32 = .ok (.putfield 37, 3) := by decide +kernel
theorem dX7_read_35 : decode cX7_read 35 = .ok (.aload_n 3, 1) := by decide +kernel
theorem dX7_read_36 : decode cX7_read 36 = .ok (.invokevirtual 46, 3) := by decide +kernel
theorem dX7_read_39 : decode cX7_read 39 = .ok (.aload 4, 2) := by decide +kernel
theorem dX7_read_41 : decode cX7_read 41 = .ok (.invokevirtual 51, 3) := by decide +kernel
theorem dX7_read_44 : decode cX7_read 44 = .ok (.aload_n 0, 1) := by decide +kernel
theorem dX7_read_45 : decode cX7_read 45 = .ok (.invokevirtual 54, 3) := by decide +kernel
theorem dX7_read_48 : decode cX7_read 48 = .ok (.iconst 0, 1) := by decide +kernel
theorem dX7_read_49 : decode cX7_read 49 = .ok (.istore 5, 2) := by decide +kernel
theorem dX7_read_51 : decode cX7_read 51 = .ok (.iload 5, 2) := by decide +kernel
theorem dX7_read_53 : decode cX7_read 53 = .ok (.aload_n 0, 1) := by decide +kernel
theorem dX7_read_54 : decode cX7_read 54 = .ok (.getfield 22, 3) := by decide +kernel
theorem dX7_read_57 : decode cX7_read 57 = .ok (.if_icmp .gt 30, 3) := by decide +kernel
theorem dX7_read_87 : decode cX7_read 87 = .ok (.aload_n 0, 1) := by decide +kernel
theorem dX7_read_88 : decode cX7_read 88 = .ok (.getfield 15, 3) := by decide +kernel
theorem dX7_read_91 : decode cX7_read 91 = .ok (.ireturn, 1) := by decide +kernel
theorem dX7_read_60 : decode cX7_read 60 = .ok (.aload_n 0, 1) := by decide +kernel
theorem dX7_read_61 : decode cX7_read 61 = .ok (.getfield 15, 3) := by decide +kernel
theorem dX7_read_64 : decode cX7_read 64 = .ok (.ifCond .ne 23, 3) := by decide +kernel
theorem dX7_read_67 : decode cX7_read 67 = .ok (.aload_n 0, 1) := by decide +kernel
theorem dX7_read_68 : decode cX7_read 68 = .ok (.getfield 25, 3) := by decide +kernel
theorem dX7_read_71 : decode cX7_read 71 = .ok (.ifCond .eq 16, 3) := by decide +kernel
theorem dX7_read_74 : decode cX7_read 74 = .ok (.aload_n 0, 1) := by decide +kernel
theorem dX7_read_75 : decode cX7_read 75 = .ok (.aload_n 3, 1) := by decide +kernel
theorem dX7_read_76 : decode cX7_read 76 = .ok (.aload 4, 2) := by decide +kernel
theorem dX7_read_78 : decode cX7_read 78 = .ok (.invokevirtual 57, 3) := by decide +kernel
theorem dX7_read_81 : decode cX7_read 81 = .ok (.iinc 5 1, 3) := by decide +kernel
theorem dX7_read_84 : decode cX7_read 84 = .ok (.goto (-33), 3) := by decide +kernel
theorem dX9_snow_0 : decode cX9_snow 0 = .ok (.iload_n 1, 1) := by decide +kernel
theorem dX9_snow_1 : decode cX9_snow 1 = .ok (.ifCond .lt 11, 3) := by decide +kernel
theorem dX9_snow_12 : decode cX9_snow 12 = .ok (.new 86, 3) := by decide +kernel
theorem dX9_snow_15 : decode cX9_snow 15 = .ok (.dup, 1) := by decide +kernel
theorem dX9_snow_16 : decode cX9_snow 16 = .ok (.ldc 88, 2) := by decide +kernel
theorem dX9_snow_18 : decode cX9_snow 18 = .ok (.invokespecial 90, 3) := by decide +kernel
theorem dX9_snow_21 : decode cX9_snow 21 = .ok (.athrow, 1) := by decide +kernel
theorem dX9_snow_4 : decode cX9_snow 4 = .ok (.iload_n 1, 1) := by decide +kernel
theorem dX9_snow_5 : decode cX9_snow 5 = .ok (.aload_n 0, 1) := by decide +kernel
theorem dX9_snow_6 : decode cX9_snow 6 = .ok (.getfield 13, 3) := by decide +kernel
theorem dX9_snow_9 : decode cX9_snow 9 = .ok (.if_icmp .le 13, 3) := by decide +kernel
theorem dX9_snow_22 : decode cX9_snow 22 = .ok (.aload_n 0, 1) := by decide +kernel
theorem dX9_snow_23 : decode cX9_snow 23 = .ok (.getfield 23, 3) := by decide +kernel
theorem dX9_snow_26 : decode cX9_snow 26 = .ok (.aload_n 0, 1) := by decide +kernel
theorem dX9_snow_27 : decode cX9_snow 27 = .ok (.getfield 9, 3) := by decide +kernel
theorem dX9_snow_30 : decode cX9_snow 30 = .ok (.iload_n 1, 1) := by decide +kernel
theorem dX9_snow_31 : decode cX9_snow 31 = .ok (.aload_n 0, 1) := by decide +kernel
theorem dX9_snow_32 : decode cX9_snow 32 = .ok (.getfield 48, 3) := by decide +kernel
theorem dX9_snow_35 : decode cX9_snow 35 = .ok (.aload_n 0, 1) := by decide +kernel
theorem dX9_snow_36 : decode cX9_snow 36 = .ok (.getfield 54, 3) := by decide +kernel
theorem dX9_snow_39 : decode cX9_snow 39 = .ok (.invokevirtual 93, 3) := by decide +kernel
theorem dX9_snow_42 : decode cX9_snow 42 = .ok (.istore_n 2, 1) := by decide +kernel
theorem dX9_snow_43 : decode cX9_snow 43 = .ok (.aload_n 0, 1) := by decide +kernel
theorem dX9_snow_44 : decode cX9_snow 44 = .ok (.iconst 0, 1) := by decide +kernel
theorem dX9_snow_45 : decode cX9_snow 45 = .ok (.putfield 13, 3) := by decide +kernel
theorem dX9_snow_48 : decode cX9_snow 48 = .ok (.aload_n 0, 1) := by decide +kernel
theorem dX9_snow_49 : decode cX9_snow 49 = .ok (.aload_n 0, 1) := by decide +kernel
theorem dX9_snow_50 : decode cX9_snow 50 = .ok (.getfield 23, 3) := by decide +kernel
theorem dX9_snow_53 : decode cX9_snow 53 = .ok (.getfield 97, 3) := by decide +kernel
theorem dX9_snow_56 : decode cX9_snow 56 = .ok (.putfield 17, 3) := by decide +kernel
theorem dX9_snow_59 : decode cX9_snow 59 = .ok (.iload_n 2, 1) := by decide +kernel
theorem dX9_snow_60 : decode cX9_snow 60 = .ok (.ifCond .eq 18, 3) := by decide +kernel
theorem dX9_snow_78 : decode cX9_snow 78 = .ok (.aload_n 0, 1) := by decide +kernel
theorem dX9_snow_79 : decode cX9_snow 79 = .ok (.getfield 30, 3) := by decide +kernel
theorem dX9_snow_82 : decode cX9_snow 82 = .ok (.aload_n 0, 1) := by decide +kernel
theorem dX9_snow_83 : decode cX9_snow 83 = .ok (.getfield 48, 3) := by decide +kernel
theorem dX9_snow_86 : decode cX9_snow 86 = .ok (.invokevirtual 104, 3) := by decide +kernel
theorem dX9_snow_89 : decode cX9_snow 89 = .ok (.aload_n 0, 1) := by decide +kernel
theorem dX9_snow_90 : decode cX9_snow 90 = .ok (.getfield 37, 3) := by decide +kernel
theorem dX9_snow_93 : decode cX9_snow 93 = .ok (.aload_n 0, 1) := by decide +kernel
theorem dX9_snow_94 : decode cX9_snow 94 = .ok (.getfield 54, 3) := by decide +kernel
theorem dX9_snow_97 : decode cX9_snow 97 = .ok (.invokevirtual 108, 3) := by decide +kernel
theorem dX9_snow_100 : decode cX9_snow 100 = .ok (.aload_n 0, 1) := by decide +kernel
theorem dX9_snow_101 : decode cX9_snow 101 = .ok (.iconst 0, 1) := by decide +kernel
theorem dX9_snow_102 : decode cX9_snow 102 = .ok (.putfield 44, 3) := by decide +kernel
theorem dX9_snow_105 : decode cX9_snow 105 = .ok (.iconst 0, 1) := by decide +kernel
theorem dX9_snow_106 : decode cX9_snow 106 = .ok (.ireturn, 1) := by decide +kernel
theorem dX9_snow_63 : decode cX9_snow 63 = .ok (.aload_n 0, 1) := by decide +kernel
theorem dX9_snow_64 : decode cX9_snow 64 = .ok (.getfield 37, 3) := by decide +kernel
theorem dX9_snow_67 : decode cX9_snow 67 = .ok (.getfield 100, 3) := by decide +kernel
theorem dX9_snow_70 : decode cX9_snow 70 = .ok (.iconst 0, 1) := by decide +kernel
theorem dX9_snow_71 : decode cX9_snow 71 = .ok (.dup2, 1) := by decide +kernel
theorem dX9_snow_72 : decode cX9_snow 72 = .ok (.iaload, 1) := by decide +kernel
theorem dX9_snow_73 : decode cX9_snow 73 = .ok (.iconst 1, 1) := by decide +kernel
theorem dX9_snow_74 : decode cX9_snow 74 = .ok (.iadd, 1) := by decide +kernel
theorem dX9_snow_75 : decode cX9_snow 75 = .ok (.iastore, 1) := by decide +kernel
theorem dX9_snow_76 : decode cX9_snow 76 = .ok (.iload_n 2, 1) := by decide +kernel
theorem dX9_snow_77 : decode cX9_snow 77 = .ok (.ireturn, 1) := by decide +kernel
end
section
-- 70.snow.lean.txt
theorem okState.refused2 {cs : Nat → ClassId} {ad : Nat → Nat} {g g' : Nat → va_E} {i : Nat} {ac nz : Int} {r' : Nat → Int} (h : okState cs ad g i ac nz) (hG : ∀ j, i ≤ j → j < i + 436 → j ≠ i + 17 → g' j = g j) (hw : g' (i + 17) = iA cs 3 r') : okState cs ad g' i ac nz := by
  have h1 : okState cs ad (va_up g' (i + 17) (g (i + 17))) i ac nz := h.mv (fun _ _ _ => rfl) (fun j a b => by
    by_cases e : j = i + 17
    · subst e; rw [va_up_self]
    · rw [va_up_ne _ _ e]; exact hG j a b e)
  exact okState.refused h1 (fun j e => (va_up_ne _ _ e).symm) hw

set_option maxRecDepth 100000 in
set_option maxHeartbeats 4000000 in
theorem c_X5_clear (l : Launch) (D : va_G) (A : Nat → Prop) (cs : Nat → ClassId) (tt : Nat) (N : Nat) (ad : Nat → Nat) (g : Nat → va_E) (b : Nat) (hNb : b + 7 ≤ N) (sl ho ua : Int) (st op ai fa mu tb : Nat → Int) (hb : isPlan cs ad g b sl ho ua st op ai fa mu tb) : zM l yX5_clear cX5_clear 1 none ({ frames := 1, cells := 0, slots := 0, locals := 60 } : Room) D A cs tt N ad g [.ref (ad b)] (rV0 N ad fun g' => okPlan cs ad g' b ∧ ∀ j, j < b ∨ b + 7 ≤ j → g' j = g j) := by
  have hay1 : zAt ad (b) (ad b) := rfl
  have hay2 : zAt ad (b + 1) (ad (b + 1)) := rfl
  have hay3 : zAt ad (b + 2) (ad (b + 2)) := rfl
  have hay4 : zAt ad (b + 3) (ad (b + 3)) := rfl
  have hay5 : zAt ad (b + 4) (ad (b + 4)) := rfl
  have hay6 : zAt ad (b + 5) (ad (b + 5)) := rfl
  have hay7 : zAt ad (b + 6) (ad (b + 6)) := rfl
  refine z_of (by decide) (Nat.le_of_ble_eq_true rfl) ?_
  intro p e s m below meth c C hr hlk hnm
  refine z_lv (lv' := [(0, .ref (ad b))]) [0] rfl ?_
  refine z_aload_n C 0 dX5_clear_0 rfl ?_
  refine z_iconst (z := 0) C dX5_clear_1 rfl ?_
  refine z_put (fs' := [.int (zI (0)), .int (zI (ho)), .int (zI (ua)), .ref (ad (b + 1)), .ref (ad (b + 2)), .ref (ad (b + 3)), .ref (ad (b + 4)), .ref (ad (b + 5)), .ref (ad (b + 6))]) C (by omega) hay1 hb.1 tyX5 tyX5_ok nmX5 rfl inA_X5 0 (by decide) q_88 rfl rfl rfl rfl (Nat.le_of_ble_eq_true rfl) rfl dX5_clear_2 (fun gy8 egy9 => ?_)
  have hgy10 := up_s egy9
  refine z_aload_n C 0 dX5_clear_5 rfl ?_
  refine z_iconst (z := 0) C dX5_clear_6 rfl ?_
  refine z_put (fs' := [.int (zI (0)), .int (zI (0)), .int (zI (ua)), .ref (ad (b + 1)), .ref (ad (b + 2)), .ref (ad (b + 3)), .ref (ad (b + 4)), .ref (ad (b + 5)), .ref (ad (b + 6))]) C (by omega) hay1 hgy10 tyX5 tyX5_ok nmX5 rfl inA_X5 1 (by decide) q_92 rfl rfl rfl rfl (Nat.le_of_ble_eq_true rfl) rfl dX5_clear_7 (fun gy11 egy12 => ?_)
  have hgy13 := up_s egy12
  refine z_aload_n C 0 dX5_clear_10 rfl ?_
  refine z_iconst (z := 0) C dX5_clear_11 rfl ?_
  refine z_put (fs' := [.int (zI (0)), .int (zI (0)), .int (zI (0)), .ref (ad (b + 1)), .ref (ad (b + 2)), .ref (ad (b + 3)), .ref (ad (b + 4)), .ref (ad (b + 5)), .ref (ad (b + 6))]) C (by omega) hay1 hgy13 tyX5 tyX5_ok nmX5 rfl inA_X5 2 (by decide) q_95 rfl rfl rfl rfl (Nat.le_of_ble_eq_true rfl) rfl dX5_clear_12 (fun gy14 egy15 => ?_)
  have hgy16 := up_s egy15
  refine z_getT C n_79 dX5_clear_15 ?_
  refine z_iconst (z := 0) C dX5_clear_18 rfl ?_
  refine z_aload_n C 0 dX5_clear_19 rfl ?_
  refine z_get (v := .ref (ad (b + 6))) C (by omega) hay1 hgy16 rfl inA_X5 8 (by decide) q_113 rfl rfl dX5_clear_20 ?_
  refine z_iconst (z := 0) C dX5_clear_23 rfl ?_
  refine z_aload_n C 0 dX5_clear_24 rfl ?_
  refine z_get (v := .ref (ad (b + 6))) C (by omega) hay1 hgy16 rfl inA_X5 8 (by decide) q_113 rfl rfl dX5_clear_25 ?_
  have hgy17 := up_n egy9 hb.2.2.2.2.2.2 (ne_o (i := b) (c := 6) (d := 0) rfl)
  have hgy18 := up_n egy12 hgy17 (ne_o (i := b) (c := 6) (d := 0) rfl)
  have hgy19 := up_n egy15 hgy18 (ne_o (i := b) (c := 6) (d := 0) rfl)
  refine z_alen (z := 15) C (by omega) hay7 hgy19 1 rfl rfl dX5_clear_28 ?_
  refine z_copyT C q_733 q_430 q_429 q_21 (by omega) hay7 hgy19 (by decide) (Nat.le_of_ble_eq_true rfl) dX5_clear_29 (fun gy20 egy21 => ?_)
  have hgy22 := up_s egy21
  refine z_ext (r' := tabZ) (by omega) hgy22 (fun j hj => cZ_all hj) (fun gy23 egy24 => ?_)
  have hgy25 := up_s egy24
  have hgy26 := up_n egy21 hgy16 (ne_o (i := b) (c := 0) (d := 6) rfl)
  have hgy27 := up_n egy24 hgy26 (ne_o (i := b) (c := 0) (d := 6) rfl)
  have hgy28 := up_n egy9 hb.2.1 (ne_o (i := b) (c := 1) (d := 0) rfl)
  have hgy29 := up_n egy12 hgy28 (ne_o (i := b) (c := 1) (d := 0) rfl)
  have hgy30 := up_n egy15 hgy29 (ne_o (i := b) (c := 1) (d := 0) rfl)
  have hgy31 := up_n egy21 hgy30 (ne_o (i := b) (c := 1) (d := 6) rfl)
  have hgy32 := up_n egy24 hgy31 (ne_o (i := b) (c := 1) (d := 6) rfl)
  have hgy33 := up_n egy9 hb.2.2.1 (ne_o (i := b) (c := 2) (d := 0) rfl)
  have hgy34 := up_n egy12 hgy33 (ne_o (i := b) (c := 2) (d := 0) rfl)
  have hgy35 := up_n egy15 hgy34 (ne_o (i := b) (c := 2) (d := 0) rfl)
  have hgy36 := up_n egy21 hgy35 (ne_o (i := b) (c := 2) (d := 6) rfl)
  have hgy37 := up_n egy24 hgy36 (ne_o (i := b) (c := 2) (d := 6) rfl)
  have hgy38 := up_n egy9 hb.2.2.2.1 (ne_o (i := b) (c := 3) (d := 0) rfl)
  have hgy39 := up_n egy12 hgy38 (ne_o (i := b) (c := 3) (d := 0) rfl)
  have hgy40 := up_n egy15 hgy39 (ne_o (i := b) (c := 3) (d := 0) rfl)
  have hgy41 := up_n egy21 hgy40 (ne_o (i := b) (c := 3) (d := 6) rfl)
  have hgy42 := up_n egy24 hgy41 (ne_o (i := b) (c := 3) (d := 6) rfl)
  have hgy43 := up_n egy9 hb.2.2.2.2.1 (ne_o (i := b) (c := 4) (d := 0) rfl)
  have hgy44 := up_n egy12 hgy43 (ne_o (i := b) (c := 4) (d := 0) rfl)
  have hgy45 := up_n egy15 hgy44 (ne_o (i := b) (c := 4) (d := 0) rfl)
  have hgy46 := up_n egy21 hgy45 (ne_o (i := b) (c := 4) (d := 6) rfl)
  have hgy47 := up_n egy24 hgy46 (ne_o (i := b) (c := 4) (d := 6) rfl)
  have hgy48 := up_n egy9 hb.2.2.2.2.2.1 (ne_o (i := b) (c := 5) (d := 0) rfl)
  have hgy49 := up_n egy12 hgy48 (ne_o (i := b) (c := 5) (d := 0) rfl)
  have hgy50 := up_n egy15 hgy49 (ne_o (i := b) (c := 5) (d := 0) rfl)
  have hgy51 := up_n egy21 hgy50 (ne_o (i := b) (c := 5) (d := 6) rfl)
  have hgy52 := up_n egy24 hgy51 (ne_o (i := b) (c := 5) (d := 6) rfl)
  exact z_vret C hr hlk dX5_clear_32 (by decide) (by decide) ⟨rfl, rfl, rfl, ⟨_, _, _, _, _, _, _, _, _, by omega, by omega, ⟨hgy27, hgy32, hgy37, hgy42, hgy47, hgy52, hgy25⟩⟩, fun j j1 => by rw [egy24, va_up_ne _ _ (by omega)]; rw [egy21, va_up_ne _ _ (by omega)]; rw [egy15, va_up_ne _ _ (by omega)]; rw [egy12, va_up_ne _ _ (by omega)]; rw [egy9, va_up_ne _ _ (by omega)]⟩

set_option maxRecDepth 100000 in
set_option maxHeartbeats 4000000 in
theorem c_X7_read (l : Launch) (D : va_G) (A : Nat → Prop) (cs : Nat → ClassId) (tt : Nat) (N : Nat) (ad : Nat → Nat) (g : Nat → va_E) (hN : 952 ≤ N) (tp : Nat → Int) (hr2 : okRdr ad g 2) (hg1 : g 1 = bA cs 900 tp) (hP9 : okPlan cs ad g 883) (hW9 : okWorld cs ad g 890) (z : Int) (hz : 0 ≤ z ∧ z ≤ 900) : zM l yX7_read cX7_read 6 (some .int) ({ frames := 10, cells := 0, slots := 0, locals := 600 } : Room) D A cs tt N ad g [.ref (ad 2), .ref (ad 1), .int (zI (z)), .ref (ad 883), .ref (ad 890)] (rI0 N ad fun r g' => (0 ≤ r ∧ r ≤ 5) ∧ okRun cs ad g' r tp ∧ okPlan cs ad g' 883 ∧ okWorld cs ad g' 890 ∧ ∀ j, j ≠ 2 → (j < 883 ∨ 900 ≤ j) → g' j = g j) := by
  obtain ⟨x0, x1, x3, x4, x5, x6, x7, x8, tx, hg2⟩ := id hr2
  have hay1 : zAt ad (2) (ad 2) := rfl
  have hay2 : zAt ad (1) (ad 1) := rfl
  have hay3 : zAt ad (883) (ad 883) := rfl
  have hay4 : zAt ad (890) (ad 890) := rfl
  obtain ⟨sloy5, hooy5, uaoy5, stoy5, opoy5, aioy5, faoy5, muoy5, tboy5, hsloy5, hhooy5, hpoy5⟩ := id hP9
  have hay6 : zAt ad (883 + 1) (ad (883 + 1)) := rfl
  have hay7 : zAt ad (883 + 2) (ad (883 + 2)) := rfl
  have hay8 : zAt ad (883 + 3) (ad (883 + 3)) := rfl
  have hay9 : zAt ad (883 + 4) (ad (883 + 4)) := rfl
  have hay10 : zAt ad (883 + 5) (ad (883 + 5)) := rfl
  have hay11 : zAt ad (883 + 6) (ad (883 + 6)) := rfl
  obtain ⟨thcy12, zhcy12, ohcy12, rhcy12, hzhcy12, hthcy12, hwhcy12⟩ := id hW9
  refine z_of (by decide) (Nat.le_of_ble_eq_true rfl) ?_
  intro p e s m below meth c C hr hlk hnm
  refine z_lv (lv' := [(0, .ref (ad 2)), (1, .ref (ad 1)), (2, .int (zI (z))), (3, .ref (ad 883)), (4, .ref (ad 890))]) [0, 1, 2, 3, 4] rfl ?_
  refine z_aload_n C 0 dX7_read_0 rfl ?_
  refine z_aload_n C 1 dX7_read_1 rfl ?_
  refine z_put (fs' := [.int (zI (x0)), .int (zI (x1)), .ref (ad 1), .int (zI (x3)), .int (zI (x4)), .int (zI (x5)), .int (zI (x6)), .int (zI (x7)), .int (zI (x8))]) C (lt_K hN (rfl : Nat.blt (2) 952 = true)) hay1 hg2 tyX7 tyX7_ok nmX7 rfl inA_X7 2 (by decide) q_46 rfl rfl rfl rfl (Nat.le_of_ble_eq_true rfl) rfl dX7_read_2 (fun gy13 egy14 => ?_)
  have hgy15 := up_s egy14
  refine z_aload_n C 0 dX7_read_5 rfl ?_
  refine z_iload_n C 2 dX7_read_6 rfl ?_
  refine z_aload_n C 1 dX7_read_7 rfl ?_
  have hgy16 := up_n egy14 hg1 (by decide)
  refine z_alen (z := 900) C (lt_K hN (rfl : Nat.blt (1) 952 = true)) hay2 hgy16 0 rfl rfl dX7_read_8 ?_
  refine z_mmin C q_728 q_473 q_20 q_474 (by omega) (by omega) (by decide) (Nat.le_of_ble_eq_true rfl) (by decide) (by decide) dX7_read_9 ?_
  obtain ⟨xy17, exy18, hxy19⟩ := mm_min (z) (900)
  rw [exy18]
  refine z_put (fs' := [.int (zI (x0)), .int (zI (x1)), .ref (ad 1), .int (zI (xy17)), .int (zI (x4)), .int (zI (x5)), .int (zI (x6)), .int (zI (x7)), .int (zI (x8))]) C (lt_K hN (rfl : Nat.blt (2) 952 = true)) hay1 hgy15 tyX7 tyX7_ok nmX7 rfl inA_X7 3 (by decide) q_47 rfl rfl rfl rfl (Nat.le_of_ble_eq_true rfl) rfl dX7_read_12 (fun gy20 egy21 => ?_)
  have hgy22 := up_s egy21
  refine z_aload_n C 0 dX7_read_15 rfl ?_
  refine z_iconst (z := 0) C dX7_read_16 rfl ?_
  refine z_put (fs' := [.int (zI (x0)), .int (zI (x1)), .ref (ad 1), .int (zI (xy17)), .int (zI (x4)), .int (zI (x5)), .int (zI (0)), .int (zI (x7)), .int (zI (x8))]) C (lt_K hN (rfl : Nat.blt (2) 952 = true)) hay1 hgy22 tyX7 tyX7_ok nmX7 rfl inA_X7 6 (by decide) q_50 rfl rfl rfl rfl (Nat.le_of_ble_eq_true rfl) rfl dX7_read_17 (fun gy23 egy24 => ?_)
  have hgy25 := up_s egy24
  refine z_aload_n C 0 dX7_read_20 rfl ?_
  refine z_iconst (z := 0) C dX7_read_21 rfl ?_
  refine z_put (fs' := [.int (zI (x0)), .int (zI (0)), .ref (ad 1), .int (zI (xy17)), .int (zI (x4)), .int (zI (x5)), .int (zI (0)), .int (zI (x7)), .int (zI (x8))]) C (lt_K hN (rfl : Nat.blt (2) 952 = true)) hay1 hgy25 tyX7 tyX7_ok nmX7 rfl inA_X7 1 (by decide) q_45 rfl rfl rfl rfl (Nat.le_of_ble_eq_true rfl) rfl dX7_read_22 (fun gy26 egy27 => ?_)
  have hgy28 := up_s egy27
  refine z_aload_n C 0 dX7_read_25 rfl ?_
  refine z_iconst (z := -1) C dX7_read_26 rfl ?_
  refine z_put (fs' := [.int (zI (-1)), .int (zI (0)), .ref (ad 1), .int (zI (xy17)), .int (zI (x4)), .int (zI (x5)), .int (zI (0)), .int (zI (x7)), .int (zI (x8))]) C (lt_K hN (rfl : Nat.blt (2) 952 = true)) hay1 hgy28 tyX7 tyX7_ok nmX7 rfl inA_X7 0 (by decide) q_43 rfl rfl rfl rfl (Nat.le_of_ble_eq_true rfl) rfl dX7_read_27 (fun gy29 egy30 => ?_)
  have hgy31 := up_s egy30
  refine z_aload_n C 0 dX7_read_30 rfl ?_
  refine z_iconst (z := 0) C dX7_read_31 rfl ?_
  refine z_put (fs' := [.int (zI (-1)), .int (zI (0)), .ref (ad 1), .int (zI (xy17)), .int (zI (x4)), .int (zI (x5)), .int (zI (0)), .int (zI (x7)), .int (zI (0))]) C (lt_K hN (rfl : Nat.blt (2) 952 = true)) hay1 hgy31 tyX7 tyX7_ok nmX7 rfl inA_X7 8 (by decide) q_52 rfl rfl rfl rfl (Nat.le_of_ble_eq_true rfl) rfl dX7_read_32 (fun gy32 egy33 => ?_)
  have hgy34 := up_s egy33
  refine z_aload_n C 3 dX7_read_35 rfl ?_
  have hgy36 := up_n egy14 hpoy5.1 (by decide)
  have hgy37 := up_n egy21 hgy36 (by decide)
  have hgy38 := up_n egy24 hgy37 (by decide)
  have hgy39 := up_n egy27 hgy38 (by decide)
  have hgy40 := up_n egy30 hgy39 (by decide)
  have hgy41 := up_n egy33 hgy40 (by decide)
  have hgy42 := up_n egy14 hpoy5.2.1 (by omega)
  have hgy43 := up_n egy21 hgy42 (by omega)
  have hgy44 := up_n egy24 hgy43 (by omega)
  have hgy45 := up_n egy27 hgy44 (by omega)
  have hgy46 := up_n egy30 hgy45 (by omega)
  have hgy47 := up_n egy33 hgy46 (by omega)
  have hgy48 := up_n egy14 hpoy5.2.2.1 (by omega)
  have hgy49 := up_n egy21 hgy48 (by omega)
  have hgy50 := up_n egy24 hgy49 (by omega)
  have hgy51 := up_n egy27 hgy50 (by omega)
  have hgy52 := up_n egy30 hgy51 (by omega)
  have hgy53 := up_n egy33 hgy52 (by omega)
  have hgy54 := up_n egy14 hpoy5.2.2.2.1 (by omega)
  have hgy55 := up_n egy21 hgy54 (by omega)
  have hgy56 := up_n egy24 hgy55 (by omega)
  have hgy57 := up_n egy27 hgy56 (by omega)
  have hgy58 := up_n egy30 hgy57 (by omega)
  have hgy59 := up_n egy33 hgy58 (by omega)
  have hgy60 := up_n egy14 hpoy5.2.2.2.2.1 (by omega)
  have hgy61 := up_n egy21 hgy60 (by omega)
  have hgy62 := up_n egy24 hgy61 (by omega)
  have hgy63 := up_n egy27 hgy62 (by omega)
  have hgy64 := up_n egy30 hgy63 (by omega)
  have hgy65 := up_n egy33 hgy64 (by omega)
  have hgy66 := up_n egy14 hpoy5.2.2.2.2.2.1 (by omega)
  have hgy67 := up_n egy21 hgy66 (by omega)
  have hgy68 := up_n egy24 hgy67 (by omega)
  have hgy69 := up_n egy27 hgy68 (by omega)
  have hgy70 := up_n egy30 hgy69 (by omega)
  have hgy71 := up_n egy33 hgy70 (by omega)
  have hgy72 := up_n egy14 hpoy5.2.2.2.2.2.2 (by omega)
  have hgy73 := up_n egy21 hgy72 (by omega)
  have hgy74 := up_n egy24 hgy73 (by omega)
  have hgy75 := up_n egy27 hgy74 (by omega)
  have hgy76 := up_n egy30 hgy75 (by omega)
  have hgy77 := up_n egy33 hgy76 (by omega)
  refine z_cV (As := []) (rest := []) (ci := 7) C (c_X5_clear l D A cs tt N ad _ 883 (by omega) _ _ _ _ _ _ _ _ _ ⟨hgy41, hgy47, hgy53, hgy59, hgy65, hgy71, hgy77⟩) (lt_K hN (rfl : Nat.blt (883) 952 = true)) hay3 hgy41 rfl rfl mv_yX5_clear q_729 hd_yX5_clear (by decide) (Nat.le_of_ble_eq_true rfl) (by decide) dX7_read_36 rfl (kV0 fun gvy35 hvy35 => ?_)
  obtain ⟨hpvy35, hfvy35⟩ := hvy35
  have hopy78 : okPlan cs ad gvy35 883 := hpvy35
  refine z_aload C 4 dX7_read_39 rfl ?_
  have hoky79 : okWorld cs ad gvy35 (890) := okWorld.mv (fun j j1 j2 => by rw [hfvy35 _ (by omega)]; rw [egy33, va_up_ne _ _ (by omega)]; rw [egy30, va_up_ne _ _ (by omega)]; rw [egy27, va_up_ne _ _ (by omega)]; rw [egy24, va_up_ne _ _ (by omega)]; rw [egy21, va_up_ne _ _ (by omega)]; rw [egy14, va_up_ne _ _ (by omega)]) hW9
  have hgy81 := up_n egy14 hwhcy12.1 (by decide)
  have hgy82 := up_n egy21 hgy81 (by decide)
  have hgy83 := up_n egy24 hgy82 (by decide)
  have hgy84 := up_n egy27 hgy83 (by decide)
  have hgy85 := up_n egy30 hgy84 (by decide)
  have hgy86 := up_n egy33 hgy85 (by decide)
  have hgy87 := (hfvy35 (890) (by omega)).trans hgy86
  refine z_cV (As := []) (rest := []) (ci := 10) C (c_X8_clear l D A cs tt N ad _ (890) (by omega) hoky79) (lt_K hN (rfl : Nat.blt (890) 952 = true)) hay4 hgy87 rfl rfl mv_yX8_clear q_734 hd_yX8_clear (by decide) (Nat.le_of_ble_eq_true rfl) (by decide) dX7_read_41 rfl (kV0 fun gvy80 hvy80 => ?_)
  obtain ⟨hkvy80, hfvy80⟩ := hvy80
  have hoky88 : okWorld cs ad gvy80 (890) := hkvy80
  obtain ⟨thcy89, zhcy89, ohcy89, rhcy89, hzhcy89, hthcy89, hwhcy89⟩ := id hoky88
  refine z_aload_n C 0 dX7_read_44 rfl ?_
  have hgy90 := (hfvy35 (2) (by omega)).trans hgy34
  have hgy91 := (hfvy80 (2) (by omega)).trans hgy90
  have hgy92 := up_n egy21 hgy16 (by decide)
  have hgy93 := up_n egy24 hgy92 (by decide)
  have hgy94 := up_n egy27 hgy93 (by decide)
  have hgy95 := up_n egy30 hgy94 (by decide)
  have hgy96 := up_n egy33 hgy95 (by decide)
  have hgy97 := (hfvy35 (1) (by omega)).trans hgy96
  have hgy98 := (hfvy80 (1) (by omega)).trans hgy97
  refine z_cV (As := []) (rest := []) (ci := 9) C (c_X7_peek l D A cs tt N ad _ (by omega) _ _ _ _ _ _ _ _ tp (by omega) hgy91 hgy98) (lt_K hN (rfl : Nat.blt (2) 952 = true)) hay1 hgy91 rfl rfl mv_yX7_peek q_742 hd_yX7_peek (by decide) (Nat.le_of_ble_eq_true rfl) (by decide) dX7_read_45 rfl (kV0 fun gvy99 hvy99 => ?_)
  obtain ⟨hkvy99, hfvy99⟩ := hvy99
  obtain ⟨pldy100, endy100, tydy100, a9dy100, bedy100, tkdy100, tddy100, hAdy100, hTdy100, hcdy100, hddy100⟩ := id hkvy99
  refine z_iconst (z := 0) C dX7_read_48 rfl ?_
  refine z_istore (lv' := [(5, .int (zI (0))), (0, .ref (ad 2)), (1, .ref (ad 1)), (2, .int (zI (z))), (3, .ref (ad 883)), (4, .ref (ad 890))]) C dX7_read_49 (by decide) rfl ?_
  have lp : ∀ (n9 : Nat) (i : Int) (c9 : Int) (g1 : Nat → va_E), (901 - i).toNat = n9 → (okRun cs ad g1 c9 tp) → (okPlan cs ad g1 883) → (okWorld cs ad g1 890) → (∀ j, j ≠ 2 → (j < 883 ∨ 900 ≤ j) → g1 j = g j) → (0 ≤ i ∧ i ≤ 901) → zV p l e ({ frames := 10, cells := 0, slots := 0, locals := 600 } : Room) s m ([.ref (ad 2), .ref (ad 1), .int (zI (z)), .ref (ad 883), .ref (ad 890)] : List Value).toArray below meth c (MQ below (zPost D A (rI0 N ad fun r g' => (0 ≤ r ∧ r ≤ 5) ∧ okRun cs ad g' r tp ∧ okPlan cs ad g' 883 ∧ okWorld cs ad g' 890 ∧ ∀ j, j ≠ 2 → (j < 883 ∨ 900 ≤ j) → g' j = g j)) ([.ref (ad 2), .ref (ad 1), .int (zI (z)), .ref (ad 883), .ref (ad 890)] : List Value).toArray s ({ frames := 10, cells := 0, slots := 0, locals := 600 } : Room).cells ({ frames := 10, cells := 0, slots := 0, locals := 600 } : Room).slots A) D A 6 (N) ad g1 (0) (0) 51 [(5, .int (zI (i))), (0, .ref (ad 2)), (3, .ref (ad 883)), (4, .ref (ad 890))] [] := by
    intro n9
    induction n9 using Nat.strongRecOn with
    | ind n9 ih =>
      intro i c9 g1 hm9 f1 f2 f3 f4 f5
      have hay101 : zAt ad (2) (ad 2) := rfl
      have hay102 : zAt ad (1) (ad 1) := rfl
      have hay103 : zAt ad (883) (ad 883) := rfl
      have hay104 : zAt ad (890) (ad 890) := rfl
      obtain ⟨pldy105, endy105, tydy105, a9dy105, bedy105, tkdy105, tddy105, hAdy105, hTdy105, hcdy105, hddy105⟩ := id f1
      refine z_iload C 0 dX7_read_51 rfl ?_
      refine z_aload_n C 1 dX7_read_53 rfl ?_
      refine z_get (v := .int (zI (endy105))) C (lt_K hN (rfl : Nat.blt (2) 952 = true)) hay101 hcdy105 rfl inA_X7 3 (by decide) q_47 rfl rfl dX7_read_54 ?_
      refine z_icmp_gt (tgt := 87) C dX7_read_57 (by decide) (by omega) (by omega) (fun hby106 => ?_) (fun hby106 => ?_)
      · refine z_aload_n C 1 dX7_read_87 rfl ?_
        refine z_get (v := .int (zI (c9))) C (lt_K hN (rfl : Nat.blt (2) 952 = true)) hay101 hcdy105 rfl inA_X7 1 (by decide) q_45 rfl rfl dX7_read_88 ?_
        have hruny107 : okRun cs ad g1 (c9) tp := ⟨_, _, _, _, _, _, _, by omega, by omega, hcdy105, hddy105⟩
        exact z_iret C hr hlk dX7_read_91 (by decide) (by decide) ⟨c9, rfl, rfl, rfl, by omega, hruny107, f2, f3, fun j j1 j2 => by exact f4 j j1 j2⟩
      · refine z_aload_n C 1 dX7_read_60 rfl ?_
        refine z_get (v := .int (zI (c9))) C (lt_K hN (rfl : Nat.blt (2) 952 = true)) hay101 hcdy105 rfl inA_X7 1 (by decide) q_45 rfl rfl dX7_read_61 ?_
        refine z_if_ne (tgt := 87) C dX7_read_64 (by decide) (by omega) (fun hby108 => ?_) (fun hby108 => ?_)
        · refine z_aload_n C 1 dX7_read_87 rfl ?_
          refine z_get (v := .int (zI (c9))) C (lt_K hN (rfl : Nat.blt (2) 952 = true)) hay101 hcdy105 rfl inA_X7 1 (by decide) q_45 rfl rfl dX7_read_88 ?_
          have hruny109 : okRun cs ad g1 (c9) tp := ⟨_, _, _, _, _, _, _, by omega, by omega, hcdy105, hddy105⟩
          exact z_iret C hr hlk dX7_read_91 (by decide) (by decide) ⟨c9, rfl, rfl, rfl, by omega, hruny109, f2, f3, fun j j1 j2 => by exact f4 j j1 j2⟩
        · refine z_aload_n C 1 dX7_read_67 rfl ?_
          refine z_get (v := .int (zI (tydy105))) C (lt_K hN (rfl : Nat.blt (2) 952 = true)) hay101 hcdy105 rfl inA_X7 4 (by decide) q_48 rfl rfl dX7_read_68 ?_
          refine z_if_eq (tgt := 87) C dX7_read_71 (by decide) (by omega) (fun hby110 => ?_) (fun hby110 => ?_)
          · refine z_aload_n C 1 dX7_read_87 rfl ?_
            refine z_get (v := .int (zI (c9))) C (lt_K hN (rfl : Nat.blt (2) 952 = true)) hay101 hcdy105 rfl inA_X7 1 (by decide) q_45 rfl rfl dX7_read_88 ?_
            have hruny111 : okRun cs ad g1 (c9) tp := ⟨_, _, _, _, _, _, _, by omega, by omega, hcdy105, hddy105⟩
            exact z_iret C hr hlk dX7_read_91 (by decide) (by decide) ⟨c9, rfl, rfl, rfl, by omega, hruny111, f2, f3, fun j j1 j2 => by exact f4 j j1 j2⟩
          · refine z_aload_n C 1 dX7_read_74 rfl ?_
            refine z_aload_n C 2 dX7_read_75 rfl ?_
            refine z_aload C 3 dX7_read_76 rfl ?_
            have hruny112 : okRun cs ad g1 (c9) tp := ⟨_, _, _, _, _, _, _, by omega, by omega, hcdy105, hddy105⟩
            refine z_cV (As := [.ref (ad 883), .ref (ad 890)]) (rest := []) (ci := 9) C (c_X7_readClause l D A cs tt N ad _ (by omega) _ tp hruny112 f2 f3 ) (lt_K hN (rfl : Nat.blt (2) 952 = true)) hay101 hcdy105 rfl rfl mv_yX7_readClause q_749 hd_yX7_readClause (by decide) (Nat.le_of_ble_eq_true rfl) (by decide) dX7_read_78 rfl (kV0 fun gvy113 hvy113 => ?_)
            obtain ⟨⟨covy113, hkvy113, hnvy113⟩, hpvy113, hwvy113, hfvy113⟩ := hvy113
            obtain ⟨pldy114, endy114, tydy114, a9dy114, bedy114, tkdy114, tddy114, hAdy114, hTdy114, hcdy114, hddy114⟩ := id hkvy113
            refine z_iinc (z := i + 1) (lv' := [(5, .int (zI (i + 1))), (0, .ref (ad 2)), (3, .ref (ad 883)), (4, .ref (ad 890))]) (j := 0) C dX7_read_81 rfl rfl (by decide) rfl ?_
            refine z_goto (tgt := 51) C dX7_read_84 (by decide) ?_
            have hruny115 : okRun cs ad gvy113 (covy113) tp := ⟨_, _, _, _, _, _, _, by omega, by omega, hcdy114, hddy114⟩
            refine z_lv (lv' := [(5, .int (zI (i + 1))), (0, .ref (ad 2)), (3, .ref (ad 883)), (4, .ref (ad 890))]) [0, 1, 2, 3] rfl ?_
            exact ih _ (by omega) (i + 1) (covy113) gvy113 rfl hruny115 hpvy113 hwvy113 (fun j j1 j2 => by rw [hfvy113 _ (by omega) (by omega)]; exact f4 j j1 j2) (by omega)
  have hruny116 : okRun cs ad gvy99 (0) tp := ⟨_, _, _, _, _, _, _, by omega, by omega, hcdy100, hddy100⟩
  have hpy117 := okPlan.mv (ad' := ad) (g' := gvy99) (fun j h1 h2 => by rfl) (fun j h1 h2 => by rw [hfvy99 _ (by omega)]; rw [hfvy80 _ (by omega)]) hopy78
  have hoky118 : okWorld cs ad gvy99 (890) := okWorld.mv (fun j j1 j2 => by rw [hfvy99 _ (by omega)]) hoky88
  refine z_lv (lv' := [(5, .int (zI (0))), (0, .ref (ad 2)), (3, .ref (ad 883)), (4, .ref (ad 890))]) [0, 1, 4, 5] rfl ?_
  exact lp _ (0) (0) gvy99 rfl hruny116 hpy117 hoky118 (fun j j1 j2 => by rw [hfvy99 _ (by omega)]; rw [hfvy80 _ (by omega)]; rw [hfvy35 _ (by omega)]; rw [egy33, va_up_ne _ _ (by omega)]; rw [egy30, va_up_ne _ _ (by omega)]; rw [egy27, va_up_ne _ _ (by omega)]; rw [egy24, va_up_ne _ _ (by omega)]; rw [egy21, va_up_ne _ _ (by omega)]; rw [egy14, va_up_ne _ _ (by omega)]) (by omega)

set_option maxRecDepth 100000 in
set_option maxHeartbeats 4000000 in
theorem c_X9_snow (l : Launch) (D : va_G) (A : Nat → Prop) (cs : Nat → ClassId) (tt : Nat) (N : Nat) (ad : Nat → Nat) (g : Nat → va_E) (hN : 952 ≤ N) (t fp im nz kz sl ho ua : Int) (st op ai fa mu tb tp : Nat → Int) (hR : okRec cs ad g N t fp im nz kz sl ho ua st op ai fa mu tb tp) (hl0 : l.stackTraces = false) (z : Int) (hz : -2147483648 ≤ z ∧ z ≤ 2147483647) : zMX l yX9_snow cX9_snow 3 (some .int) ({ frames := 12, cells := 6, slots := 60, locals := 720 } : Room) D A cs tt N ad g [.ref (ad 0), .int (zI (z))] (rI0 N ad fun r g' => ((0 ≤ r ∧ r ≤ 5) ∧ 0 ≤ z ∧ z ≤ t) ∧ (∃ (fp' im' nz' sl' ho' ua' : Int) (st' op' ai' fa' mu' tb' : Nat → Int), okRec cs ad g' N 0 fp' im' nz' kz sl' ho' ua' st' op' ai' fa' mu' tb' tp) ∧ oX g g') (fun E N' ad' g' => (E = eIA ∧ ¬ (0 ≤ z ∧ z ≤ t)) ∧ N' = N ∧ ad' = ad ∧ g' = g) := by
  obtain ⟨ary1, bry1, cry1, dry1, ery1, fry1, gry11, hry1, ⟨acry1, iry1⟩, ⟨kcry1, jry1⟩, kry1, lry1, mry1, nry1, ory1, pry1⟩ := id hR
  have hay2 : zAt ad (0) (ad 0) := rfl
  have hay3 : zAt ad (1) (ad 1) := rfl
  have hay4 : zAt ad (2) (ad 2) := rfl
  have hay5 : zAt ad (4) (ad 4) := rfl
  have hay6 : zAt ad (11) (ad 11) := rfl
  have hay7 : zAt ad (447) (ad 447) := rfl
  have hay8 : zAt ad (883) (ad 883) := rfl
  have hay9 : zAt ad (890) (ad 890) := rfl
  have hay10 : zAt ad (900) (ad 900) := rfl
  have hay11 : zAt ad (910) (ad 910) := rfl
  have hay12 : zAt ad (917) (ad 917) := rfl
  have hay13 : zAt ad (919) (ad 919) := rfl
  have hay14 : zAt ad (4 + 1) (ad (4 + 1)) := rfl
  have hay15 : zAt ad (4 + 2) (ad (4 + 2)) := rfl
  have hay16 : zAt ad (4 + 3) (ad (4 + 3)) := rfl
  have hay17 : zAt ad (4 + 4) (ad (4 + 4)) := rfl
  have hay18 : zAt ad (4 + 5) (ad (4 + 5)) := rfl
  have hay19 : zAt ad (4 + 6) (ad (4 + 6)) := rfl
  obtain ⟨thcy20, zhcy20, ohcy20, rhcy20, hzhcy20, hthcy20, hwhcy20⟩ := id lry1
  obtain ⟨thcy21, zhcy21, ohcy21, rhcy21, hzhcy21, hthcy21, hwhcy21⟩ := id mry1
  obtain ⟨asy22, bsy22, csy22, dsy22, esy22, ⟨ptsy22, fsy22, gsy221⟩, hsy22, ⟨nusy22, nvsy22, nwsy22, isy22, jsy22, ksy22, lsy22, msy22, nsy22⟩, rfsy22, osy22⟩ := id iry1
  have hay23 : zAt ad (11 + 1) (ad (11 + 1)) := rfl
  have hay24 : zAt ad (11 + 11) (ad (11 + 11)) := rfl
  have hay25 : zAt ad (11 + 12) (ad (11 + 12)) := rfl
  have hay26 : zAt ad (11 + 13) (ad (11 + 13)) := rfl
  have hay27 : zAt ad (11 + 13 + 1) (ad (11 + 13 + 1)) := rfl
  have hay28 : zAt ad (11 + 13 + 2) (ad (11 + 13 + 2)) := rfl
  have hay29 : zAt ad (11 + 13 + 3) (ad (11 + 13 + 3)) := rfl
  have hay30 : zAt ad (11 + 17) (ad (11 + 17)) := rfl
  obtain ⟨uy31t, uy31z, uy31o, uy31r, uy31z4, uy31t5, uy311, ⟨uy31u, uy312, uy313⟩, uy314⟩ := id csy22
  have hay32 : zAt ad (11 + 1) (ad (11 + 1)) := rfl
  have hay33 : zAt ad (11 + 1 + 1) (ad (11 + 1 + 1)) := rfl
  obtain ⟨sloy34, hooy34, uaoy34, stoy34, opoy34, aioy34, faoy34, muoy34, tboy34, hsloy34, hhooy34, hpoy34⟩ := id kry1
  have hay35 : zAt ad (883 + 1) (ad (883 + 1)) := rfl
  have hay36 : zAt ad (883 + 2) (ad (883 + 2)) := rfl
  have hay37 : zAt ad (883 + 3) (ad (883 + 3)) := rfl
  have hay38 : zAt ad (883 + 4) (ad (883 + 4)) := rfl
  have hay39 : zAt ad (883 + 5) (ad (883 + 5)) := rfl
  have hay40 : zAt ad (883 + 6) (ad (883 + 6)) := rfl
  refine z_ofX (by decide) (Nat.le_of_ble_eq_true rfl) ?_
  intro p e s m below meth c C hr hlk hxt
  refine z_lv (lv' := [(0, .ref (ad 0)), (1, .int (zI (z)))]) [0, 1] rfl ?_
  refine z_iload_n C 1 dX9_snow_0 rfl ?_
  refine z_if_lt (tgt := 12) C dX9_snow_1 (by decide) (by omega) (fun hby41 => ?_) (fun hby41 => ?_)
  · exact z_thr (cls := eIA) (text := "the tape has not so many bytes") C hl0 (by decide +kernel) q_658 q_19 (by decide +kernel) at_IA gd_IA dX9_snow_12 dX9_snow_15 dX9_snow_16 dX9_snow_18 dX9_snow_21 hxt (by decide) (Nat.le_of_ble_eq_true rfl) (by decide) (by decide) hlk (by decide) (by decide) ⟨⟨rfl, by omega⟩, rfl, rfl, rfl⟩
  · refine z_iload_n C 1 dX9_snow_4 rfl ?_
    refine z_aload_n C 0 dX9_snow_5 rfl ?_
    refine z_get (v := .int (zI (t))) C (lt_K hN (rfl : Nat.blt (0) 952 = true)) hay2 ary1 rfl inA_X9 1 (by decide) q_350 rfl rfl dX9_snow_6 ?_
    refine z_icmp_le (tgt := 22) C dX9_snow_9 (by decide) (by omega) (by omega) (fun hby42 => ?_) (fun hby42 => ?_)
    · refine z_aload_n C 0 dX9_snow_22 rfl ?_
      refine z_get (v := .ref (ad 2)) C (lt_K hN (rfl : Nat.blt (0) 952 = true)) hay2 ary1 rfl inA_X9 3 (by decide) q_352 rfl rfl dX9_snow_23 ?_
      refine z_aload_n C 0 dX9_snow_26 rfl ?_
      refine z_get (v := .ref (ad 1)) C (lt_K hN (rfl : Nat.blt (0) 952 = true)) hay2 ary1 rfl inA_X9 0 (by decide) q_349 rfl rfl dX9_snow_27 ?_
      refine z_iload_n C 1 dX9_snow_30 rfl ?_
      refine z_aload_n C 0 dX9_snow_31 rfl ?_
      refine z_get (v := .ref (ad 883)) C (lt_K hN (rfl : Nat.blt (0) 952 = true)) hay2 ary1 rfl inA_X9 8 (by decide) q_357 rfl rfl dX9_snow_32 ?_
      refine z_aload_n C 0 dX9_snow_35 rfl ?_
      refine z_get (v := .ref (ad 890)) C (lt_K hN (rfl : Nat.blt (0) 952 = true)) hay2 ary1 rfl inA_X9 9 (by decide) q_358 rfl rfl dX9_snow_36 ?_
      obtain ⟨x0xy43, x1xy43, x3xy43, x4xy43, x5xy43, x6xy43, x7xy43, x8xy43, txxy43, hcxy43⟩ := id ery1
      refine z_cV (As := [.ref (ad 1), .int (zI (z)), .ref (ad 883), .ref (ad 890)]) (rest := []) (ci := 9) C (c_X7_read l D A cs tt N ad _ (by omega) _ ery1 dry1 kry1 lry1 (z) (by omega)) (lt_K hN (rfl : Nat.blt (2) 952 = true)) hay4 hcxy43 rfl rfl mv_yX7_read q_724 hd_yX7_read (by decide) (Nat.le_of_ble_eq_true rfl) (by decide) dX9_snow_39 rfl (kI0 fun vy44 gvy44 hvy44 => ?_)
      obtain ⟨hrvy44, hkvy44, hpvy44, hwvy44, hfvy44⟩ := hvy44
      obtain ⟨plvy44, envy44, tyvy44, a9vy44, bevy44, tkvy44, tdvy44, hAvy44, hTvy44, hcvy44, hdvy44⟩ := id hkvy44
      have hrdvy44 : okRdr ad gvy44 2 := ⟨_, _, _, _, _, _, _, _, _, hcvy44⟩
      obtain ⟨thcy45, zhcy45, ohcy45, rhcy45, hzhcy45, hthcy45, hwhcy45⟩ := id hwvy44
      refine z_istore_n (lv' := [(2, .int (zI (vy44))), (0, .ref (ad 0)), (1, .int (zI (z)))]) C dX9_snow_42 rfl (by decide) rfl ?_
      refine z_aload_n C 1 dX9_snow_43 rfl ?_
      refine z_iconst (z := 0) C dX9_snow_44 rfl ?_
      have hgy46 := (hfvy44 (0) (by decide) (by omega)).trans ary1
      refine z_put (fs' := [.ref (ad 1), .int (zI (0)), .int (zI (fp)), .ref (ad 2), .ref (ad 4), .ref (ad 11), .ref (ad 447), .int (zI (im)), .ref (ad 883), .ref (ad 890), .ref (ad 900), .ref (ad 910), .ref (ad 917), .ref (ad 919)]) C (lt_K hN (rfl : Nat.blt (0) 952 = true)) hay2 hgy46 tyX9 tyX9_ok nmX9 rfl inA_X9 1 (by decide) q_350 rfl rfl rfl rfl (Nat.le_of_ble_eq_true rfl) rfl dX9_snow_45 (fun gy47 egy48 => ?_)
      have hgy49 := up_s egy48
      refine z_aload_n C 1 dX9_snow_48 rfl ?_
      refine z_aload_n C 1 dX9_snow_49 rfl ?_
      refine z_get (v := .ref (ad 2)) C (lt_K hN (rfl : Nat.blt (0) 952 = true)) hay2 hgy49 rfl inA_X9 3 (by decide) q_352 rfl rfl dX9_snow_50 ?_
      have hgy50 := up_n egy48 hcvy44 (by decide)
      refine z_get (v := .int (zI (plvy44))) C (lt_K hN (rfl : Nat.blt (2) 952 = true)) hay4 hgy50 rfl inA_X7 0 (by decide) q_44 rfl rfl dX9_snow_53 ?_
      refine z_put (fs' := [.ref (ad 1), .int (zI (0)), .int (zI (plvy44)), .ref (ad 2), .ref (ad 4), .ref (ad 11), .ref (ad 447), .int (zI (im)), .ref (ad 883), .ref (ad 890), .ref (ad 900), .ref (ad 910), .ref (ad 917), .ref (ad 919)]) C (lt_K hN (rfl : Nat.blt (0) 952 = true)) hay2 hgy49 tyX9 tyX9_ok nmX9 rfl inA_X9 2 (by decide) q_351 rfl rfl rfl rfl (Nat.le_of_ble_eq_true rfl) rfl dX9_snow_56 (fun gy51 egy52 => ?_)
      have hgy53 := up_s egy52
      refine z_iload_n C 0 dX9_snow_59 rfl ?_
      refine z_if_eq (tgt := 78) C dX9_snow_60 (by decide) (by omega) (fun hby54 => ?_) (fun hby54 => ?_)
      · refine z_aload_n C 1 dX9_snow_78 rfl ?_
        refine z_get (v := .ref (ad 4)) C (lt_K hN (rfl : Nat.blt (0) 952 = true)) hay2 hgy53 rfl inA_X9 4 (by decide) q_353 rfl rfl dX9_snow_79 ?_
        refine z_aload_n C 1 dX9_snow_82 rfl ?_
        refine z_get (v := .ref (ad 883)) C (lt_K hN (rfl : Nat.blt (0) 952 = true)) hay2 hgy53 rfl inA_X9 8 (by decide) q_357 rfl rfl dX9_snow_83 ?_
        have hpy55 := okPlan.mv (ad' := ad) (g' := gy51) (fun j h1 h2 => by rfl) (fun j h1 h2 => by rw [egy52, va_up_ne _ _ (by omega)]; rw [egy48, va_up_ne _ _ (by omega)]) hpvy44
        obtain ⟨sloy56, hooy56, uaoy56, stoy56, opoy56, aioy56, faoy56, muoy56, tboy56, hsloy56, hhooy56, hpoy56⟩ := id hpy55
        have hgy58 := (hfvy44 (4) (by decide) (by omega)).trans fry1.1
        have hgy59 := up_n egy48 hgy58 (by decide)
        have hgy60 := up_n egy52 hgy59 (by decide)
        have hgy61 := (hfvy44 (4 + 1) (by omega) (by omega)).trans fry1.2.1
        have hgy62 := up_n egy48 hgy61 (by omega)
        have hgy63 := up_n egy52 hgy62 (by omega)
        have hgy64 := (hfvy44 (4 + 2) (by omega) (by omega)).trans fry1.2.2.1
        have hgy65 := up_n egy48 hgy64 (by omega)
        have hgy66 := up_n egy52 hgy65 (by omega)
        have hgy67 := (hfvy44 (4 + 3) (by omega) (by omega)).trans fry1.2.2.2.1
        have hgy68 := up_n egy48 hgy67 (by omega)
        have hgy69 := up_n egy52 hgy68 (by omega)
        have hgy70 := (hfvy44 (4 + 4) (by omega) (by omega)).trans fry1.2.2.2.2.1
        have hgy71 := up_n egy48 hgy70 (by omega)
        have hgy72 := up_n egy52 hgy71 (by omega)
        have hgy73 := (hfvy44 (4 + 5) (by omega) (by omega)).trans fry1.2.2.2.2.2.1
        have hgy74 := up_n egy48 hgy73 (by omega)
        have hgy75 := up_n egy52 hgy74 (by omega)
        have hgy76 := (hfvy44 (4 + 6) (by omega) (by omega)).trans fry1.2.2.2.2.2.2
        have hgy77 := up_n egy48 hgy76 (by omega)
        have hgy78 := up_n egy52 hgy77 (by omega)
        refine z_cV (As := [.ref (ad 883)]) (rest := []) (ci := 7) C (c_X5_copyFrom l D A cs tt N ad _ 4 (by omega) _ _ _ _ _ _ _ _ _ ⟨hgy60, hgy63, hgy66, hgy69, hgy72, hgy75, hgy78⟩ 883 (by omega) _ _ _ _ _ _ _ _ _ ⟨hpoy56.1, hpoy56.2.1, hpoy56.2.2.1, hpoy56.2.2.2.1, hpoy56.2.2.2.2.1, hpoy56.2.2.2.2.2.1, hpoy56.2.2.2.2.2.2⟩ (by omega)) (lt_K hN (rfl : Nat.blt (4) 952 = true)) hay5 hgy60 rfl rfl mv_yX5_copyFrom q_862 hd_yX5_copyFrom (by decide) (Nat.le_of_ble_eq_true rfl) (by decide) dX9_snow_86 rfl (kV0 fun gvy57 hvy57 => ?_)
        obtain ⟨hpvy57, hfvy57⟩ := hvy57
        refine z_aload_n C 1 dX9_snow_89 rfl ?_
        have hgy79 := (hfvy57 (0) (by omega)).trans hgy53
        refine z_get (v := .ref (ad 11)) C (lt_K hN (rfl : Nat.blt (0) 952 = true)) hay2 hgy79 rfl inA_X9 5 (by decide) q_354 rfl rfl dX9_snow_90 ?_
        refine z_aload_n C 1 dX9_snow_93 rfl ?_
        refine z_get (v := .ref (ad 890)) C (lt_K hN (rfl : Nat.blt (0) 952 = true)) hay2 hgy79 rfl inA_X9 9 (by decide) q_358 rfl rfl dX9_snow_94 ?_
        have hpy80 := okState.mv (ad' := ad) (g' := gvy57) (fun j h1 h2 => by rfl) (fun j h1 h2 => by rw [hfvy57 _ (by omega)]; rw [egy52, va_up_ne _ _ (by omega)]; rw [egy48, va_up_ne _ _ (by omega)]; rw [hfvy44 _ (by omega) (by omega)]) iry1
        have hoky81 : okWorld cs ad gvy57 (890) := okWorld.mv (fun j j1 j2 => by rw [hfvy57 _ (by omega)]; rw [egy52, va_up_ne _ _ (by omega)]; rw [egy48, va_up_ne _ _ (by omega)]) hwvy44
        have hgy83 := (hfvy44 (11) (by decide) (by omega)).trans iry1.1
        have hgy84 := up_n egy48 hgy83 (by decide)
        have hgy85 := up_n egy52 hgy84 (by decide)
        have hgy86 := (hfvy57 (11) (by omega)).trans hgy85
        refine z_cV (As := [.ref (ad 890)]) (rest := []) (ci := 8) C (c_X6_beginWith l D A cs tt N ad _ 11 (by omega) _ _ hpy80 890 (by omega) hoky81 (by omega)) (lt_K hN (rfl : Nat.blt (11) 952 = true)) hay6 hgy86 rfl rfl mv_yX6_beginWith q_866 hd_yX6_beginWith (by decide) (Nat.le_of_ble_eq_true rfl) (by decide) dX9_snow_97 rfl (kV0 fun gvy82 hvy82 => ?_)
        obtain ⟨hkvy82, hfvy82⟩ := hvy82
        have hacqy87 := hkvy82.2.1
        obtain ⟨asy88, bsy88, csy88, dsy88, esy88, ⟨ptsy88, fsy88, gsy881⟩, hsy88, ⟨nusy88, nvsy88, nwsy88, isy88, jsy88, ksy88, lsy88, msy88, nsy88⟩, rfsy88, osy88⟩ := id hkvy82
        obtain ⟨uy89t, uy89z, uy89o, uy89r, uy89z4, uy89t5, uy891, ⟨uy89u, uy892, uy893⟩, uy894⟩ := id csy88
        have hay90 : zAt ad (11 + 1) (ad (11 + 1)) := rfl
        have hay91 : zAt ad (11 + 1 + 1) (ad (11 + 1 + 1)) := rfl
        refine z_aload_n C 1 dX9_snow_100 rfl ?_
        refine z_iconst (z := 0) C dX9_snow_101 rfl ?_
        have hgy92 := (hfvy82 (0) (by omega)).trans hgy79
        refine z_put (fs' := [.ref (ad 1), .int (zI (0)), .int (zI (plvy44)), .ref (ad 2), .ref (ad 4), .ref (ad 11), .ref (ad 447), .int (zI (0)), .ref (ad 883), .ref (ad 890), .ref (ad 900), .ref (ad 910), .ref (ad 917), .ref (ad 919)]) C (lt_K hN (rfl : Nat.blt (0) 952 = true)) hay2 hgy92 tyX9 tyX9_ok nmX9 rfl inA_X9 7 (by decide) q_356 rfl rfl (by decide) rfl (Nat.le_of_ble_eq_true rfl) rfl dX9_snow_102 (fun gy93 egy94 => ?_)
        have hgy95 := up_s egy94
        refine z_iconst (z := 0) C dX9_snow_105 rfl ?_
        have hgy96 := (hfvy44 (1) (by decide) (by omega)).trans dry1
        have hgy97 := up_n egy48 hgy96 (by decide)
        have hgy98 := up_n egy52 hgy97 (by decide)
        have hgy99 := (hfvy57 (1) (by omega)).trans hgy98
        have hgy100 := (hfvy82 (1) (by omega)).trans hgy99
        have hgy101 := up_n egy94 hgy100 (by decide)
        have hpy102 := okState.mv (ad' := ad) (g' := gy93) (fun j h1 h2 => by rfl) (fun j h1 h2 => by rw [egy94, va_up_ne _ _ (by omega)]) hkvy82
        have hpy103 := okRdr.mv (ad' := ad) (g' := gy93) (fun j h1 h2 => by rfl) (fun j h1 h2 => by rw [egy94, va_up_ne _ _ (by omega)]; rw [hfvy82 _ (by omega)]; rw [hfvy57 _ (by omega)]; rw [egy52, va_up_ne _ _ (by omega)]; rw [egy48, va_up_ne _ _ (by omega)]) hrdvy44
        have hpy104 := isPlan.mv (ad' := ad) (g' := gy93) (fun j h1 h2 => by rfl) (fun j h1 h2 => by rw [egy94, va_up_ne _ _ (by omega)]; rw [hfvy82 _ (by omega)]) hpvy57
        have hpy105 := okState.mv (ad' := ad) (g' := gy93) (fun j h1 h2 => by rfl) (fun j h1 h2 => by rw [egy94, va_up_ne _ _ (by omega)]; rw [hfvy82 _ (by omega)]; rw [hfvy57 _ (by omega)]; rw [egy52, va_up_ne _ _ (by omega)]; rw [egy48, va_up_ne _ _ (by omega)]; rw [hfvy44 _ (by omega) (by omega)]) jry1
        have hpy106 := okPlan.mv (ad' := ad) (g' := gy93) (fun j h1 h2 => by rfl) (fun j h1 h2 => by rw [egy94, va_up_ne _ _ (by omega)]; rw [hfvy82 _ (by omega)]; rw [hfvy57 _ (by omega)]) hpy55
        have hpy107 := okGss.mv (ad' := ad) (g' := gy93) (fun j h1 h2 => by rfl) (fun j h1 h2 => by rw [egy94, va_up_ne _ _ (by omega)]; rw [hfvy82 _ (by omega)]; rw [hfvy57 _ (by omega)]; rw [egy52, va_up_ne _ _ (by omega)]; rw [egy48, va_up_ne _ _ (by omega)]; rw [hfvy44 _ (by omega) (by omega)]) nry1
        have hpy108 := okLike.mv (ad' := ad) (g' := gy93) (fun j h1 h2 => by rfl) (fun j h1 h2 => by rw [egy94, va_up_ne _ _ (by omega)]; rw [hfvy82 _ (by omega)]; rw [hfvy57 _ (by omega)]; rw [egy52, va_up_ne _ _ (by omega)]; rw [egy48, va_up_ne _ _ (by omega)]; rw [hfvy44 _ (by omega) (by omega)]) ory1
        have hpy109 := okBld.mv (ad' := ad) (g' := gy93) (fun j h1 h2 => by rfl) (fun j h1 h2 => by rw [egy94, va_up_ne _ _ (by omega)]; rw [hfvy82 _ (by omega)]; rw [hfvy57 _ (by omega)]; rw [egy52, va_up_ne _ _ (by omega)]; rw [egy48, va_up_ne _ _ (by omega)]; rw [hfvy44 _ (by omega) (by omega)]) pry1
        have hoky110 : okWorld cs ad gy93 (890) := okWorld.mv (fun j j1 j2 => by rw [egy94, va_up_ne _ _ (by omega)]; rw [hfvy82 _ (by omega)]) hoky81
        have hoky111 : okWorld cs ad gy93 (900) := okWorld.mv (fun j j1 j2 => by rw [egy94, va_up_ne _ _ (by omega)]; rw [hfvy82 _ (by omega)]; rw [hfvy57 _ (by omega)]; rw [egy52, va_up_ne _ _ (by omega)]; rw [egy48, va_up_ne _ _ (by omega)]; rw [hfvy44 _ (by omega) (by omega)]) mry1
        have hrecy112 : okRec cs ad gy93 N (0) (plvy44) (0) (0) (kz) (sloy56) (hooy56) (uaoy56) (stoy56) (opoy56) (aioy56) (faoy56) (muoy56) (tboy56) (tp) := ⟨hgy95, by omega, by omega, hgy101, hpy103, hpy104, by omega, by omega, ⟨_, hpy102⟩, ⟨_, hpy105⟩, hpy106, hoky110, hoky111, hpy107, hpy108, hpy109⟩
        exact z_rX (z_iret C hr hlk dX9_snow_106 (by decide) (by decide) ⟨0, rfl, rfl, rfl, by omega, ⟨_, _, _, _, _, _, _, _, _, _, _, _, hrecy112⟩, fun j j1 j2 => by rw [egy94, va_up_ne _ _ (by omega)]; rw [hfvy82 _ (by omega)]; rw [hfvy57 _ (by omega)]; rw [egy52, va_up_ne _ _ (by omega)]; rw [egy48, va_up_ne _ _ (by omega)]; rw [hfvy44 _ (by omega) (by omega)]⟩)
      · refine z_aload_n C 1 dX9_snow_63 rfl ?_
        refine z_get (v := .ref (ad 11)) C (lt_K hN (rfl : Nat.blt (0) 952 = true)) hay2 hgy53 rfl inA_X9 5 (by decide) q_354 rfl rfl dX9_snow_64 ?_
        have hgy113 := (hfvy44 (11) (by decide) (by omega)).trans iry1.1
        have hgy114 := up_n egy48 hgy113 (by decide)
        have hgy115 := up_n egy52 hgy114 (by decide)
        refine z_get (v := .ref (ad (11 + 17))) C (lt_K hN (rfl : Nat.blt (11) 952 = true)) hay6 hgy115 rfl inA_X6 5 (by decide) q_267 rfl rfl dX9_snow_67 ?_
        refine z_iconst (z := 0) C dX9_snow_70 rfl ?_
        refine z_dup2 C dX9_snow_71 rfl rfl ?_
        have hgy116 := (hfvy44 (11 + 17) (by omega) (by omega)).trans osy22
        have hgy117 := up_n egy48 hgy116 (by omega)
        have hgy118 := up_n egy52 hgy117 (by omega)
        refine z_iald C (lt_K hN (rfl : Nat.blt (11 + 17) 952 = true)) hay30 hgy118 (0) (by omega) (by omega) (by decide) dX9_snow_72 ?_
        refine z_iconst (z := 1) C dX9_snow_73 rfl ?_
        refine z_iadd C dX9_snow_74 ?_
        refine z_iast C (lt_K hN (rfl : Nat.blt (11 + 17) 952 = true)) hay30 hgy118 (0) (by omega) (by omega) (by decide) dX9_snow_75 (fun gy119 egy120 => ?_)
        have hgy121 := up_s egy120
        refine z_iload_n C 0 dX9_snow_76 rfl ?_
        have hsty122 := okState.refused2 (g' := gy119) iry1 (fun j a1 a2 j1 => by rw [egy120, va_up_ne _ _ (by omega)]; rw [egy52, va_up_ne _ _ (by omega)]; rw [egy48, va_up_ne _ _ (by omega)]; rw [hfvy44 _ (by omega) (by omega)]) hgy121
        have hgy123 := up_n egy120 hgy53 (by omega)
        have hgy124 := (hfvy44 (1) (by decide) (by omega)).trans dry1
        have hgy125 := up_n egy48 hgy124 (by decide)
        have hgy126 := up_n egy52 hgy125 (by decide)
        have hgy127 := up_n egy120 hgy126 (by omega)
        have hpy128 := okRdr.mv (ad' := ad) (g' := gy119) (fun j h1 h2 => by rfl) (fun j h1 h2 => by rw [egy120, va_up_ne _ _ (by omega)]; rw [egy52, va_up_ne _ _ (by omega)]; rw [egy48, va_up_ne _ _ (by omega)]) hrdvy44
        have hpy129 := isPlan.mv (ad' := ad) (g' := gy119) (fun j h1 h2 => by rfl) (fun j h1 h2 => by rw [egy120, va_up_ne _ _ (by omega)]; rw [egy52, va_up_ne _ _ (by omega)]; rw [egy48, va_up_ne _ _ (by omega)]; rw [hfvy44 _ (by omega) (by omega)]) fry1
        have hpy130 := okState.mv (ad' := ad) (g' := gy119) (fun j h1 h2 => by rfl) (fun j h1 h2 => by rw [egy120, va_up_ne _ _ (by omega)]; rw [egy52, va_up_ne _ _ (by omega)]; rw [egy48, va_up_ne _ _ (by omega)]; rw [hfvy44 _ (by omega) (by omega)]) jry1
        have hpy131 := okPlan.mv (ad' := ad) (g' := gy119) (fun j h1 h2 => by rfl) (fun j h1 h2 => by rw [egy120, va_up_ne _ _ (by omega)]; rw [egy52, va_up_ne _ _ (by omega)]; rw [egy48, va_up_ne _ _ (by omega)]) hpvy44
        have hpy132 := okGss.mv (ad' := ad) (g' := gy119) (fun j h1 h2 => by rfl) (fun j h1 h2 => by rw [egy120, va_up_ne _ _ (by omega)]; rw [egy52, va_up_ne _ _ (by omega)]; rw [egy48, va_up_ne _ _ (by omega)]; rw [hfvy44 _ (by omega) (by omega)]) nry1
        have hpy133 := okLike.mv (ad' := ad) (g' := gy119) (fun j h1 h2 => by rfl) (fun j h1 h2 => by rw [egy120, va_up_ne _ _ (by omega)]; rw [egy52, va_up_ne _ _ (by omega)]; rw [egy48, va_up_ne _ _ (by omega)]; rw [hfvy44 _ (by omega) (by omega)]) ory1
        have hpy134 := okBld.mv (ad' := ad) (g' := gy119) (fun j h1 h2 => by rfl) (fun j h1 h2 => by rw [egy120, va_up_ne _ _ (by omega)]; rw [egy52, va_up_ne _ _ (by omega)]; rw [egy48, va_up_ne _ _ (by omega)]; rw [hfvy44 _ (by omega) (by omega)]) pry1
        have hoky135 : okWorld cs ad gy119 (890) := okWorld.mv (fun j j1 j2 => by rw [egy120, va_up_ne _ _ (by omega)]; rw [egy52, va_up_ne _ _ (by omega)]; rw [egy48, va_up_ne _ _ (by omega)]) hwvy44
        have hoky136 : okWorld cs ad gy119 (900) := okWorld.mv (fun j j1 j2 => by rw [egy120, va_up_ne _ _ (by omega)]; rw [egy52, va_up_ne _ _ (by omega)]; rw [egy48, va_up_ne _ _ (by omega)]; rw [hfvy44 _ (by omega) (by omega)]) mry1
        have hrecy137 : okRec cs ad gy119 N (0) (plvy44) (im) (nz) (kz) (sl) (ho) (ua) (st) (op) (ai) (fa) (mu) (tb) (tp) := ⟨hgy123, by omega, cry1, hgy127, hpy128, hpy129, gry11, hry1, ⟨_, hsty122⟩, ⟨_, hpy130⟩, hpy131, hoky135, hoky136, hpy132, hpy133, hpy134⟩
        exact z_rX (z_iret C hr hlk dX9_snow_77 (by decide) (by decide) ⟨vy44, rfl, rfl, rfl, by omega, ⟨_, _, _, _, _, _, _, _, _, _, _, _, hrecy137⟩, fun j j1 j2 => by rw [egy120, va_up_ne _ _ (by omega)]; rw [egy52, va_up_ne _ _ (by omega)]; rw [egy48, va_up_ne _ _ (by omega)]; rw [hfvy44 _ (by omega) (by omega)]⟩)
    · exact z_thr (cls := eIA) (text := "the tape has not so many bytes") C hl0 (by decide +kernel) q_658 q_19 (by decide +kernel) at_IA gd_IA dX9_snow_12 dX9_snow_15 dX9_snow_16 dX9_snow_18 dX9_snow_21 hxt (by decide) (Nat.le_of_ble_eq_true rfl) (by decide) (by decide) hlk (by decide) (by decide) ⟨⟨rfl, by omega⟩, rfl, rfl, rfl⟩
end
section
-- 70a.bcalls.lean.txt
section ZPV
variable {p : Program} {l : Launch} {e : Env} {R : Room} {s : State} {m : MethodId} {args : Array Value} {below : List Frame} {meth : Method} {c : Code}
theorem zp_callVP {T : State} {locs : List Loc} {cells slots : Nat} (X : Stand p l e R s m args below meth c T locs cells slots) (hexec : p.tables.exec = Jvm.exec) {own : String} {index : Nat} {y : MethodName} {bytes : ByteArray} {maxL : Nat} {ret : Option FieldType}
    (hown : s.vm.findClass own = some m.cls) (hlink : (Cond.methodLink own index y).before args s = true) (hsame : (Cond.sameMethod y.cls y.cls y.name y.desc).before args s = true) (hpriv : (Cond.privateMethod y).before args s = true) (hinst : (Cond.instanceMethod y).before args s = true) (hcode : (Cond.code y bytes maxL ret).before args s = true) (hy : y.cls ≠ "java/lang/invoke/MethodHandle" ∧ y.cls ≠ "java/lang/invoke/VarHandle")
    {W : Nat} {Pre : Pt → Array Value → Prop} {Post : Pt → Array Value → Option Value → Pt → Prop} (hK : Back l R p e below s args y 3 W Pre Post)
    {b : Addr} {cellB : Cell} (hcell : T.heap[b]? = some cellB) (hobj : cellB.vm.isStatics = false)
    {g : JFrame} (hg : g.method = m) (hsize : g.locals.size = c.maxLocals) {argsL rest : List Value} (hlen : ∀ sig, parseMethodDescriptor y.desc = some sig → argsL.length = sig.parameters.length)
    (hstack : g.stack = argsL.reverse ++ .ref b :: rest) (hW : 2 * g.monitorRoom + (rest.map fun v => v.category).sum ≤ W) (hdg : decode c.code g.pc = .ok (.invokevirtual index, 3))
    (hpre : ∀ vm₁, s.WarmedH vm₁ → Pre ⟨T.setVm vm₁, locs, cells, slots⟩ (Value.ref b :: argsL).toArray) :
    ∃ (v : Option Value) (vm₁ : Vm) (B : Pt), s.WarmedH vm₁ ∧ Stand p l e R s m args below meth c B.U B.locs B.cells B.slots ∧ Post ⟨T.setVm vm₁, locs, cells, slots⟩ (Value.ref b :: argsL).toArray v B ∧
      ∀ target, Steps p.tables e below (B.U.setTop { g with pc := g.pc + 3, stack := v.toList ++ rest }) target → Steps p.tables e below (T.setTop g) target := by
  obtain ⟨mk, methM, hnamed, hmethM, hstM, habM⟩ := Cond.instanceMethod_spec hinst
  obtain ⟨methM', cM, hmethM', -, -, -, -, -, -, hsigM⟩ := Cond.code_spec hnamed hcode
  cases hmethM.symm.trans hmethM'
  obtain ⟨cn, ck, r1, hcn, hck, hni, hf, hn1⟩ := Cond.sameMethod_found hsame
  have hn : s.methodNamed? ⟨y.cls, y.name, y.desc⟩ = some mk := hnamed
  have hpm : cn = mk.cls := Option.some.inj (hcn.symm.trans (findClass_of_methodNamed hnamed))
  subst hpm
  have hselP : selectMethod e.platform s.vm cellB.cls mk = .method mk := selectMethod_private hmethM (Cond.privateMethod_at hpriv mk methM hnamed hmethM)
  obtain ⟨vm₁, X₁, hstep₁⟩ := X.invokevirtualUp hexec hown hlink hsame hy hn hmethM hstM (a := b) (cell := cellB) hcell
    (fun z h => by rw [h] at hobj; cases hobj) hselP hmethM habM hck hni (g := g) hg (argsL := argsL) (rest := rest) (hlen _ hsigM) hstack hdg
  obtain ⟨v, B, X', hpost, hsteps⟩ := hK m meth c ⟨T.setVm vm₁, locs, cells, slots⟩ { g with stack := rest } (.invokevirtual index) mk (Value.ref b :: argsL).toArray X₁ hg hsize hdg hW (X₁.named hnamed) (hpre vm₁ X₁.warmed)
  exact ⟨v, vm₁, B, X₁.warmed, X', hpost, fun target h => hstep₁ _ fun acts => by rw [doInvoke_state]; exact hsteps.trans h⟩
variable {H : Heap} {locs : List Loc} {cells slots : Nat}
theorem zp_runVP {y : MethodName} {bytes cc : ByteArray} {maxL nL mc ms n index : Nat} {ret : Option FieldType} {ws : List Cond} {rm : Room} {Pc : Array Value → State → Prop} {Qc : Array Value → State → Outcome → State → Prop} {free : Addr → Prop} {Ts : List Cond} {own C : String} {b : Addr} {As rest : List Value} {g : JFrame}
    (S : CallFix p m c cc nL s args Ts own) (hM : Met l y ws rm Pc Qc mc ms free) (hrc : rm.cells = mc) (hrs : rm.slots = ms) (hfr : rm.frames + 1 ≤ R.frames) (hlo : 8 + (maxL + 11) + rm.locals ≤ R.locals) (hws : ∀ w ∈ ws, ∀ (a' : Array Value) (U : State), s.WarmedH U.vm → w.before a' U = true) (hcw : Cond.code y bytes maxL ret ∈ ws)
    (hlink : (Cond.methodLink own index y).before args s = true) (hsame : (Cond.sameMethod y.cls y.cls y.name y.desc).before args s = true) (hpriv : (Cond.privateMethod y).before args s = true) (hinst : (Cond.instanceMethod y).before args s = true) (hini : (Cond.initialized y.cls).before args s = true) (hcode : (Cond.code y bytes maxL ret).before args s = true) (hy : y.cls ≠ "java/lang/invoke/MethodHandle" ∧ y.cls ≠ "java/lang/invoke/VarHandle" ∧ (parseMethodDescriptor y.desc).map (fun d => d.parameters.length) = some n) (hp : PreV s H C b Pc As)
    (hg : g.method = m) (hn : As.length = n) (hsize : g.locals.size = nL) (hstack : g.stack = As.reverse ++ .ref b :: rest) (hW : 2 * g.monitorRoom + (rest.map fun v => v.category).sum ≤ 8) (hdg : decode cc g.pc = .ok (.invokevirtual index, 3)) (hf : cells + mc ≤ R.cells ∧ slots + ms ≤ R.slots) :
    va_Run p l e R s m args below meth c H locs cells slots mc ms g rest (Qc (Value.ref b :: As).toArray) (free) := by
  have hK : Back l R p e below s args y 3 8 (PreOf R mc ms Pc) (PostOf Qc mc ms free) := back_of (bytes := bytes) (maxL := maxL) (ret := ret) hM hp.1 hrc hrs hfr hlo hws hcw (fun a' U hW => word_at hW (Or.inl (by first | rfl | simp [Cond.onTables, Cond.keeps, Cond.steady])) hini)
  obtain ⟨hx, hb, hml, ho, -⟩ := S
  obtain ⟨-, ⟨cellB, hcB, hoB, hclB⟩, hPc⟩ := hp
  have hlen : ∀ sig, parseMethodDescriptor y.desc = some sig → n = sig.parameters.length := fun sig h => by
    have h2 := hy.2.2
    rw [h] at h2
    exact (Option.some.inj h2).symm
  intro T hT X
  obtain ⟨v, vm₁, ⟨U', l2, c2, s2⟩, hW₁, X', ⟨g', mk, t, L, e1, e2, hq, h1, hL, h2, h3⟩, st⟩ := zp_callVP X hx (bytes := bytes) (maxL := maxL) (ret := ret) ho hlink hsame hpriv hinst hcode ⟨hy.1, hy.2.1⟩ hK (by rw [hT]; exact hcB) hoB hg (hsize.trans hml.symm) (argsL := As) (rest := rest) (fun sig h => hn.trans (hlen sig h)) hstack hW (by rw [hb]; exact hdg)
    (fun vm₁ hW₁ => ⟨hf.1, hf.2, hPc (T.setVm vm₁) hT hW₁⟩)
  dsimp only [Pt.U, Pt.locs, Pt.cells, Pt.slots] at X' e1 e2 h1 h2 h3 st
  subst h1; subst h2; subst h3
  exact ⟨v, (T.setVm vm₁).calling g' mk (Value.ref b :: As).toArray, t, U', L, hT, X', hL, e1, e2, hq, st⟩
end ZPV

section ZPC
variable {p : Program} {l : Launch} {e : Env} {R : Room} {s : State} {m : MethodId} {args : Array Value} {below : List Frame} {meth : Method} {c : Code} {Q : State → Prop} {D : va_G} {A : Nat → Prop} {cs : Nat → ClassId} {tt : Nat} {cc : ByteArray} {nL : Nat} {own : String} {N : Nat} {ad : Nat → Nat} {g : Nat → va_E} {k n pc : Nat} {lv lv' : List (Nat × Value)} {rest st : List Value} {Qr : zR} {mc ms : Nat}
theorem z_cVP (C : zC p s m args c cc nL own D A cs tt) {y : MethodName} {cb : ByteArray} {mL index : Nat} {ret : Option FieldType} {rm : Room} {As : List Value} {i a ci : Nat} {fs : List Value} {q : vw_C} (hM : zM l y cb mL ret rm D A cs tt N ad g (.ref a :: As) Qr) (hi : i < N) (ha : ad i = a) (hg : g i = oC ci fs) (hc : vwCl[ci]? = some q) (hlk : Cond.methodLink own index y ∈ AW) (hsm : Cond.sameMethod y.cls y.cls y.name y.desc ∈ AW) (hpv : Cond.privateMethod y ∈ NW) (hin : Cond.instanceMethod y ∈ AW) (hini : Cond.initialized y.cls ∈ AW) (hcd : Cond.code y cb mL ret ∈ AW) (hd : y.cls ≠ "java/lang/invoke/MethodHandle" ∧ y.cls ≠ "java/lang/invoke/VarHandle" ∧ (parseMethodDescriptor y.desc).map (fun d => d.parameters.length) = some As.length) (hR : rm.frames + 1 ≤ R.frames ∧ 8 + (mL + 11) + rm.locals ≤ R.locals) (hrest : (rest.map fun v => v.category).sum ≤ 8) (hf : k + rm.cells ≤ R.cells ∧ n + rm.slots ≤ R.slots) (hdg : decode cc pc = .ok (.invokevirtual index, 3)) (hst : st = As.reverse ++ .ref a :: rest)
    (kk : ∀ (r : Option Value) (N' : Nat) (ad' : Nat → Nat) (g' : Nat → va_E), Qr r N' ad' g' → zV p l e R s m args below meth c Q D A nL N' ad' g' (k + rm.cells) (n + rm.slots) (pc + 3) (lv) (r.toList ++ rest)) : zV p l e R s m args below meth c Q D A nL N ad g k n (pc) (lv) (st) := fun H locs ls hP hD hS hl => by
  have hrc : ∃ cell : Cell, H[a]? = some cell ∧ cell.vm.isStatics = false ∧ s.vm.findClass q.1 = some cell.cls := va_recv C.2.2.2.2.2.1 hP hc ((wl_at hi).trans (by rw [hg, ha]))
  have hT := C.2.2.2.2.1
  exact z_run (zp_runVP (As := As) (rest := rest) (C := q.1) ⟨C.1, C.2.1, C.2.2.1, C.2.2.2.1, C.2.2.2.2.1⟩ hM rfl rfl hR.1 hR.2 (pay_in C.2.2.2.2.1 (AW_cons hcd)) List.mem_cons_self (hT _ hlk) (hT _ hsm) (NW_use hpv (C.2.2.2.2.2.2.1 _ hpv)) (hT _ hin) (hT _ hini) (hT _ hcd) hd ⟨zPre.blind, hrc, (z_preS C hP hD hS).2⟩ rfl rfl hl.1 hst (lv_room hrest) hdg hf) hS hl kk
theorem z_cVU (C : zC p s m args c cc nL own D A cs tt) {y : MethodName} {cb : ByteArray} {mL index : Nat} {ret : Option FieldType} {rm : Room} {As : List Value} {i a ci : Nat} {fs : List Value} {q : vw_C} (hM : zM l y cb mL ret rm D A cs tt N ad g (.ref a :: As) Qr) (hi : i < N) (ha : ad i = a) (hg : g i = oC ci fs) (hc : vwCl[ci]? = some q) (hlk : Cond.methodLink own index y ∈ AW) (hsm : Cond.sameMethod y.cls y.cls y.name y.desc ∈ AW) (hsl : Cond.selects q.1 y y ∈ AW) (hin : Cond.instanceMethod y ∈ AW) (hini : Cond.initialized y.cls ∈ AW) (hcd : Cond.code y cb mL ret ∈ AW) (hd : y.cls ≠ "java/lang/invoke/MethodHandle" ∧ y.cls ≠ "java/lang/invoke/VarHandle" ∧ (parseMethodDescriptor y.desc).map (fun d => d.parameters.length) = some As.length) (hR : rm.frames + 1 ≤ R.frames ∧ 8 + (mL + 11) + rm.locals ≤ R.locals) (hrest : (rest.map fun v => v.category).sum ≤ 8) (hf : k + rm.cells ≤ R.cells ∧ n + rm.slots ≤ R.slots) (hdg : decode cc pc = .ok (.invokevirtual index, 3)) (hst : st = As.reverse ++ .ref a :: rest)
    (kk : ∀ (r : Option Value) (N' : Nat) (ad' : Nat → Nat) (g' : Nat → va_E), Qr r N' ad' g' → zV p l e R s m args below meth c Q D A nL N' ad' g' (k + rm.cells) (n + rm.slots) (pc + 3) (lv) (r.toList ++ rest)) : zV p l e R s m args below meth c Q D A nL N ad g k n (pc) (lv) (st) := fun H locs ls hP hD hS hl => by
  have hrc : ∃ cell : Cell, H[a]? = some cell ∧ cell.vm.isStatics = false ∧ s.vm.findClass q.1 = some cell.cls := va_recv C.2.2.2.2.2.1 hP hc ((wl_at hi).trans (by rw [hg, ha]))
  have hG : GoodIn AW (va_wsU own index q.1 y.cls y y (Cond.code y cb mL ret :: AW)) := AW_in (fun w h => by
    unfold va_wsU at h
    rcases List.mem_append.mp h with h | h
    · rcases List.mem_cons.mp h with rfl | h
      · exact hlk
      · rcases List.mem_cons.mp h with rfl | h
        · exact hsm
        · rcases List.mem_cons.mp h with rfl | h
          · exact hsl
          · rcases List.mem_cons.mp h with rfl | h
            · exact hin
            · rcases List.mem_cons.mp h with rfl | h
              · exact hini
              · exact absurd h List.not_mem_nil
    · rcases List.mem_cons.mp h with rfl | h
      · exact hcd
      · exact h)
  exact z_run (va_runU (As := As) (rest := rest) ⟨C.1, C.2.1, C.2.2.1, C.2.2.2.1, C.2.2.2.2.1⟩ hM (va_cwU As.length C.2.2.2.2.1 hG rfl rfl rfl rfl hd hR) ⟨zPre.blind, hrc, (z_preS C hP hD hS).2⟩ rfl rfl hl.1 hst (lv_room hrest) hdg hf) hS hl kk
theorem z_cSU (C : zC p s m args c cc nL own D A cs tt) {y : MethodName} {cb : ByteArray} {mL index : Nat} {ret : Option FieldType} {rm : Room} {As : List Value} {i a ci : Nat} {fs : List Value} {q : vw_C} (hM : zM l y cb mL ret rm D A cs tt N ad g (.ref a :: As) Qr) (hi : i < N) (ha : ad i = a) (hg : g i = oC ci fs) (hc : vwCl[ci]? = some q) (hlk : Cond.methodLink own index y ∈ AW) (hsm : Cond.sameMethod y.cls y.cls y.name y.desc ∈ AW) (hsp : Cond.superclass own y.cls ∈ AW) (hin : Cond.instanceMethod y ∈ AW) (hini : Cond.initialized y.cls ∈ AW) (hcd : Cond.code y cb mL ret ∈ AW) (hnm : y.name ≠ "<init>") (hd : y.cls ≠ "java/lang/invoke/MethodHandle" ∧ y.cls ≠ "java/lang/invoke/VarHandle" ∧ (parseMethodDescriptor y.desc).map (fun d => d.parameters.length) = some As.length) (hR : rm.frames + 1 ≤ R.frames ∧ 8 + (mL + 11) + rm.locals ≤ R.locals) (hrest : (rest.map fun v => v.category).sum ≤ 8) (hf : k + rm.cells ≤ R.cells ∧ n + rm.slots ≤ R.slots) (hdg : decode cc pc = .ok (.invokespecial index, 3)) (hst : st = As.reverse ++ .ref a :: rest)
    (kk : ∀ (r : Option Value) (N' : Nat) (ad' : Nat → Nat) (g' : Nat → va_E), Qr r N' ad' g' → zV p l e R s m args below meth c Q D A nL N' ad' g' (k + rm.cells) (n + rm.slots) (pc + 3) (lv) (r.toList ++ rest)) : zV p l e R s m args below meth c Q D A nL N ad g k n (pc) (lv) (st) := fun H locs ls hP hD hS hl => by
  have hrc : ∃ cell : Cell, H[a]? = some cell ∧ cell.vm.isStatics = false ∧ s.vm.findClass q.1 = some cell.cls := va_recv C.2.2.2.2.2.1 hP hc ((wl_at hi).trans (by rw [hg, ha]))
  have hG : GoodIn AW (va_wsSU own index y (Cond.code y cb mL ret :: AW)) := AW_in (fun w h => by
    unfold va_wsSU at h
    rcases List.mem_append.mp h with h | h
    · rcases List.mem_cons.mp h with rfl | h
      · exact hlk
      · rcases List.mem_cons.mp h with rfl | h
        · exact hsm
        · rcases List.mem_cons.mp h with rfl | h
          · exact hsp
          · rcases List.mem_cons.mp h with rfl | h
            · exact hin
            · rcases List.mem_cons.mp h with rfl | h
              · exact hini
              · exact absurd h List.not_mem_nil
    · rcases List.mem_cons.mp h with rfl | h
      · exact hcd
      · exact h)
  have hat := (C.2.2.2.2.2.1.1 _ _ hc).2
  exact z_run (va_runSU (As := As) (rest := rest) hat ⟨C.1, C.2.1, C.2.2.1, C.2.2.2.1, C.2.2.2.2.1⟩ hM (va_cwSU As.length C.2.2.2.2.1 hG rfl rfl rfl ⟨hnm, hd.2.2⟩ hR) ⟨zPre.blind, hrc, (z_preS C hP hD hS).2⟩ rfl rfl hl.1 hst (lv_room hrest) hdg hf) hS hl kk

end ZPC
end
section
-- 70b.words.lean.txt
-- words of bld
theorem n_1058 : (Jvm.Cond.privateMethod ({ cls := "java/lang/AbstractStringBuilder", name := "putStringAt", desc := "(ILjava/lang/String;)V" } : Jvm.MethodName)) ∈ NW := NW_m5 98 (by decide +kernel) (by decide +kernel)
theorem n_1062 : (Jvm.Cond.privateMethod ({ cls := "java/lang/AbstractStringBuilder", name := "inflateIfNeededFor", desc := "(Ljava/lang/String;)V" } : Jvm.MethodName)) ∈ NW := NW_m5 102 (by decide +kernel) (by decide +kernel)
theorem n_986 : (Jvm.Cond.privateMethod ({ cls := "java/lang/AbstractStringBuilder", name := "ensureCapacityInternal", desc := "(I)V" } : Jvm.MethodName)) ∈ NW := NW_m5 26 (by decide +kernel) (by decide +kernel)
theorem n_990 : (Jvm.Cond.privateMethod ({ cls := "java/lang/AbstractStringBuilder", name := "newCapacity", desc := "(I)I" } : Jvm.MethodName)) ∈ NW := NW_m5 30 (by decide +kernel) (by decide +kernel)
theorem q_1001 : (Jvm.Cond.constant "java/lang/AbstractStringBuilder" (39 : Nat) (2147483647 : Int32)) ∈ AW := AW_m5 41 (by decide +kernel) (by decide +kernel)
theorem q_1002 : (Jvm.Cond.methodLink "java/lang/AbstractStringBuilder" (108 : Nat) ({ cls := "java/util/Arrays", name := "copyOf", desc := "([BI)[B" } : Jvm.MethodName)) ∈ AW := AW_m5 42 (by decide +kernel) (by decide +kernel)
theorem q_1003 : (Jvm.Cond.static ({ cls := "java/util/Arrays", name := "copyOf", desc := "([BI)[B" } : Jvm.MethodName)) ∈ AW := AW_m5 43 (by decide +kernel) (by decide +kernel)
theorem q_1004 : (Jvm.Cond.code ({ cls := "java/util/Arrays", name := "copyOf", desc := "([BI)[B" } : Jvm.MethodName) prog_33_method_121_code (3 : Nat) (Option.some (Jvm.ClassFile.FieldType.array Jvm.ClassFile.FieldType.byte))) ∈ AW := AW_m5 44 (by decide +kernel) (by decide +kernel)
theorem q_1010 : (Jvm.Cond.methodLink "java/util/Arrays" (304 : Nat) ({ cls := "java/lang/Math", name := "min", desc := "(II)I" } : Jvm.MethodName)) ∈ AW := AW_m5 50 (by decide +kernel) (by decide +kernel)
theorem q_1011 : (Jvm.Cond.methodLink "java/util/Arrays" (150 : Nat) ({ cls := "java/lang/System", name := "arraycopy", desc := "(Ljava/lang/Object;ILjava/lang/Object;II)V" } : Jvm.MethodName)) ∈ AW := AW_m5 51 (by decide +kernel) (by decide +kernel)
theorem q_1012 : (Jvm.Cond.methodLink "java/lang/AbstractStringBuilder" (83 : Nat) ({ cls := "java/lang/AbstractStringBuilder", name := "isLatin1", desc := "()Z" } : Jvm.MethodName)) ∈ AW := AW_m5 52 (by decide +kernel) (by decide +kernel)
theorem q_1013 : (Jvm.Cond.instanceMethod ({ cls := "java/lang/AbstractStringBuilder", name := "isLatin1", desc := "()Z" } : Jvm.MethodName)) ∈ AW := AW_m5 53 (by decide +kernel) (by decide +kernel)
theorem q_1014 : (Jvm.Cond.sameMethod "java/lang/AbstractStringBuilder" "java/lang/AbstractStringBuilder" "isLatin1" "()Z") ∈ AW := AW_m5 54 (by decide +kernel) (by decide +kernel)
theorem q_1015 : (Jvm.Cond.selects "java/lang/StringBuilder" ({ cls := "java/lang/AbstractStringBuilder", name := "isLatin1", desc := "()Z" } : Jvm.MethodName) ({ cls := "java/lang/AbstractStringBuilder", name := "isLatin1", desc := "()Z" } : Jvm.MethodName)) ∈ AW := AW_m5 55 (by decide +kernel) (by decide +kernel)
theorem q_1016 : (Jvm.Cond.code ({ cls := "java/lang/AbstractStringBuilder", name := "isLatin1", desc := "()Z" } : Jvm.MethodName) prog_14_method_68_code (1 : Nat) (Option.some Jvm.ClassFile.FieldType.boolean)) ∈ AW := AW_m5 56 (by decide +kernel) (by decide +kernel)
theorem q_1034 : (Jvm.Cond.methodLink "java/lang/StringBuilder" (29 : Nat) ({ cls := "java/lang/AbstractStringBuilder", name := "append", desc := "(Ljava/lang/String;)Ljava/lang/AbstractStringBuilder;" } : Jvm.MethodName)) ∈ AW := AW_m5 74 (by decide +kernel) (by decide +kernel)
theorem q_1035 : (Jvm.Cond.instanceMethod ({ cls := "java/lang/AbstractStringBuilder", name := "append", desc := "(Ljava/lang/String;)Ljava/lang/AbstractStringBuilder;" } : Jvm.MethodName)) ∈ AW := AW_m5 75 (by decide +kernel) (by decide +kernel)
theorem q_1036 : (Jvm.Cond.code ({ cls := "java/lang/AbstractStringBuilder", name := "append", desc := "(Ljava/lang/String;)Ljava/lang/AbstractStringBuilder;" } : Jvm.MethodName) prog_14_method_22_code (3 : Nat) (Option.some (Jvm.ClassFile.FieldType.object "java/lang/AbstractStringBuilder"))) ∈ AW := AW_m5 76 (by decide +kernel) (by decide +kernel)
theorem q_1056 : (Jvm.Cond.methodLink "java/lang/AbstractStringBuilder" (32 : Nat) ({ cls := "java/lang/String", name := "length", desc := "()I" } : Jvm.MethodName)) ∈ AW := AW_m5 96 (by decide +kernel) (by decide +kernel)
theorem q_1057 : (Jvm.Cond.methodLink "java/lang/AbstractStringBuilder" (208 : Nat) ({ cls := "java/lang/AbstractStringBuilder", name := "putStringAt", desc := "(ILjava/lang/String;)V" } : Jvm.MethodName)) ∈ AW := AW_m5 97 (by decide +kernel) (by decide +kernel)
theorem q_1059 : (Jvm.Cond.instanceMethod ({ cls := "java/lang/AbstractStringBuilder", name := "putStringAt", desc := "(ILjava/lang/String;)V" } : Jvm.MethodName)) ∈ AW := AW_m5 99 (by decide +kernel) (by decide +kernel)
theorem q_1060 : (Jvm.Cond.code ({ cls := "java/lang/AbstractStringBuilder", name := "putStringAt", desc := "(ILjava/lang/String;)V" } : Jvm.MethodName) prog_14_method_73_code (3 : Nat) (Option.none : Option Jvm.ClassFile.FieldType)) ∈ AW := AW_m5 100 (by decide +kernel) (by decide +kernel)
theorem q_1061 : (Jvm.Cond.methodLink "java/lang/AbstractStringBuilder" (397 : Nat) ({ cls := "java/lang/AbstractStringBuilder", name := "inflateIfNeededFor", desc := "(Ljava/lang/String;)V" } : Jvm.MethodName)) ∈ AW := AW_m5 101 (by decide +kernel) (by decide +kernel)
theorem q_1063 : (Jvm.Cond.instanceMethod ({ cls := "java/lang/AbstractStringBuilder", name := "inflateIfNeededFor", desc := "(Ljava/lang/String;)V" } : Jvm.MethodName)) ∈ AW := AW_m5 103 (by decide +kernel) (by decide +kernel)
theorem q_1064 : (Jvm.Cond.code ({ cls := "java/lang/AbstractStringBuilder", name := "inflateIfNeededFor", desc := "(Ljava/lang/String;)V" } : Jvm.MethodName) prog_14_method_71_code (2 : Nat) (Option.none : Option Jvm.ClassFile.FieldType)) ∈ AW := AW_m5 104 (by decide +kernel) (by decide +kernel)
theorem q_1065 : (Jvm.Cond.methodLink "java/lang/AbstractStringBuilder" (40 : Nat) ({ cls := "java/lang/String", name := "coder", desc := "()B" } : Jvm.MethodName)) ∈ AW := AW_m5 105 (by decide +kernel) (by decide +kernel)
theorem q_1085 : (Jvm.Cond.methodLink "java/lang/AbstractStringBuilder" (399 : Nat) ({ cls := "java/lang/String", name := "getBytes", desc := "([BIB)V" } : Jvm.MethodName)) ∈ AW := AW_m5 125 (by decide +kernel) (by decide +kernel)
theorem q_1086 : (Jvm.Cond.instanceMethod ({ cls := "java/lang/String", name := "getBytes", desc := "([BIB)V" } : Jvm.MethodName)) ∈ AW := AW_m5 126 (by decide +kernel) (by decide +kernel)
theorem q_1087 : (Jvm.Cond.selects "java/lang/String" ({ cls := "java/lang/String", name := "getBytes", desc := "([BIB)V" } : Jvm.MethodName) ({ cls := "java/lang/String", name := "getBytes", desc := "([BIB)V" } : Jvm.MethodName)) ∈ AW := AW_m5 127 (by decide +kernel) (by decide +kernel)
theorem q_1088 : (Jvm.Cond.code ({ cls := "java/lang/String", name := "getBytes", desc := "([BIB)V" } : Jvm.MethodName) prog_25_method_147_code (4 : Nat) (Option.none : Option Jvm.ClassFile.FieldType)) ∈ AW := AW_m5 128 (by decide +kernel) (by decide +kernel)
theorem q_1089 : (Jvm.Cond.methodLink "java/lang/String" (212 : Nat) ({ cls := "java/lang/System", name := "arraycopy", desc := "(Ljava/lang/Object;ILjava/lang/Object;II)V" } : Jvm.MethodName)) ∈ AW := AW_m5 129 (by decide +kernel) (by decide +kernel)
theorem q_1095 : (Jvm.Cond.methodLink "java/lang/StringBuilder" (53 : Nat) ({ cls := "java/lang/AbstractStringBuilder", name := "append", desc := "(I)Ljava/lang/AbstractStringBuilder;" } : Jvm.MethodName)) ∈ AW := AW_m5 135 (by decide +kernel) (by decide +kernel)
theorem q_1096 : (Jvm.Cond.instanceMethod ({ cls := "java/lang/AbstractStringBuilder", name := "append", desc := "(I)Ljava/lang/AbstractStringBuilder;" } : Jvm.MethodName)) ∈ AW := AW_m5 136 (by decide +kernel) (by decide +kernel)
theorem q_1097 : (Jvm.Cond.code ({ cls := "java/lang/AbstractStringBuilder", name := "append", desc := "(I)Ljava/lang/AbstractStringBuilder;" } : Jvm.MethodName) prog_14_method_32_code (4 : Nat) (Option.some (Jvm.ClassFile.FieldType.object "java/lang/AbstractStringBuilder"))) ∈ AW := AW_m5 137 (by decide +kernel) (by decide +kernel)
theorem q_1098 : (Jvm.Cond.methodLink "java/lang/AbstractStringBuilder" (245 : Nat) ({ cls := "java/lang/Integer", name := "stringSize", desc := "(I)I" } : Jvm.MethodName)) ∈ AW := AW_m5 138 (by decide +kernel) (by decide +kernel)
theorem q_1099 : (Jvm.Cond.static ({ cls := "java/lang/Integer", name := "stringSize", desc := "(I)I" } : Jvm.MethodName)) ∈ AW := AW_m5 139 (by decide +kernel) (by decide +kernel)
theorem q_1100 : (Jvm.Cond.code ({ cls := "java/lang/Integer", name := "stringSize", desc := "(I)I" } : Jvm.MethodName) prog_21_method_13_code (4 : Nat) (Option.some Jvm.ClassFile.FieldType.int)) ∈ AW := AW_m5 140 (by decide +kernel) (by decide +kernel)
theorem q_1101 : (Jvm.Cond.methodLink "java/lang/AbstractStringBuilder" (248 : Nat) ({ cls := "java/lang/Integer", name := "getChars", desc := "(II[B)I" } : Jvm.MethodName)) ∈ AW := AW_m5 141 (by decide +kernel) (by decide +kernel)
theorem q_1102 : (Jvm.Cond.static ({ cls := "java/lang/Integer", name := "getChars", desc := "(II[B)I" } : Jvm.MethodName)) ∈ AW := AW_m5 142 (by decide +kernel) (by decide +kernel)
theorem q_1103 : (Jvm.Cond.code ({ cls := "java/lang/Integer", name := "getChars", desc := "(II[B)I" } : Jvm.MethodName) prog_21_method_12_code (7 : Nat) (Option.some Jvm.ClassFile.FieldType.int)) ∈ AW := AW_m5 143 (by decide +kernel) (by decide +kernel)
theorem q_1186 : (Jvm.Cond.methodLink "java/lang/StringBuilder" (50 : Nat) ({ cls := "java/lang/AbstractStringBuilder", name := "append", desc := "(C)Ljava/lang/AbstractStringBuilder;" } : Jvm.MethodName)) ∈ AW := AW_m5 226 (by decide +kernel) (by decide +kernel)
theorem q_1187 : (Jvm.Cond.instanceMethod ({ cls := "java/lang/AbstractStringBuilder", name := "append", desc := "(C)Ljava/lang/AbstractStringBuilder;" } : Jvm.MethodName)) ∈ AW := AW_m5 227 (by decide +kernel) (by decide +kernel)
theorem q_1188 : (Jvm.Cond.code ({ cls := "java/lang/AbstractStringBuilder", name := "append", desc := "(C)Ljava/lang/AbstractStringBuilder;" } : Jvm.MethodName) prog_14_method_31_code (2 : Nat) (Option.some (Jvm.ClassFile.FieldType.object "java/lang/AbstractStringBuilder"))) ∈ AW := AW_m5 228 (by decide +kernel) (by decide +kernel)
theorem q_1189 : (Jvm.Cond.methodLink "java/lang/AbstractStringBuilder" (191 : Nat) ({ cls := "java/lang/StringLatin1", name := "canEncode", desc := "(C)Z" } : Jvm.MethodName)) ∈ AW := AW_m5 229 (by decide +kernel) (by decide +kernel)
theorem q_1190 : (Jvm.Cond.static ({ cls := "java/lang/StringLatin1", name := "canEncode", desc := "(C)Z" } : Jvm.MethodName)) ∈ AW := AW_m5 230 (by decide +kernel) (by decide +kernel)
theorem q_1191 : (Jvm.Cond.code ({ cls := "java/lang/StringLatin1", name := "canEncode", desc := "(C)Z" } : Jvm.MethodName) prog_27_method_3_code (1 : Nat) (Option.some Jvm.ClassFile.FieldType.boolean)) ∈ AW := AW_m5 231 (by decide +kernel) (by decide +kernel)
theorem q_2119 : (Jvm.Cond.sameMethod "java/lang/AbstractStringBuilder" "java/lang/AbstractStringBuilder" "ensureCapacityInternal" "(I)V") ∈ AW := AW_m9 199 (by decide +kernel) (by decide +kernel)
theorem q_2120 : (Jvm.Cond.sameMethod "java/lang/AbstractStringBuilder" "java/lang/AbstractStringBuilder" "newCapacity" "(I)I") ∈ AW := AW_m9 200 (by decide +kernel) (by decide +kernel)
theorem q_2121 : (Jvm.Cond.sameMethod "java/lang/AbstractStringBuilder" "java/lang/AbstractStringBuilder" "append" "(Ljava/lang/String;)Ljava/lang/AbstractStringBuilder;") ∈ AW := AW_m9 201 (by decide +kernel) (by decide +kernel)
theorem q_2123 : (Jvm.Cond.sameMethod "java/lang/AbstractStringBuilder" "java/lang/AbstractStringBuilder" "putStringAt" "(ILjava/lang/String;)V") ∈ AW := AW_m9 203 (by decide +kernel) (by decide +kernel)
theorem q_2124 : (Jvm.Cond.sameMethod "java/lang/AbstractStringBuilder" "java/lang/AbstractStringBuilder" "inflateIfNeededFor" "(Ljava/lang/String;)V") ∈ AW := AW_m9 204 (by decide +kernel) (by decide +kernel)
theorem q_2126 : (Jvm.Cond.sameMethod "java/lang/AbstractStringBuilder" "java/lang/AbstractStringBuilder" "append" "(I)Ljava/lang/AbstractStringBuilder;") ∈ AW := AW_m9 206 (by decide +kernel) (by decide +kernel)
theorem q_2127 : (Jvm.Cond.sameMethod "java/lang/AbstractStringBuilder" "java/lang/AbstractStringBuilder" "append" "(C)Ljava/lang/AbstractStringBuilder;") ∈ AW := AW_m9 207 (by decide +kernel) (by decide +kernel)
theorem q_25 : (Jvm.Cond.initialized "jdk/internal/util/ArraysSupport") ∈ AW := AW_m1 25 (by decide +kernel) (by decide +kernel)
theorem q_26 : (Jvm.Cond.initialized "java/util/Arrays") ∈ AW := AW_m1 26 (by decide +kernel) (by decide +kernel)
theorem q_28 : (Jvm.Cond.initialized "java/lang/Integer") ∈ AW := AW_m1 28 (by decide +kernel) (by decide +kernel)
theorem q_337 : (Jvm.Cond.fieldLink "java/lang/AbstractStringBuilder" (73 : Nat) "java/lang/AbstractStringBuilder" "maybeLatin1" "Z") ∈ AW := AW_m2 97 (by decide +kernel) (by decide +kernel)
theorem q_339 : (Jvm.Cond.fieldLink "java/lang/AbstractStringBuilder" (79 : Nat) "java/lang/AbstractStringBuilder" "count" "I") ∈ AW := AW_m2 99 (by decide +kernel) (by decide +kernel)
theorem q_348 : (Jvm.Cond.superclass "java/lang/StringBuilder" "java/lang/AbstractStringBuilder") ∈ AW := AW_m2 108 (by decide +kernel) (by decide +kernel)
theorem q_985 : (Jvm.Cond.methodLink "java/lang/AbstractStringBuilder" (100 : Nat) ({ cls := "java/lang/AbstractStringBuilder", name := "ensureCapacityInternal", desc := "(I)V" } : Jvm.MethodName)) ∈ AW := AW_m5 25 (by decide +kernel) (by decide +kernel)
theorem q_987 : (Jvm.Cond.instanceMethod ({ cls := "java/lang/AbstractStringBuilder", name := "ensureCapacityInternal", desc := "(I)V" } : Jvm.MethodName)) ∈ AW := AW_m5 27 (by decide +kernel) (by decide +kernel)
theorem q_988 : (Jvm.Cond.code ({ cls := "java/lang/AbstractStringBuilder", name := "ensureCapacityInternal", desc := "(I)V" } : Jvm.MethodName) prog_14_method_9_code (3 : Nat) (Option.none : Option Jvm.ClassFile.FieldType)) ∈ AW := AW_m5 28 (by decide +kernel) (by decide +kernel)
theorem q_989 : (Jvm.Cond.methodLink "java/lang/AbstractStringBuilder" (104 : Nat) ({ cls := "java/lang/AbstractStringBuilder", name := "newCapacity", desc := "(I)I" } : Jvm.MethodName)) ∈ AW := AW_m5 29 (by decide +kernel) (by decide +kernel)
theorem q_991 : (Jvm.Cond.instanceMethod ({ cls := "java/lang/AbstractStringBuilder", name := "newCapacity", desc := "(I)I" } : Jvm.MethodName)) ∈ AW := AW_m5 31 (by decide +kernel) (by decide +kernel)
theorem q_992 : (Jvm.Cond.code ({ cls := "java/lang/AbstractStringBuilder", name := "newCapacity", desc := "(I)I" } : Jvm.MethodName) prog_14_method_10_code (6 : Nat) (Option.some Jvm.ClassFile.FieldType.int)) ∈ AW := AW_m5 32 (by decide +kernel) (by decide +kernel)
theorem q_993 : (Jvm.Cond.methodLink "java/lang/AbstractStringBuilder" (114 : Nat) ({ cls := "jdk/internal/util/ArraysSupport", name := "newLength", desc := "(III)I" } : Jvm.MethodName)) ∈ AW := AW_m5 33 (by decide +kernel) (by decide +kernel)
theorem q_994 : (Jvm.Cond.static ({ cls := "jdk/internal/util/ArraysSupport", name := "newLength", desc := "(III)I" } : Jvm.MethodName)) ∈ AW := AW_m5 34 (by decide +kernel) (by decide +kernel)
theorem q_995 : (Jvm.Cond.code ({ cls := "jdk/internal/util/ArraysSupport", name := "newLength", desc := "(III)I" } : Jvm.MethodName) prog_35_method_27_code (4 : Nat) (Option.some Jvm.ClassFile.FieldType.int)) ∈ AW := AW_m5 35 (by decide +kernel) (by decide +kernel)
theorem q_996 : (Jvm.Cond.methodLink "jdk/internal/util/ArraysSupport" (194 : Nat) ({ cls := "java/lang/Math", name := "max", desc := "(II)I" } : Jvm.MethodName)) ∈ AW := AW_m5 36 (by decide +kernel) (by decide +kernel)
theorem q_997 : (Jvm.Cond.constant "jdk/internal/util/ArraysSupport" (200 : Nat) (2147483639 : Int32)) ∈ AW := AW_m5 37 (by decide +kernel) (by decide +kernel)
theorem hd_yJ8_newLength_cabcc : yJ8_newLength_cabcc.cls ≠ "java/lang/invoke/MethodHandle" ∧ yJ8_newLength_cabcc.cls ≠ "java/lang/invoke/VarHandle" ∧ (parseMethodDescriptor yJ8_newLength_cabcc.desc).map (fun d => d.parameters.length) = some 3 := by decide +kernel
theorem hd_yJ5_newCapacity_0f7a4 : yJ5_newCapacity_0f7a4.cls ≠ "java/lang/invoke/MethodHandle" ∧ yJ5_newCapacity_0f7a4.cls ≠ "java/lang/invoke/VarHandle" ∧ (parseMethodDescriptor yJ5_newCapacity_0f7a4.desc).map (fun d => d.parameters.length) = some 1 := by decide +kernel
theorem hd_yJ7_copyOf_9075b : yJ7_copyOf_9075b.cls ≠ "java/lang/invoke/MethodHandle" ∧ yJ7_copyOf_9075b.cls ≠ "java/lang/invoke/VarHandle" ∧ (parseMethodDescriptor yJ7_copyOf_9075b.desc).map (fun d => d.parameters.length) = some 2 := by decide +kernel
theorem hd_yJ5_ensureCapacityInternal_d00df : yJ5_ensureCapacityInternal_d00df.cls ≠ "java/lang/invoke/MethodHandle" ∧ yJ5_ensureCapacityInternal_d00df.cls ≠ "java/lang/invoke/VarHandle" ∧ (parseMethodDescriptor yJ5_ensureCapacityInternal_d00df.desc).map (fun d => d.parameters.length) = some 1 := by decide +kernel
theorem hd_yJ5_isLatin1_aae02 : yJ5_isLatin1_aae02.cls ≠ "java/lang/invoke/MethodHandle" ∧ yJ5_isLatin1_aae02.cls ≠ "java/lang/invoke/VarHandle" ∧ (parseMethodDescriptor yJ5_isLatin1_aae02.desc).map (fun d => d.parameters.length) = some 0 := by decide +kernel
theorem hd_yJ1_canEncode_fc78d : yJ1_canEncode_fc78d.cls ≠ "java/lang/invoke/MethodHandle" ∧ yJ1_canEncode_fc78d.cls ≠ "java/lang/invoke/VarHandle" ∧ (parseMethodDescriptor yJ1_canEncode_fc78d.desc).map (fun d => d.parameters.length) = some 1 := by decide +kernel
theorem hd_yJ6_stringSize_0f7a4 : yJ6_stringSize_0f7a4.cls ≠ "java/lang/invoke/MethodHandle" ∧ yJ6_stringSize_0f7a4.cls ≠ "java/lang/invoke/VarHandle" ∧ (parseMethodDescriptor yJ6_stringSize_0f7a4.desc).map (fun d => d.parameters.length) = some 1 := by decide +kernel
theorem hd_yJ6_getChars_ba4f3 : yJ6_getChars_ba4f3.cls ≠ "java/lang/invoke/MethodHandle" ∧ yJ6_getChars_ba4f3.cls ≠ "java/lang/invoke/VarHandle" ∧ (parseMethodDescriptor yJ6_getChars_ba4f3.desc).map (fun d => d.parameters.length) = some 3 := by decide +kernel
theorem hd_yJ5_inflateIfNeededFor_a7421 : yJ5_inflateIfNeededFor_a7421.cls ≠ "java/lang/invoke/MethodHandle" ∧ yJ5_inflateIfNeededFor_a7421.cls ≠ "java/lang/invoke/VarHandle" ∧ (parseMethodDescriptor yJ5_inflateIfNeededFor_a7421.desc).map (fun d => d.parameters.length) = some 1 := by decide +kernel
theorem hd_yJ0_getBytes_840e7 : yJ0_getBytes_840e7.cls ≠ "java/lang/invoke/MethodHandle" ∧ yJ0_getBytes_840e7.cls ≠ "java/lang/invoke/VarHandle" ∧ (parseMethodDescriptor yJ0_getBytes_840e7.desc).map (fun d => d.parameters.length) = some 3 := by decide +kernel
theorem hd_yJ5_putStringAt_47b60 : yJ5_putStringAt_47b60.cls ≠ "java/lang/invoke/MethodHandle" ∧ yJ5_putStringAt_47b60.cls ≠ "java/lang/invoke/VarHandle" ∧ (parseMethodDescriptor yJ5_putStringAt_47b60.desc).map (fun d => d.parameters.length) = some 2 := by decide +kernel
theorem hd_yJ5_append_c97b9 : yJ5_append_c97b9.cls ≠ "java/lang/invoke/MethodHandle" ∧ yJ5_append_c97b9.cls ≠ "java/lang/invoke/VarHandle" ∧ (parseMethodDescriptor yJ5_append_c97b9.desc).map (fun d => d.parameters.length) = some 1 := by decide +kernel
theorem hd_yJ5_append_3fe6f : yJ5_append_3fe6f.cls ≠ "java/lang/invoke/MethodHandle" ∧ yJ5_append_3fe6f.cls ≠ "java/lang/invoke/VarHandle" ∧ (parseMethodDescriptor yJ5_append_3fe6f.desc).map (fun d => d.parameters.length) = some 1 := by decide +kernel
theorem hd_yJ5_append_cf1ce : yJ5_append_cf1ce.cls ≠ "java/lang/invoke/MethodHandle" ∧ yJ5_append_cf1ce.cls ≠ "java/lang/invoke/VarHandle" ∧ (parseMethodDescriptor yJ5_append_cf1ce.desc).map (fun d => d.parameters.length) = some 1 := by decide +kernel
theorem ms_yJ8_newLength_cabcc : zWs yJ8_newLength_cabcc cJ8_newLength_cabcc 4 (some .int) := ⟨q_994, q_25, q_995⟩
theorem ms_yJ7_copyOf_9075b : zWs yJ7_copyOf_9075b cJ7_copyOf_9075b 3 (some (.array .byte)) := ⟨q_1003, q_26, q_1004⟩
theorem ms_yJ1_canEncode_fc78d : zWs yJ1_canEncode_fc78d cJ1_canEncode_fc78d 1 (some .boolean) := ⟨q_1190, q_22, q_1191⟩
theorem ms_yJ6_stringSize_0f7a4 : zWs yJ6_stringSize_0f7a4 cJ6_stringSize_0f7a4 4 (some .int) := ⟨q_1099, q_28, q_1100⟩
theorem ms_yJ6_getChars_ba4f3 : zWs yJ6_getChars_ba4f3 cJ6_getChars_ba4f3 7 (some .int) := ⟨q_1102, q_28, q_1103⟩
theorem mv_yJ0_getBytes_840e7 : zWv yJ0_getBytes_840e7 cJ0_getBytes_840e7 4 none := ⟨q_1086, q_1087, q_13, q_1088⟩
end
