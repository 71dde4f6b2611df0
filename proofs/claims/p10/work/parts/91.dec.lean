-- decode rows of refa
theorem dX10_allLayers_4 : decode cX10_allLayers 4 = .ok (.iload_n 2, 1) := by decide +kernel
theorem dX10_allLayers_5 : decode cX10_allLayers 5 = .ok (.aload_n 0, 1) := by decide +kernel
theorem dX10_allLayers_6 : decode cX10_allLayers 6 = .ok (.getfield 198, 3) := by decide +kernel
theorem dX10_allLayers_9 : decode cX10_allLayers 9 = .ok (.if_icmp .ge 18, 3) := by decide +kernel
theorem dX10_allLayers_27 : decode cX10_allLayers 27 = .ok (.iload_n 1, 1) := by decide +kernel
theorem dX10_allLayers_28 : decode cX10_allLayers 28 = .ok (.ireturn, 1) := by decide +kernel
theorem dX10_allLayers_12 : decode cX10_allLayers 12 = .ok (.iload_n 1, 1) := by decide +kernel
theorem dX10_allLayers_13 : decode cX10_allLayers 13 = .ok (.aload_n 0, 1) := by decide +kernel
theorem dX10_allLayers_14 : decode cX10_allLayers 14 = .ok (.iconst 0, 1) := by decide +kernel
theorem dX10_allLayers_15 : decode cX10_allLayers 15 = .ok (.iload_n 2, 1) := by decide +kernel
theorem dX10_allLayers_16 : decode cX10_allLayers 16 = .ok (.invokevirtual 121, 3) := by decide +kernel
theorem dX10_allLayers_19 : decode cX10_allLayers 19 = .ok (.iadd, 1) := by decide +kernel
theorem dX10_allLayers_20 : decode cX10_allLayers 20 = .ok (.istore_n 1, 1) := by decide +kernel
theorem dX10_allLayers_21 : decode cX10_allLayers 21 = .ok (.iinc 2 1, 3) := by decide +kernel
theorem dX10_allLayers_24 : decode cX10_allLayers 24 = .ok (.goto (-20), 3) := by decide +kernel
theorem dX10_allLayers_0 : decode cX10_allLayers 0 = .ok (.iconst 0, 1) := by decide +kernel
theorem dX10_allLayers_1 : decode cX10_allLayers 1 = .ok (.istore_n 1, 1) := by decide +kernel
theorem dX10_allLayers_2 : decode cX10_allLayers 2 = .ok (.iconst 0, 1) := by decide +kernel
theorem dX10_allLayers_3 : decode cX10_allLayers 3 = .ok (.istore_n 2, 1) := by decide +kernel
theorem dX10_allWeight_4 : decode cX10_allWeight 4 = .ok (.iload_n 2, 1) := by decide +kernel
theorem dX10_allWeight_5 : decode cX10_allWeight 5 = .ok (.aload_n 0, 1) := by decide +kernel
theorem dX10_allWeight_6 : decode cX10_allWeight 6 = .ok (.getfield 198, 3) := by decide +kernel
theorem dX10_allWeight_9 : decode cX10_allWeight 9 = .ok (.if_icmp .ge 27, 3) := by decide +kernel
theorem dX10_allWeight_36 : decode cX10_allWeight 36 = .ok (.iload_n 1, 1) := by decide +kernel
theorem dX10_allWeight_37 : decode cX10_allWeight 37 = .ok (.ireturn, 1) := by decide +kernel
theorem dX10_allWeight_12 : decode cX10_allWeight 12 = .ok (.iload_n 1, 1) := by decide +kernel
theorem dX10_allWeight_13 : decode cX10_allWeight 13 = .ok (.aload_n 0, 1) := by decide +kernel
theorem dX10_allWeight_14 : decode cX10_allWeight 14 = .ok (.iconst 0, 1) := by decide +kernel
theorem dX10_allWeight_15 : decode cX10_allWeight 15 = .ok (.iload_n 2, 1) := by decide +kernel
theorem dX10_allWeight_16 : decode cX10_allWeight 16 = .ok (.iconst 1, 1) := by decide +kernel
theorem dX10_allWeight_17 : decode cX10_allWeight 17 = .ok (.invokevirtual 345, 3) := by decide +kernel
theorem dX10_allWeight_20 : decode cX10_allWeight 20 = .ok (.aload_n 0, 1) := by decide +kernel
theorem dX10_allWeight_21 : decode cX10_allWeight 21 = .ok (.iconst 0, 1) := by decide +kernel
theorem dX10_allWeight_22 : decode cX10_allWeight 22 = .ok (.iload_n 2, 1) := by decide +kernel
theorem dX10_allWeight_23 : decode cX10_allWeight 23 = .ok (.iconst 2, 1) := by decide +kernel
theorem dX10_allWeight_24 : decode cX10_allWeight 24 = .ok (.invokevirtual 345, 3) := by decide +kernel
theorem dX10_allWeight_27 : decode cX10_allWeight 27 = .ok (.iadd, 1) := by decide +kernel
theorem dX10_allWeight_28 : decode cX10_allWeight 28 = .ok (.iadd, 1) := by decide +kernel
theorem dX10_allWeight_29 : decode cX10_allWeight 29 = .ok (.istore_n 1, 1) := by decide +kernel
theorem dX10_allWeight_30 : decode cX10_allWeight 30 = .ok (.iinc 2 1, 3) := by decide +kernel
theorem dX10_allWeight_33 : decode cX10_allWeight 33 = .ok (.goto (-29), 3) := by decide +kernel
theorem dX10_allWeight_0 : decode cX10_allWeight 0 = .ok (.iconst 0, 1) := by decide +kernel
theorem dX10_allWeight_1 : decode cX10_allWeight 1 = .ok (.istore_n 1, 1) := by decide +kernel
theorem dX10_allWeight_2 : decode cX10_allWeight 2 = .ok (.iconst 0, 1) := by decide +kernel
theorem dX10_allWeight_3 : decode cX10_allWeight 3 = .ok (.istore_n 2, 1) := by decide +kernel
theorem dX10_allRunoff_4 : decode cX10_allRunoff 4 = .ok (.iload_n 2, 1) := by decide +kernel
theorem dX10_allRunoff_5 : decode cX10_allRunoff 5 = .ok (.aload_n 0, 1) := by decide +kernel
theorem dX10_allRunoff_6 : decode cX10_allRunoff 6 = .ok (.getfield 198, 3) := by decide +kernel
theorem dX10_allRunoff_9 : decode cX10_allRunoff 9 = .ok (.if_icmp .ge 26, 3) := by decide +kernel
theorem dX10_allRunoff_35 : decode cX10_allRunoff 35 = .ok (.iload_n 1, 1) := by decide +kernel
theorem dX10_allRunoff_36 : decode cX10_allRunoff 36 = .ok (.ireturn, 1) := by decide +kernel
theorem dX10_allRunoff_12 : decode cX10_allRunoff 12 = .ok (.iload_n 1, 1) := by decide +kernel
theorem dX10_allRunoff_13 : decode cX10_allRunoff 13 = .ok (.aload_n 0, 1) := by decide +kernel
theorem dX10_allRunoff_14 : decode cX10_allRunoff 14 = .ok (.getfield 9, 3) := by decide +kernel
theorem dX10_allRunoff_17 : decode cX10_allRunoff 17 = .ok (.bipush 6, 2) := by decide +kernel
theorem dX10_allRunoff_19 : decode cX10_allRunoff 19 = .ok (.bipush 86, 2) := by decide +kernel
theorem dX10_allRunoff_21 : decode cX10_allRunoff 21 = .ok (.iload_n 2, 1) := by decide +kernel
theorem dX10_allRunoff_22 : decode cX10_allRunoff 22 = .ok (.imul, 1) := by decide +kernel
theorem dX10_allRunoff_23 : decode cX10_allRunoff 23 = .ok (.iadd, 1) := by decide +kernel
theorem dX10_allRunoff_24 : decode cX10_allRunoff 24 = .ok (.iconst 1, 1) := by decide +kernel
theorem dX10_allRunoff_25 : decode cX10_allRunoff 25 = .ok (.iadd, 1) := by decide +kernel
theorem dX10_allRunoff_26 : decode cX10_allRunoff 26 = .ok (.iaload, 1) := by decide +kernel
theorem dX10_allRunoff_27 : decode cX10_allRunoff 27 = .ok (.iadd, 1) := by decide +kernel
theorem dX10_allRunoff_28 : decode cX10_allRunoff 28 = .ok (.istore_n 1, 1) := by decide +kernel
theorem dX10_allRunoff_29 : decode cX10_allRunoff 29 = .ok (.iinc 2 1, 3) := by decide +kernel
theorem dX10_allRunoff_32 : decode cX10_allRunoff 32 = .ok (.goto (-28), 3) := by decide +kernel
theorem dX10_allRunoff_0 : decode cX10_allRunoff 0 = .ok (.iconst 0, 1) := by decide +kernel
theorem dX10_allRunoff_1 : decode cX10_allRunoff 1 = .ok (.istore_n 1, 1) := by decide +kernel
theorem dX10_allRunoff_2 : decode cX10_allRunoff 2 = .ok (.iconst 0, 1) := by decide +kernel
theorem dX10_allRunoff_3 : decode cX10_allRunoff 3 = .ok (.istore_n 2, 1) := by decide +kernel
theorem dX10_worst_4 : decode cX10_worst 4 = .ok (.iload_n 2, 1) := by decide +kernel
theorem dX10_worst_5 : decode cX10_worst 5 = .ok (.aload_n 0, 1) := by decide +kernel
theorem dX10_worst_6 : decode cX10_worst 6 = .ok (.getfield 198, 3) := by decide +kernel
theorem dX10_worst_9 : decode cX10_worst 9 = .ok (.if_icmp .ge 31, 3) := by decide +kernel
theorem dX10_worst_40 : decode cX10_worst 40 = .ok (.iload_n 1, 1) := by decide +kernel
theorem dX10_worst_41 : decode cX10_worst 41 = .ok (.ireturn, 1) := by decide +kernel
theorem dX10_worst_12 : decode cX10_worst 12 = .ok (.iload_n 1, 1) := by decide +kernel
theorem dX10_worst_13 : decode cX10_worst 13 = .ok (.iconst (-1), 1) := by decide +kernel
theorem dX10_worst_14 : decode cX10_worst 14 = .ok (.if_icmp .eq 18, 3) := by decide +kernel
theorem dX10_worst_32 : decode cX10_worst 32 = .ok (.iload_n 2, 1) := by decide +kernel
theorem dX10_worst_33 : decode cX10_worst 33 = .ok (.istore_n 1, 1) := by decide +kernel
theorem dX10_worst_34 : decode cX10_worst 34 = .ok (.iinc 2 1, 3) := by decide +kernel
theorem dX10_worst_37 : decode cX10_worst 37 = .ok (.goto (-33), 3) := by decide +kernel
theorem dX10_worst_17 : decode cX10_worst 17 = .ok (.aload_n 0, 1) := by decide +kernel
theorem dX10_worst_18 : decode cX10_worst 18 = .ok (.iconst 0, 1) := by decide +kernel
theorem dX10_worst_19 : decode cX10_worst 19 = .ok (.iload_n 2, 1) := by decide +kernel
theorem dX10_worst_20 : decode cX10_worst 20 = .ok (.invokevirtual 238, 3) := by decide +kernel
theorem dX10_worst_23 : decode cX10_worst 23 = .ok (.aload_n 0, 1) := by decide +kernel
theorem dX10_worst_24 : decode cX10_worst 24 = .ok (.iconst 0, 1) := by decide +kernel
theorem dX10_worst_25 : decode cX10_worst 25 = .ok (.iload_n 1, 1) := by decide +kernel
theorem dX10_worst_26 : decode cX10_worst 26 = .ok (.invokevirtual 238, 3) := by decide +kernel
theorem dX10_worst_29 : decode cX10_worst 29 = .ok (.if_icmp .ge 5, 3) := by decide +kernel
theorem dX10_worst_0 : decode cX10_worst 0 = .ok (.iconst (-1), 1) := by decide +kernel
theorem dX10_worst_1 : decode cX10_worst 1 = .ok (.istore_n 1, 1) := by decide +kernel
theorem dX10_worst_2 : decode cX10_worst 2 = .ok (.iconst 0, 1) := by decide +kernel
theorem dX10_worst_3 : decode cX10_worst 3 = .ok (.istore_n 2, 1) := by decide +kernel
theorem dX10_fault_0 : decode cX10_fault 0 = .ok (.aload_n 0, 1) := by decide +kernel
theorem dX10_fault_1 : decode cX10_fault 1 = .ok (.iconst 0, 1) := by decide +kernel
theorem dX10_fault_2 : decode cX10_fault 2 = .ok (.putfield 110, 3) := by decide +kernel
theorem dX10_fault_5 : decode cX10_fault 5 = .ok (.aload_n 0, 1) := by decide +kernel
theorem dX10_fault_6 : decode cX10_fault 6 = .ok (.getfield 49, 3) := by decide +kernel
theorem dX10_fault_9 : decode cX10_fault 9 = .ok (.ireturn, 1) := by decide +kernel
theorem dX10_count_0 : decode cX10_count 0 = .ok (.aload_n 0, 1) := by decide +kernel
theorem dX10_count_1 : decode cX10_count 1 = .ok (.iconst 0, 1) := by decide +kernel
theorem dX10_count_2 : decode cX10_count 2 = .ok (.putfield 110, 3) := by decide +kernel
theorem dX10_count_5 : decode cX10_count 5 = .ok (.aload_n 0, 1) := by decide +kernel
theorem dX10_count_6 : decode cX10_count 6 = .ok (.iload_n 1, 1) := by decide +kernel
theorem dX10_count_7 : decode cX10_count 7 = .ok (.iconst 0, 1) := by decide +kernel
theorem dX10_count_8 : decode cX10_count 8 = .ok (.bipush 17, 2) := by decide +kernel
theorem dX10_count_10 : decode cX10_count 10 = .ok (.invokestatic 281, 3) := by decide +kernel
theorem dX10_count_13 : decode cX10_count 13 = .ok (.iconst 1, 1) := by decide +kernel
theorem dX10_count_14 : decode cX10_count 14 = .ok (.invokevirtual 324, 3) := by decide +kernel
theorem dX10_count_17 : decode cX10_count 17 = .ok (.ifCond .ne 5, 3) := by decide +kernel
theorem dX10_count_22 : decode cX10_count 22 = .ok (.iload_n 1, 1) := by decide +kernel
theorem dX10_count_23 : decode cX10_count 23 = .ok (.tableswitch 160 0 14 #[73, 78, 83, 90, 95, 102, 107, 114, 121, 128, 133, 138, 145, 150, 155], 73) := by decide +kernel
theorem dX10_count_183 : decode cX10_count 183 = .ok (.aload_n 0, 1) := by decide +kernel
theorem dX10_count_184 : decode cX10_count 184 = .ok (.getfield 40, 3) := by decide +kernel
theorem dX10_count_187 : decode cX10_count 187 = .ok (.iload_n 1, 1) := by decide +kernel
theorem dX10_count_188 : decode cX10_count 188 = .ok (.bipush 15, 2) := by decide +kernel
theorem dX10_count_190 : decode cX10_count 190 = .ok (.isub, 1) := by decide +kernel
theorem dX10_count_191 : decode cX10_count 191 = .ok (.iaload, 1) := by decide +kernel
theorem dX10_count_192 : decode cX10_count 192 = .ok (.ireturn, 1) := by decide +kernel
theorem dX10_count_96 : decode cX10_count 96 = .ok (.aload_n 0, 1) := by decide +kernel
theorem dX10_count_97 : decode cX10_count 97 = .ok (.getfield 198, 3) := by decide +kernel
theorem dX10_count_100 : decode cX10_count 100 = .ok (.ireturn, 1) := by decide +kernel
theorem dX10_count_101 : decode cX10_count 101 = .ok (.aload_n 0, 1) := by decide +kernel
theorem dX10_count_102 : decode cX10_count 102 = .ok (.getfield 153, 3) := by decide +kernel
theorem dX10_count_105 : decode cX10_count 105 = .ok (.ireturn, 1) := by decide +kernel
theorem dX10_count_106 : decode cX10_count 106 = .ok (.aload_n 0, 1) := by decide +kernel
theorem dX10_count_107 : decode cX10_count 107 = .ok (.getfield 9, 3) := by decide +kernel
theorem dX10_count_110 : decode cX10_count 110 = .ok (.iconst 0, 1) := by decide +kernel
theorem dX10_count_111 : decode cX10_count 111 = .ok (.iaload, 1) := by decide +kernel
theorem dX10_count_112 : decode cX10_count 112 = .ok (.ireturn, 1) := by decide +kernel
theorem dX10_count_113 : decode cX10_count 113 = .ok (.aload_n 0, 1) := by decide +kernel
theorem dX10_count_114 : decode cX10_count 114 = .ok (.invokevirtual 348, 3) := by decide +kernel
theorem dX10_count_117 : decode cX10_count 117 = .ok (.ireturn, 1) := by decide +kernel
theorem dX10_count_118 : decode cX10_count 118 = .ok (.aload_n 0, 1) := by decide +kernel
theorem dX10_count_119 : decode cX10_count 119 = .ok (.getfield 9, 3) := by decide +kernel
theorem dX10_count_122 : decode cX10_count 122 = .ok (.iconst 1, 1) := by decide +kernel
theorem dX10_count_123 : decode cX10_count 123 = .ok (.iaload, 1) := by decide +kernel
theorem dX10_count_124 : decode cX10_count 124 = .ok (.ireturn, 1) := by decide +kernel
theorem dX10_count_125 : decode cX10_count 125 = .ok (.aload_n 0, 1) := by decide +kernel
theorem dX10_count_126 : decode cX10_count 126 = .ok (.invokevirtual 351, 3) := by decide +kernel
theorem dX10_count_129 : decode cX10_count 129 = .ok (.ireturn, 1) := by decide +kernel
theorem dX10_count_130 : decode cX10_count 130 = .ok (.aload_n 0, 1) := by decide +kernel
theorem dX10_count_131 : decode cX10_count 131 = .ok (.getfield 9, 3) := by decide +kernel
theorem dX10_count_134 : decode cX10_count 134 = .ok (.iconst 2, 1) := by decide +kernel
theorem dX10_count_135 : decode cX10_count 135 = .ok (.iaload, 1) := by decide +kernel
theorem dX10_count_136 : decode cX10_count 136 = .ok (.ireturn, 1) := by decide +kernel
theorem dX10_count_137 : decode cX10_count 137 = .ok (.aload_n 0, 1) := by decide +kernel
theorem dX10_count_138 : decode cX10_count 138 = .ok (.getfield 9, 3) := by decide +kernel
theorem dX10_count_141 : decode cX10_count 141 = .ok (.iconst 3, 1) := by decide +kernel
theorem dX10_count_142 : decode cX10_count 142 = .ok (.iaload, 1) := by decide +kernel
theorem dX10_count_143 : decode cX10_count 143 = .ok (.ireturn, 1) := by decide +kernel
theorem dX10_count_144 : decode cX10_count 144 = .ok (.aload_n 0, 1) := by decide +kernel
theorem dX10_count_145 : decode cX10_count 145 = .ok (.getfield 9, 3) := by decide +kernel
theorem dX10_count_148 : decode cX10_count 148 = .ok (.iconst 4, 1) := by decide +kernel
theorem dX10_count_149 : decode cX10_count 149 = .ok (.iaload, 1) := by decide +kernel
theorem dX10_count_150 : decode cX10_count 150 = .ok (.ireturn, 1) := by decide +kernel
theorem dX10_count_151 : decode cX10_count 151 = .ok (.aload_n 0, 1) := by decide +kernel
theorem dX10_count_152 : decode cX10_count 152 = .ok (.invokevirtual 354, 3) := by decide +kernel
theorem dX10_count_155 : decode cX10_count 155 = .ok (.ireturn, 1) := by decide +kernel
theorem dX10_count_156 : decode cX10_count 156 = .ok (.aload_n 0, 1) := by decide +kernel
theorem dX10_count_157 : decode cX10_count 157 = .ok (.invokevirtual 357, 3) := by decide +kernel
theorem dX10_count_160 : decode cX10_count 160 = .ok (.ireturn, 1) := by decide +kernel
theorem dX10_count_161 : decode cX10_count 161 = .ok (.aload_n 0, 1) := by decide +kernel
theorem dX10_count_162 : decode cX10_count 162 = .ok (.getfield 9, 3) := by decide +kernel
theorem dX10_count_165 : decode cX10_count 165 = .ok (.iconst 5, 1) := by decide +kernel
theorem dX10_count_166 : decode cX10_count 166 = .ok (.iaload, 1) := by decide +kernel
theorem dX10_count_167 : decode cX10_count 167 = .ok (.ireturn, 1) := by decide +kernel
theorem dX10_count_168 : decode cX10_count 168 = .ok (.aload_n 0, 1) := by decide +kernel
theorem dX10_count_169 : decode cX10_count 169 = .ok (.getfield 342, 3) := by decide +kernel
theorem dX10_count_172 : decode cX10_count 172 = .ok (.ireturn, 1) := by decide +kernel
theorem dX10_count_173 : decode cX10_count 173 = .ok (.aload_n 0, 1) := by decide +kernel
theorem dX10_count_174 : decode cX10_count 174 = .ok (.getfield 336, 3) := by decide +kernel
theorem dX10_count_177 : decode cX10_count 177 = .ok (.ireturn, 1) := by decide +kernel
theorem dX10_count_178 : decode cX10_count 178 = .ok (.aload_n 0, 1) := by decide +kernel
theorem dX10_count_179 : decode cX10_count 179 = .ok (.getfield 321, 3) := by decide +kernel
theorem dX10_count_182 : decode cX10_count 182 = .ok (.ireturn, 1) := by decide +kernel
theorem dX10_count_20 : decode cX10_count 20 = .ok (.iconst 0, 1) := by decide +kernel
theorem dX10_count_21 : decode cX10_count 21 = .ok (.ireturn, 1) := by decide +kernel
theorem dX10_forecast_0 : decode cX10_forecast 0 = .ok (.aload_n 0, 1) := by decide +kernel
theorem dX10_forecast_1 : decode cX10_forecast 1 = .ok (.iconst 0, 1) := by decide +kernel
theorem dX10_forecast_2 : decode cX10_forecast 2 = .ok (.putfield 110, 3) := by decide +kernel
theorem dX10_forecast_5 : decode cX10_forecast 5 = .ok (.aload_n 0, 1) := by decide +kernel
theorem dX10_forecast_6 : decode cX10_forecast 6 = .ok (.iload_n 1, 1) := by decide +kernel
theorem dX10_forecast_7 : decode cX10_forecast 7 = .ok (.iconst 0, 1) := by decide +kernel
theorem dX10_forecast_8 : decode cX10_forecast 8 = .ok (.aload_n 0, 1) := by decide +kernel
theorem dX10_forecast_9 : decode cX10_forecast 9 = .ok (.getfield 153, 3) := by decide +kernel
theorem dX10_forecast_12 : decode cX10_forecast 12 = .ok (.iconst 1, 1) := by decide +kernel
theorem dX10_forecast_13 : decode cX10_forecast 13 = .ok (.isub, 1) := by decide +kernel
theorem dX10_forecast_14 : decode cX10_forecast 14 = .ok (.invokestatic 281, 3) := by decide +kernel
theorem dX10_forecast_17 : decode cX10_forecast 17 = .ok (.ifCond .eq 16, 3) := by decide +kernel
theorem dX10_forecast_20 : decode cX10_forecast 20 = .ok (.iload_n 2, 1) := by decide +kernel
theorem dX10_forecast_21 : decode cX10_forecast 21 = .ok (.iconst 0, 1) := by decide +kernel
theorem dX10_forecast_22 : decode cX10_forecast 22 = .ok (.iconst 2, 1) := by decide +kernel
theorem dX10_forecast_23 : decode cX10_forecast 23 = .ok (.invokestatic 281, 3) := by decide +kernel
theorem dX10_forecast_26 : decode cX10_forecast 26 = .ok (.ifCond .eq 7, 3) := by decide +kernel
theorem dX10_forecast_29 : decode cX10_forecast 29 = .ok (.iconst 1, 1) := by decide +kernel
theorem dX10_forecast_30 : decode cX10_forecast 30 = .ok (.goto 4, 3) := by decide +kernel
theorem dX10_forecast_34 : decode cX10_forecast 34 = .ok (.iconst 1, 1) := by decide +kernel
theorem dX10_forecast_35 : decode cX10_forecast 35 = .ok (.invokevirtual 324, 3) := by decide +kernel
theorem dX10_forecast_38 : decode cX10_forecast 38 = .ok (.ifCond .ne 5, 3) := by decide +kernel
theorem dX10_forecast_43 : decode cX10_forecast 43 = .ok (.iload_n 2, 1) := by decide +kernel
theorem dX10_forecast_44 : decode cX10_forecast 44 = .ok (.ifCond .ne 12, 3) := by decide +kernel
theorem dX10_forecast_56 : decode cX10_forecast 56 = .ok (.iload_n 2, 1) := by decide +kernel
theorem dX10_forecast_57 : decode cX10_forecast 57 = .ok (.iconst 1, 1) := by decide +kernel
theorem dX10_forecast_58 : decode cX10_forecast 58 = .ok (.if_icmp .ne 12, 3) := by decide +kernel
theorem dX10_forecast_70 : decode cX10_forecast 70 = .ok (.aload_n 0, 1) := by decide +kernel
theorem dX10_forecast_71 : decode cX10_forecast 71 = .ok (.getfield 25, 3) := by decide +kernel
theorem dX10_forecast_74 : decode cX10_forecast 74 = .ok (.iload_n 1, 1) := by decide +kernel
theorem dX10_forecast_75 : decode cX10_forecast 75 = .ok (.iaload, 1) := by decide +kernel
theorem dX10_forecast_76 : decode cX10_forecast 76 = .ok (.ireturn, 1) := by decide +kernel
theorem dX10_forecast_61 : decode cX10_forecast 61 = .ok (.aload_n 0, 1) := by decide +kernel
theorem dX10_forecast_62 : decode cX10_forecast 62 = .ok (.getfield 22, 3) := by decide +kernel
theorem dX10_forecast_65 : decode cX10_forecast 65 = .ok (.iload_n 1, 1) := by decide +kernel
theorem dX10_forecast_66 : decode cX10_forecast 66 = .ok (.iaload, 1) := by decide +kernel
theorem dX10_forecast_67 : decode cX10_forecast 67 = .ok (.goto 9, 3) := by decide +kernel
theorem dX10_forecast_47 : decode cX10_forecast 47 = .ok (.aload_n 0, 1) := by decide +kernel
theorem dX10_forecast_48 : decode cX10_forecast 48 = .ok (.getfield 19, 3) := by decide +kernel
theorem dX10_forecast_51 : decode cX10_forecast 51 = .ok (.iload_n 1, 1) := by decide +kernel
theorem dX10_forecast_52 : decode cX10_forecast 52 = .ok (.iaload, 1) := by decide +kernel
theorem dX10_forecast_53 : decode cX10_forecast 53 = .ok (.goto 23, 3) := by decide +kernel
theorem dX10_forecast_41 : decode cX10_forecast 41 = .ok (.iconst 0, 1) := by decide +kernel
theorem dX10_forecast_42 : decode cX10_forecast 42 = .ok (.ireturn, 1) := by decide +kernel
theorem dX10_forecast_33 : decode cX10_forecast 33 = .ok (.iconst 0, 1) := by decide +kernel
theorem dX10_slope_0 : decode cX10_slope 0 = .ok (.aload_n 0, 1) := by decide +kernel
theorem dX10_slope_1 : decode cX10_slope 1 = .ok (.iconst 0, 1) := by decide +kernel
theorem dX10_slope_2 : decode cX10_slope 2 = .ok (.putfield 110, 3) := by decide +kernel
theorem dX10_slope_5 : decode cX10_slope 5 = .ok (.aload_n 0, 1) := by decide +kernel
theorem dX10_slope_6 : decode cX10_slope 6 = .ok (.iload_n 1, 1) := by decide +kernel
theorem dX10_slope_7 : decode cX10_slope 7 = .ok (.invokevirtual 360, 3) := by decide +kernel
theorem dX10_slope_10 : decode cX10_slope 10 = .ok (.ifCond .eq 18, 3) := by decide +kernel
theorem dX10_slope_13 : decode cX10_slope 13 = .ok (.aload_n 0, 1) := by decide +kernel
theorem dX10_slope_14 : decode cX10_slope 14 = .ok (.iload_n 2, 1) := by decide +kernel
theorem dX10_slope_15 : decode cX10_slope 15 = .ok (.iconst 0, 1) := by decide +kernel
theorem dX10_slope_16 : decode cX10_slope 16 = .ok (.bipush 9, 2) := by decide +kernel
theorem dX10_slope_18 : decode cX10_slope 18 = .ok (.invokestatic 281, 3) := by decide +kernel
theorem dX10_slope_21 : decode cX10_slope 21 = .ok (.iconst 1, 1) := by decide +kernel
theorem dX10_slope_22 : decode cX10_slope 22 = .ok (.invokevirtual 324, 3) := by decide +kernel
theorem dX10_slope_25 : decode cX10_slope 25 = .ok (.ifCond .ne 5, 3) := by decide +kernel
theorem dX10_slope_30 : decode cX10_slope 30 = .ok (.iload_n 2, 1) := by decide +kernel
theorem dX10_slope_31 : decode cX10_slope 31 = .ok (.tableswitch 123 0 8 #[49, 56, 63, 70, 78, 86, 94, 109, 116], 49) := by decide +kernel
theorem dX10_slope_154 : decode cX10_slope 154 = .ok (.aload_n 0, 1) := by decide +kernel
theorem dX10_slope_155 : decode cX10_slope 155 = .ok (.iconst 0, 1) := by decide +kernel
theorem dX10_slope_156 : decode cX10_slope 156 = .ok (.iload_n 1, 1) := by decide +kernel
theorem dX10_slope_157 : decode cX10_slope 157 = .ok (.invokevirtual 366, 3) := by decide +kernel
theorem dX10_slope_160 : decode cX10_slope 160 = .ok (.ifCond .eq 7, 3) := by decide +kernel
theorem dX10_slope_167 : decode cX10_slope 167 = .ok (.iconst 0, 1) := by decide +kernel
theorem dX10_slope_168 : decode cX10_slope 168 = .ok (.ireturn, 1) := by decide +kernel
theorem dX10_slope_163 : decode cX10_slope 163 = .ok (.iconst 1, 1) := by decide +kernel
theorem dX10_slope_164 : decode cX10_slope 164 = .ok (.goto 4, 3) := by decide +kernel
theorem dX10_slope_80 : decode cX10_slope 80 = .ok (.aload_n 0, 1) := by decide +kernel
theorem dX10_slope_81 : decode cX10_slope 81 = .ok (.getfield 13, 3) := by decide +kernel
theorem dX10_slope_84 : decode cX10_slope 84 = .ok (.iload_n 1, 1) := by decide +kernel
theorem dX10_slope_85 : decode cX10_slope 85 = .ok (.iaload, 1) := by decide +kernel
theorem dX10_slope_86 : decode cX10_slope 86 = .ok (.ireturn, 1) := by decide +kernel
theorem dX10_slope_87 : decode cX10_slope 87 = .ok (.aload_n 0, 1) := by decide +kernel
theorem dX10_slope_88 : decode cX10_slope 88 = .ok (.getfield 16, 3) := by decide +kernel
theorem dX10_slope_91 : decode cX10_slope 91 = .ok (.iload_n 1, 1) := by decide +kernel
theorem dX10_slope_92 : decode cX10_slope 92 = .ok (.iaload, 1) := by decide +kernel
theorem dX10_slope_93 : decode cX10_slope 93 = .ok (.ireturn, 1) := by decide +kernel
theorem dX10_slope_94 : decode cX10_slope 94 = .ok (.aload_n 0, 1) := by decide +kernel
theorem dX10_slope_95 : decode cX10_slope 95 = .ok (.iconst 0, 1) := by decide +kernel
theorem dX10_slope_96 : decode cX10_slope 96 = .ok (.iload_n 1, 1) := by decide +kernel
theorem dX10_slope_97 : decode cX10_slope 97 = .ok (.invokevirtual 121, 3) := by decide +kernel
theorem dX10_slope_100 : decode cX10_slope 100 = .ok (.ireturn, 1) := by decide +kernel
theorem dX10_slope_101 : decode cX10_slope 101 = .ok (.aload_n 0, 1) := by decide +kernel
theorem dX10_slope_102 : decode cX10_slope 102 = .ok (.iconst 0, 1) := by decide +kernel
theorem dX10_slope_103 : decode cX10_slope 103 = .ok (.iload_n 1, 1) := by decide +kernel
theorem dX10_slope_104 : decode cX10_slope 104 = .ok (.iconst 3, 1) := by decide +kernel
theorem dX10_slope_105 : decode cX10_slope 105 = .ok (.invokevirtual 345, 3) := by decide +kernel
theorem dX10_slope_108 : decode cX10_slope 108 = .ok (.ireturn, 1) := by decide +kernel
theorem dX10_slope_109 : decode cX10_slope 109 = .ok (.aload_n 0, 1) := by decide +kernel
theorem dX10_slope_110 : decode cX10_slope 110 = .ok (.iconst 0, 1) := by decide +kernel
theorem dX10_slope_111 : decode cX10_slope 111 = .ok (.iload_n 1, 1) := by decide +kernel
theorem dX10_slope_112 : decode cX10_slope 112 = .ok (.iconst 1, 1) := by decide +kernel
theorem dX10_slope_113 : decode cX10_slope 113 = .ok (.invokevirtual 345, 3) := by decide +kernel
theorem dX10_slope_116 : decode cX10_slope 116 = .ok (.ireturn, 1) := by decide +kernel
theorem dX10_slope_117 : decode cX10_slope 117 = .ok (.aload_n 0, 1) := by decide +kernel
theorem dX10_slope_118 : decode cX10_slope 118 = .ok (.iconst 0, 1) := by decide +kernel
theorem dX10_slope_119 : decode cX10_slope 119 = .ok (.iload_n 1, 1) := by decide +kernel
theorem dX10_slope_120 : decode cX10_slope 120 = .ok (.iconst 2, 1) := by decide +kernel
theorem dX10_slope_121 : decode cX10_slope 121 = .ok (.invokevirtual 345, 3) := by decide +kernel
theorem dX10_slope_124 : decode cX10_slope 124 = .ok (.ireturn, 1) := by decide +kernel
theorem dX10_slope_125 : decode cX10_slope 125 = .ok (.aload_n 0, 1) := by decide +kernel
theorem dX10_slope_126 : decode cX10_slope 126 = .ok (.getfield 9, 3) := by decide +kernel
theorem dX10_slope_129 : decode cX10_slope 129 = .ok (.bipush 6, 2) := by decide +kernel
theorem dX10_slope_131 : decode cX10_slope 131 = .ok (.bipush 86, 2) := by decide +kernel
theorem dX10_slope_133 : decode cX10_slope 133 = .ok (.iload_n 1, 1) := by decide +kernel
theorem dX10_slope_134 : decode cX10_slope 134 = .ok (.imul, 1) := by decide +kernel
theorem dX10_slope_135 : decode cX10_slope 135 = .ok (.iadd, 1) := by decide +kernel
theorem dX10_slope_136 : decode cX10_slope 136 = .ok (.iconst 1, 1) := by decide +kernel
theorem dX10_slope_137 : decode cX10_slope 137 = .ok (.iadd, 1) := by decide +kernel
theorem dX10_slope_138 : decode cX10_slope 138 = .ok (.iaload, 1) := by decide +kernel
theorem dX10_slope_139 : decode cX10_slope 139 = .ok (.ireturn, 1) := by decide +kernel
theorem dX10_slope_140 : decode cX10_slope 140 = .ok (.aload_n 0, 1) := by decide +kernel
theorem dX10_slope_141 : decode cX10_slope 141 = .ok (.iconst 0, 1) := by decide +kernel
theorem dX10_slope_142 : decode cX10_slope 142 = .ok (.iload_n 1, 1) := by decide +kernel
theorem dX10_slope_143 : decode cX10_slope 143 = .ok (.invokevirtual 363, 3) := by decide +kernel
theorem dX10_slope_146 : decode cX10_slope 146 = .ok (.ireturn, 1) := by decide +kernel
theorem dX10_slope_147 : decode cX10_slope 147 = .ok (.aload_n 0, 1) := by decide +kernel
theorem dX10_slope_148 : decode cX10_slope 148 = .ok (.iconst 0, 1) := by decide +kernel
theorem dX10_slope_149 : decode cX10_slope 149 = .ok (.iload_n 1, 1) := by decide +kernel
theorem dX10_slope_150 : decode cX10_slope 150 = .ok (.invokevirtual 238, 3) := by decide +kernel
theorem dX10_slope_153 : decode cX10_slope 153 = .ok (.ireturn, 1) := by decide +kernel
theorem dX10_slope_28 : decode cX10_slope 28 = .ok (.iconst 0, 1) := by decide +kernel
theorem dX10_slope_29 : decode cX10_slope 29 = .ok (.ireturn, 1) := by decide +kernel
theorem dX10_layer_0 : decode cX10_layer 0 = .ok (.aload_n 0, 1) := by decide +kernel
theorem dX10_layer_1 : decode cX10_layer 1 = .ok (.iconst 0, 1) := by decide +kernel
theorem dX10_layer_2 : decode cX10_layer 2 = .ok (.putfield 110, 3) := by decide +kernel
theorem dX10_layer_5 : decode cX10_layer 5 = .ok (.aload_n 0, 1) := by decide +kernel
theorem dX10_layer_6 : decode cX10_layer 6 = .ok (.iload_n 1, 1) := by decide +kernel
theorem dX10_layer_7 : decode cX10_layer 7 = .ok (.iload_n 2, 1) := by decide +kernel
theorem dX10_layer_8 : decode cX10_layer 8 = .ok (.invokevirtual 370, 3) := by decide +kernel
theorem dX10_layer_11 : decode cX10_layer 11 = .ok (.ifCond .eq 18, 3) := by decide +kernel
theorem dX10_layer_14 : decode cX10_layer 14 = .ok (.aload_n 0, 1) := by decide +kernel
theorem dX10_layer_15 : decode cX10_layer 15 = .ok (.iload_n 3, 1) := by decide +kernel
theorem dX10_layer_16 : decode cX10_layer 16 = .ok (.iconst 0, 1) := by decide +kernel
theorem dX10_layer_17 : decode cX10_layer 17 = .ok (.bipush 11, 2) := by decide +kernel
theorem dX10_layer_19 : decode cX10_layer 19 = .ok (.invokestatic 281, 3) := by decide +kernel
theorem dX10_layer_22 : decode cX10_layer 22 = .ok (.iconst 1, 1) := by decide +kernel
theorem dX10_layer_23 : decode cX10_layer 23 = .ok (.invokevirtual 324, 3) := by decide +kernel
theorem dX10_layer_26 : decode cX10_layer 26 = .ok (.ifCond .ne 5, 3) := by decide +kernel
theorem dX10_layer_31 : decode cX10_layer 31 = .ok (.iload_n 3, 1) := by decide +kernel
theorem dX10_layer_32 : decode cX10_layer 32 = .ok (.tableswitch 95 7 11 #[36, 44, 57, 65, 80], 36) := by decide +kernel
theorem dX10_layer_127 : decode cX10_layer 127 = .ok (.aload_n 0, 1) := by decide +kernel
theorem dX10_layer_128 : decode cX10_layer 128 = .ok (.iconst 0, 1) := by decide +kernel
theorem dX10_layer_129 : decode cX10_layer 129 = .ok (.iload_n 1, 1) := by decide +kernel
theorem dX10_layer_130 : decode cX10_layer 130 = .ok (.iload_n 2, 1) := by decide +kernel
theorem dX10_layer_131 : decode cX10_layer 131 = .ok (.iload_n 3, 1) := by decide +kernel
theorem dX10_layer_132 : decode cX10_layer 132 = .ok (.invokevirtual 117, 3) := by decide +kernel
theorem dX10_layer_135 : decode cX10_layer 135 = .ok (.ireturn, 1) := by decide +kernel
theorem dX10_layer_68 : decode cX10_layer 68 = .ok (.aload_n 0, 1) := by decide +kernel
theorem dX10_layer_69 : decode cX10_layer 69 = .ok (.iconst 0, 1) := by decide +kernel
theorem dX10_layer_70 : decode cX10_layer 70 = .ok (.iload_n 1, 1) := by decide +kernel
theorem dX10_layer_71 : decode cX10_layer 71 = .ok (.iload_n 2, 1) := by decide +kernel
theorem dX10_layer_72 : decode cX10_layer 72 = .ok (.invokevirtual 183, 3) := by decide +kernel
theorem dX10_layer_75 : decode cX10_layer 75 = .ok (.ireturn, 1) := by decide +kernel
theorem dX10_layer_76 : decode cX10_layer 76 = .ok (.aload_n 0, 1) := by decide +kernel
theorem dX10_layer_77 : decode cX10_layer 77 = .ok (.iconst 0, 1) := by decide +kernel
theorem dX10_layer_78 : decode cX10_layer 78 = .ok (.iload_n 1, 1) := by decide +kernel
theorem dX10_layer_79 : decode cX10_layer 79 = .ok (.iload_n 2, 1) := by decide +kernel
theorem dX10_layer_80 : decode cX10_layer 80 = .ok (.aload_n 0, 1) := by decide +kernel
theorem dX10_layer_81 : decode cX10_layer 81 = .ok (.iconst 0, 1) := by decide +kernel
theorem dX10_layer_82 : decode cX10_layer 82 = .ok (.invokevirtual 195, 3) := by decide +kernel
theorem dX10_layer_85 : decode cX10_layer 85 = .ok (.invokevirtual 189, 3) := by decide +kernel
theorem dX10_layer_88 : decode cX10_layer 88 = .ok (.ireturn, 1) := by decide +kernel
theorem dX10_layer_89 : decode cX10_layer 89 = .ok (.aload_n 0, 1) := by decide +kernel
theorem dX10_layer_90 : decode cX10_layer 90 = .ok (.iconst 0, 1) := by decide +kernel
theorem dX10_layer_91 : decode cX10_layer 91 = .ok (.iload_n 1, 1) := by decide +kernel
theorem dX10_layer_92 : decode cX10_layer 92 = .ok (.iload_n 2, 1) := by decide +kernel
theorem dX10_layer_93 : decode cX10_layer 93 = .ok (.invokevirtual 226, 3) := by decide +kernel
theorem dX10_layer_96 : decode cX10_layer 96 = .ok (.ireturn, 1) := by decide +kernel
theorem dX10_layer_97 : decode cX10_layer 97 = .ok (.aload_n 0, 1) := by decide +kernel
theorem dX10_layer_98 : decode cX10_layer 98 = .ok (.iconst 0, 1) := by decide +kernel
theorem dX10_layer_99 : decode cX10_layer 99 = .ok (.iload_n 1, 1) := by decide +kernel
theorem dX10_layer_100 : decode cX10_layer 100 = .ok (.iload_n 2, 1) := by decide +kernel
theorem dX10_layer_101 : decode cX10_layer 101 = .ok (.iconst 0, 1) := by decide +kernel
theorem dX10_layer_102 : decode cX10_layer 102 = .ok (.aload_n 0, 1) := by decide +kernel
theorem dX10_layer_103 : decode cX10_layer 103 = .ok (.getfield 13, 3) := by decide +kernel
theorem dX10_layer_106 : decode cX10_layer 106 = .ok (.iload_n 1, 1) := by decide +kernel
theorem dX10_layer_107 : decode cX10_layer 107 = .ok (.iaload, 1) := by decide +kernel
theorem dX10_layer_108 : decode cX10_layer 108 = .ok (.invokevirtual 222, 3) := by decide +kernel
theorem dX10_layer_111 : decode cX10_layer 111 = .ok (.ireturn, 1) := by decide +kernel
theorem dX10_layer_112 : decode cX10_layer 112 = .ok (.aload_n 0, 1) := by decide +kernel
theorem dX10_layer_113 : decode cX10_layer 113 = .ok (.iconst 0, 1) := by decide +kernel
theorem dX10_layer_114 : decode cX10_layer 114 = .ok (.iload_n 1, 1) := by decide +kernel
theorem dX10_layer_115 : decode cX10_layer 115 = .ok (.iload_n 2, 1) := by decide +kernel
theorem dX10_layer_116 : decode cX10_layer 116 = .ok (.iconst 0, 1) := by decide +kernel
theorem dX10_layer_117 : decode cX10_layer 117 = .ok (.aload_n 0, 1) := by decide +kernel
theorem dX10_layer_118 : decode cX10_layer 118 = .ok (.getfield 13, 3) := by decide +kernel
theorem dX10_layer_121 : decode cX10_layer 121 = .ok (.iload_n 1, 1) := by decide +kernel
theorem dX10_layer_122 : decode cX10_layer 122 = .ok (.iaload, 1) := by decide +kernel
theorem dX10_layer_123 : decode cX10_layer 123 = .ok (.invokevirtual 229, 3) := by decide +kernel
theorem dX10_layer_126 : decode cX10_layer 126 = .ok (.ireturn, 1) := by decide +kernel
theorem dX10_layer_29 : decode cX10_layer 29 = .ok (.iconst 0, 1) := by decide +kernel
theorem dX10_layer_30 : decode cX10_layer 30 = .ok (.ireturn, 1) := by decide +kernel
