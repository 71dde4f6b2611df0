-- decode rows of ask
theorem dX9_worst_0 : decode cX9_worst 0 = .ok (.iconst (-1), 1) := by decide +kernel
theorem dX9_worst_1 : decode cX9_worst 1 = .ok (.istore_n 1, 1) := by decide +kernel
theorem dX9_worst_2 : decode cX9_worst 2 = .ok (.iconst 0, 1) := by decide +kernel
theorem dX9_worst_3 : decode cX9_worst 3 = .ok (.istore_n 2, 1) := by decide +kernel
theorem dX9_worst_4 : decode cX9_worst 4 = .ok (.iconst 0, 1) := by decide +kernel
theorem dX9_worst_5 : decode cX9_worst 5 = .ok (.istore_n 3, 1) := by decide +kernel
theorem dX9_worst_6 : decode cX9_worst 6 = .ok (.iload_n 3, 1) := by decide +kernel
theorem dX9_worst_7 : decode cX9_worst 7 = .ok (.aload_n 0, 1) := by decide +kernel
theorem dX9_worst_8 : decode cX9_worst 8 = .ok (.getfield 30, 3) := by decide +kernel
theorem dX9_worst_11 : decode cX9_worst 11 = .ok (.getfield 115, 3) := by decide +kernel
theorem dX9_worst_14 : decode cX9_worst 14 = .ok (.if_icmp .ge 55, 3) := by decide +kernel
theorem dX9_worst_69 : decode cX9_worst 69 = .ok (.iload_n 1, 1) := by decide +kernel
theorem dX9_worst_70 : decode cX9_worst 70 = .ok (.ireturn, 1) := by decide +kernel
theorem dX9_worst_17 : decode cX9_worst 17 = .ok (.aload_n 0, 1) := by decide +kernel
theorem dX9_worst_18 : decode cX9_worst 18 = .ok (.getfield 37, 3) := by decide +kernel
theorem dX9_worst_21 : decode cX9_worst 21 = .ok (.getfield 112, 3) := by decide +kernel
theorem dX9_worst_24 : decode cX9_worst 24 = .ok (.getfield 280, 3) := by decide +kernel
theorem dX9_worst_27 : decode cX9_worst 27 = .ok (.iload_n 3, 1) := by decide +kernel
theorem dX9_worst_28 : decode cX9_worst 28 = .ok (.aaload, 1) := by decide +kernel
theorem dX9_worst_29 : decode cX9_worst 29 = .ok (.aload_n 0, 1) := by decide +kernel
theorem dX9_worst_30 : decode cX9_worst 30 = .ok (.getfield 30, 3) := by decide +kernel
theorem dX9_worst_33 : decode cX9_worst 33 = .ok (.getfield 187, 3) := by decide +kernel
theorem dX9_worst_36 : decode cX9_worst 36 = .ok (.iload_n 3, 1) := by decide +kernel
theorem dX9_worst_37 : decode cX9_worst 37 = .ok (.iaload, 1) := by decide +kernel
theorem dX9_worst_38 : decode cX9_worst 38 = .ok (.aload_n 0, 1) := by decide +kernel
theorem dX9_worst_39 : decode cX9_worst 39 = .ok (.getfield 30, 3) := by decide +kernel
theorem dX9_worst_42 : decode cX9_worst 42 = .ok (.invokevirtual 203, 3) := by decide +kernel
theorem dX9_worst_45 : decode cX9_worst 45 = .ok (.istore 4, 2) := by decide +kernel
theorem dX9_worst_47 : decode cX9_worst 47 = .ok (.iload_n 1, 1) := by decide +kernel
theorem dX9_worst_48 : decode cX9_worst 48 = .ok (.iconst (-1), 1) := by decide +kernel
theorem dX9_worst_49 : decode cX9_worst 49 = .ok (.if_icmp .eq 9, 3) := by decide +kernel
theorem dX9_worst_58 : decode cX9_worst 58 = .ok (.iload_n 3, 1) := by decide +kernel
theorem dX9_worst_59 : decode cX9_worst 59 = .ok (.istore_n 1, 1) := by decide +kernel
theorem dX9_worst_60 : decode cX9_worst 60 = .ok (.iload 4, 2) := by decide +kernel
theorem dX9_worst_62 : decode cX9_worst 62 = .ok (.istore_n 2, 1) := by decide +kernel
theorem dX9_worst_63 : decode cX9_worst 63 = .ok (.iinc 3 1, 3) := by decide +kernel
theorem dX9_worst_66 : decode cX9_worst 66 = .ok (.goto (-60), 3) := by decide +kernel
theorem dX9_worst_52 : decode cX9_worst 52 = .ok (.iload 4, 2) := by decide +kernel
theorem dX9_worst_54 : decode cX9_worst 54 = .ok (.iload_n 2, 1) := by decide +kernel
theorem dX9_worst_55 : decode cX9_worst 55 = .ok (.if_icmp .ge 8, 3) := by decide +kernel
theorem dX9_comesByHand_0 : decode cX9_comesByHand 0 = .ok (.iload_n 1, 1) := by decide +kernel
theorem dX9_comesByHand_1 : decode cX9_comesByHand 1 = .ok (.iconst 3, 1) := by decide +kernel
theorem dX9_comesByHand_2 : decode cX9_comesByHand 2 = .ok (.if_icmp .ne 29, 3) := by decide +kernel
theorem dX9_comesByHand_31 : decode cX9_comesByHand 31 = .ok (.iload_n 1, 1) := by decide +kernel
theorem dX9_comesByHand_32 : decode cX9_comesByHand 32 = .ok (.iconst 1, 1) := by decide +kernel
theorem dX9_comesByHand_33 : decode cX9_comesByHand 33 = .ok (.if_icmp .eq 8, 3) := by decide +kernel
theorem dX9_comesByHand_41 : decode cX9_comesByHand 41 = .ok (.iload_n 2, 1) := by decide +kernel
theorem dX9_comesByHand_42 : decode cX9_comesByHand 42 = .ok (.iconst 1, 1) := by decide +kernel
theorem dX9_comesByHand_43 : decode cX9_comesByHand 43 = .ok (.if_icmp .lt 13, 3) := by decide +kernel
theorem dX9_comesByHand_56 : decode cX9_comesByHand 56 = .ok (.iconst 0, 1) := by decide +kernel
theorem dX9_comesByHand_57 : decode cX9_comesByHand 57 = .ok (.ireturn, 1) := by decide +kernel
theorem dX9_comesByHand_46 : decode cX9_comesByHand 46 = .ok (.iload_n 2, 1) := by decide +kernel
theorem dX9_comesByHand_47 : decode cX9_comesByHand 47 = .ok (.bipush 50, 2) := by decide +kernel
theorem dX9_comesByHand_49 : decode cX9_comesByHand 49 = .ok (.if_icmp .gt 7, 3) := by decide +kernel
theorem dX9_comesByHand_52 : decode cX9_comesByHand 52 = .ok (.iconst 1, 1) := by decide +kernel
theorem dX9_comesByHand_53 : decode cX9_comesByHand 53 = .ok (.goto 4, 3) := by decide +kernel
theorem dX9_comesByHand_36 : decode cX9_comesByHand 36 = .ok (.iload_n 1, 1) := by decide +kernel
theorem dX9_comesByHand_37 : decode cX9_comesByHand 37 = .ok (.iconst 2, 1) := by decide +kernel
theorem dX9_comesByHand_38 : decode cX9_comesByHand 38 = .ok (.if_icmp .ne 18, 3) := by decide +kernel
theorem dX9_comesByHand_5 : decode cX9_comesByHand 5 = .ok (.aload_n 0, 1) := by decide +kernel
theorem dX9_comesByHand_6 : decode cX9_comesByHand 6 = .ok (.getfield 30, 3) := by decide +kernel
theorem dX9_comesByHand_9 : decode cX9_comesByHand 9 = .ok (.aload_n 0, 1) := by decide +kernel
theorem dX9_comesByHand_10 : decode cX9_comesByHand 10 = .ok (.getfield 37, 3) := by decide +kernel
theorem dX9_comesByHand_13 : decode cX9_comesByHand 13 = .ok (.getfield 112, 3) := by decide +kernel
theorem dX9_comesByHand_16 : decode cX9_comesByHand 16 = .ok (.getfield 121, 3) := by decide +kernel
theorem dX9_comesByHand_19 : decode cX9_comesByHand 19 = .ok (.invokevirtual 225, 3) := by decide +kernel
theorem dX9_comesByHand_22 : decode cX9_comesByHand 22 = .ok (.ifCond .ge 7, 3) := by decide +kernel
theorem dX9_comesByHand_29 : decode cX9_comesByHand 29 = .ok (.iconst 0, 1) := by decide +kernel
theorem dX9_comesByHand_30 : decode cX9_comesByHand 30 = .ok (.ireturn, 1) := by decide +kernel
theorem dX9_comesByHand_25 : decode cX9_comesByHand 25 = .ok (.iconst 1, 1) := by decide +kernel
theorem dX9_comesByHand_26 : decode cX9_comesByHand 26 = .ok (.goto 4, 3) := by decide +kernel
theorem dX9_isUnstable_0 : decode cX9_isUnstable 0 = .ok (.aload_n 1, 1) := by decide +kernel
theorem dX9_isUnstable_1 : decode cX9_isUnstable 1 = .ok (.getfield 280, 3) := by decide +kernel
theorem dX9_isUnstable_4 : decode cX9_isUnstable 4 = .ok (.iload_n 2, 1) := by decide +kernel
theorem dX9_isUnstable_5 : decode cX9_isUnstable 5 = .ok (.aaload, 1) := by decide +kernel
theorem dX9_isUnstable_6 : decode cX9_isUnstable 6 = .ok (.aload_n 0, 1) := by decide +kernel
theorem dX9_isUnstable_7 : decode cX9_isUnstable 7 = .ok (.getfield 30, 3) := by decide +kernel
theorem dX9_isUnstable_10 : decode cX9_isUnstable 10 = .ok (.getfield 187, 3) := by decide +kernel
theorem dX9_isUnstable_13 : decode cX9_isUnstable 13 = .ok (.iload_n 2, 1) := by decide +kernel
theorem dX9_isUnstable_14 : decode cX9_isUnstable 14 = .ok (.iaload, 1) := by decide +kernel
theorem dX9_isUnstable_15 : decode cX9_isUnstable 15 = .ok (.iconst 0, 1) := by decide +kernel
theorem dX9_isUnstable_16 : decode cX9_isUnstable 16 = .ok (.aload_n 0, 1) := by decide +kernel
theorem dX9_isUnstable_17 : decode cX9_isUnstable 17 = .ok (.getfield 30, 3) := by decide +kernel
theorem dX9_isUnstable_20 : decode cX9_isUnstable 20 = .ok (.invokevirtual 206, 3) := by decide +kernel
theorem dX9_isUnstable_23 : decode cX9_isUnstable 23 = .ok (.iconst (-1), 1) := by decide +kernel
theorem dX9_isUnstable_24 : decode cX9_isUnstable 24 = .ok (.if_icmp .eq 7, 3) := by decide +kernel
theorem dX9_isUnstable_31 : decode cX9_isUnstable 31 = .ok (.iconst 0, 1) := by decide +kernel
theorem dX9_isUnstable_32 : decode cX9_isUnstable 32 = .ok (.ireturn, 1) := by decide +kernel
theorem dX9_isUnstable_27 : decode cX9_isUnstable 27 = .ok (.iconst 1, 1) := by decide +kernel
theorem dX9_isUnstable_28 : decode cX9_isUnstable 28 = .ok (.goto 4, 3) := by decide +kernel
theorem dX9_count_0 : decode cX9_count 0 = .ok (.aload_n 0, 1) := by decide +kernel
theorem dX9_count_1 : decode cX9_count 1 = .ok (.getfield 37, 3) := by decide +kernel
theorem dX9_count_4 : decode cX9_count 4 = .ok (.getfield 112, 3) := by decide +kernel
theorem dX9_count_7 : decode cX9_count 7 = .ok (.astore_n 2, 1) := by decide +kernel
theorem dX9_count_8 : decode cX9_count 8 = .ok (.iload_n 1, 1) := by decide +kernel
theorem dX9_count_9 : decode cX9_count 9 = .ok (.tableswitch 216 0 17 #[87, 95, 103, 108, 113, 118, 123, 128, 133, 138, 152, 157, 162, 170, 181, 186, 196, 206], 87) := by decide +kernel
theorem dX9_count_225 : decode cX9_count 225 = .ok (.new 165, 3) := by decide +kernel
theorem dX9_count_228 : decode cX9_count 228 = .ok (.dup, 1) := by decide +kernel
theorem dX9_count_229 : decode cX9_count 229 = .ok (.ldc 167, 2) := by decide +kernel
theorem dX9_count_231 : decode cX9_count 231 = .ok (.invokespecial 169, 3) := by decide +kernel
theorem dX9_count_234 : decode cX9_count 234 = .ok (.athrow, 1) := by decide +kernel
theorem dX9_count_96 : decode cX9_count 96 = .ok (.aload_n 0, 1) := by decide +kernel
theorem dX9_count_97 : decode cX9_count 97 = .ok (.getfield 30, 3) := by decide +kernel
theorem dX9_count_100 : decode cX9_count 100 = .ok (.getfield 115, 3) := by decide +kernel
theorem dX9_count_103 : decode cX9_count 103 = .ok (.ireturn, 1) := by decide +kernel
theorem dX9_count_104 : decode cX9_count 104 = .ok (.aload_n 0, 1) := by decide +kernel
theorem dX9_count_105 : decode cX9_count 105 = .ok (.getfield 30, 3) := by decide +kernel
theorem dX9_count_108 : decode cX9_count 108 = .ok (.getfield 118, 3) := by decide +kernel
theorem dX9_count_111 : decode cX9_count 111 = .ok (.ireturn, 1) := by decide +kernel
theorem dX9_count_112 : decode cX9_count 112 = .ok (.aload_n 2, 1) := by decide +kernel
theorem dX9_count_113 : decode cX9_count 113 = .ok (.getfield 121, 3) := by decide +kernel
theorem dX9_count_116 : decode cX9_count 116 = .ok (.ireturn, 1) := by decide +kernel
theorem dX9_count_117 : decode cX9_count 117 = .ok (.aload_n 2, 1) := by decide +kernel
theorem dX9_count_118 : decode cX9_count 118 = .ok (.invokevirtual 124, 3) := by decide +kernel
theorem dX9_count_121 : decode cX9_count 121 = .ok (.ireturn, 1) := by decide +kernel
theorem dX9_count_122 : decode cX9_count 122 = .ok (.aload_n 2, 1) := by decide +kernel
theorem dX9_count_123 : decode cX9_count 123 = .ok (.getfield 128, 3) := by decide +kernel
theorem dX9_count_126 : decode cX9_count 126 = .ok (.ireturn, 1) := by decide +kernel
theorem dX9_count_127 : decode cX9_count 127 = .ok (.aload_n 2, 1) := by decide +kernel
theorem dX9_count_128 : decode cX9_count 128 = .ok (.invokevirtual 131, 3) := by decide +kernel
theorem dX9_count_131 : decode cX9_count 131 = .ok (.ireturn, 1) := by decide +kernel
theorem dX9_count_132 : decode cX9_count 132 = .ok (.aload_n 2, 1) := by decide +kernel
theorem dX9_count_133 : decode cX9_count 133 = .ok (.getfield 134, 3) := by decide +kernel
theorem dX9_count_136 : decode cX9_count 136 = .ok (.ireturn, 1) := by decide +kernel
theorem dX9_count_137 : decode cX9_count 137 = .ok (.aload_n 2, 1) := by decide +kernel
theorem dX9_count_138 : decode cX9_count 138 = .ok (.getfield 137, 3) := by decide +kernel
theorem dX9_count_141 : decode cX9_count 141 = .ok (.ireturn, 1) := by decide +kernel
theorem dX9_count_142 : decode cX9_count 142 = .ok (.aload_n 2, 1) := by decide +kernel
theorem dX9_count_143 : decode cX9_count 143 = .ok (.getfield 140, 3) := by decide +kernel
theorem dX9_count_146 : decode cX9_count 146 = .ok (.ireturn, 1) := by decide +kernel
theorem dX9_count_147 : decode cX9_count 147 = .ok (.aload_n 2, 1) := by decide +kernel
theorem dX9_count_148 : decode cX9_count 148 = .ok (.bipush 12, 2) := by decide +kernel
theorem dX9_count_150 : decode cX9_count 150 = .ok (.invokevirtual 143, 3) := by decide +kernel
theorem dX9_count_153 : decode cX9_count 153 = .ok (.aload_n 2, 1) := by decide +kernel
theorem dX9_count_154 : decode cX9_count 154 = .ok (.bipush 24, 2) := by decide +kernel
theorem dX9_count_156 : decode cX9_count 156 = .ok (.invokevirtual 143, 3) := by decide +kernel
theorem dX9_count_159 : decode cX9_count 159 = .ok (.iadd, 1) := by decide +kernel
theorem dX9_count_160 : decode cX9_count 160 = .ok (.ireturn, 1) := by decide +kernel
theorem dX9_count_161 : decode cX9_count 161 = .ok (.aload_n 0, 1) := by decide +kernel
theorem dX9_count_162 : decode cX9_count 162 = .ok (.invokevirtual 147, 3) := by decide +kernel
theorem dX9_count_165 : decode cX9_count 165 = .ok (.ireturn, 1) := by decide +kernel
theorem dX9_count_166 : decode cX9_count 166 = .ok (.aload_n 2, 1) := by decide +kernel
theorem dX9_count_167 : decode cX9_count 167 = .ok (.getfield 150, 3) := by decide +kernel
theorem dX9_count_170 : decode cX9_count 170 = .ok (.ireturn, 1) := by decide +kernel
theorem dX9_count_171 : decode cX9_count 171 = .ok (.aload_n 0, 1) := by decide +kernel
theorem dX9_count_172 : decode cX9_count 172 = .ok (.getfield 37, 3) := by decide +kernel
theorem dX9_count_175 : decode cX9_count 175 = .ok (.getfield 153, 3) := by decide +kernel
theorem dX9_count_178 : decode cX9_count 178 = .ok (.ireturn, 1) := by decide +kernel
theorem dX9_count_179 : decode cX9_count 179 = .ok (.aload_n 0, 1) := by decide +kernel
theorem dX9_count_180 : decode cX9_count 180 = .ok (.getfield 37, 3) := by decide +kernel
theorem dX9_count_183 : decode cX9_count 183 = .ok (.getfield 156, 3) := by decide +kernel
theorem dX9_count_186 : decode cX9_count 186 = .ok (.getfield 160, 3) := by decide +kernel
theorem dX9_count_189 : decode cX9_count 189 = .ok (.ireturn, 1) := by decide +kernel
theorem dX9_count_190 : decode cX9_count 190 = .ok (.aload_n 0, 1) := by decide +kernel
theorem dX9_count_191 : decode cX9_count 191 = .ok (.getfield 13, 3) := by decide +kernel
theorem dX9_count_194 : decode cX9_count 194 = .ok (.ireturn, 1) := by decide +kernel
theorem dX9_count_195 : decode cX9_count 195 = .ok (.aload_n 0, 1) := by decide +kernel
theorem dX9_count_196 : decode cX9_count 196 = .ok (.getfield 37, 3) := by decide +kernel
theorem dX9_count_199 : decode cX9_count 199 = .ok (.getfield 100, 3) := by decide +kernel
theorem dX9_count_202 : decode cX9_count 202 = .ok (.iconst 0, 1) := by decide +kernel
theorem dX9_count_203 : decode cX9_count 203 = .ok (.iaload, 1) := by decide +kernel
theorem dX9_count_204 : decode cX9_count 204 = .ok (.ireturn, 1) := by decide +kernel
theorem dX9_count_205 : decode cX9_count 205 = .ok (.aload_n 0, 1) := by decide +kernel
theorem dX9_count_206 : decode cX9_count 206 = .ok (.getfield 37, 3) := by decide +kernel
theorem dX9_count_209 : decode cX9_count 209 = .ok (.getfield 100, 3) := by decide +kernel
theorem dX9_count_212 : decode cX9_count 212 = .ok (.iconst 1, 1) := by decide +kernel
theorem dX9_count_213 : decode cX9_count 213 = .ok (.iaload, 1) := by decide +kernel
theorem dX9_count_214 : decode cX9_count 214 = .ok (.ireturn, 1) := by decide +kernel
theorem dX9_count_215 : decode cX9_count 215 = .ok (.aload_n 0, 1) := by decide +kernel
theorem dX9_count_216 : decode cX9_count 216 = .ok (.getfield 37, 3) := by decide +kernel
theorem dX9_count_219 : decode cX9_count 219 = .ok (.getfield 100, 3) := by decide +kernel
theorem dX9_count_222 : decode cX9_count 222 = .ok (.iconst 2, 1) := by decide +kernel
theorem dX9_count_223 : decode cX9_count 223 = .ok (.iaload, 1) := by decide +kernel
theorem dX9_count_224 : decode cX9_count 224 = .ok (.ireturn, 1) := by decide +kernel
theorem dX9_forecast_0 : decode cX9_forecast 0 = .ok (.iload_n 1, 1) := by decide +kernel
theorem dX9_forecast_1 : decode cX9_forecast 1 = .ok (.ifCond .lt 14, 3) := by decide +kernel
theorem dX9_forecast_15 : decode cX9_forecast 15 = .ok (.new 165, 3) := by decide +kernel
theorem dX9_forecast_18 : decode cX9_forecast 18 = .ok (.dup, 1) := by decide +kernel
theorem dX9_forecast_19 : decode cX9_forecast 19 = .ok (.ldc 170, 2) := by decide +kernel
theorem dX9_forecast_21 : decode cX9_forecast 21 = .ok (.invokespecial 169, 3) := by decide +kernel
theorem dX9_forecast_24 : decode cX9_forecast 24 = .ok (.athrow, 1) := by decide +kernel
theorem dX9_forecast_4 : decode cX9_forecast 4 = .ok (.iload_n 1, 1) := by decide +kernel
theorem dX9_forecast_5 : decode cX9_forecast 5 = .ok (.aload_n 0, 1) := by decide +kernel
theorem dX9_forecast_6 : decode cX9_forecast 6 = .ok (.getfield 30, 3) := by decide +kernel
theorem dX9_forecast_9 : decode cX9_forecast 9 = .ok (.getfield 118, 3) := by decide +kernel
theorem dX9_forecast_12 : decode cX9_forecast 12 = .ok (.if_icmp .lt 13, 3) := by decide +kernel
theorem dX9_forecast_25 : decode cX9_forecast 25 = .ok (.iload_n 2, 1) := by decide +kernel
theorem dX9_forecast_26 : decode cX9_forecast 26 = .ok (.tableswitch 56 0 2 #[26, 36, 46], 26) := by decide +kernel
theorem dX9_forecast_82 : decode cX9_forecast 82 = .ok (.new 165, 3) := by decide +kernel
theorem dX9_forecast_85 : decode cX9_forecast 85 = .ok (.dup, 1) := by decide +kernel
theorem dX9_forecast_86 : decode cX9_forecast 86 = .ok (.ldc 181, 2) := by decide +kernel
theorem dX9_forecast_88 : decode cX9_forecast 88 = .ok (.invokespecial 169, 3) := by decide +kernel
theorem dX9_forecast_91 : decode cX9_forecast 91 = .ok (.athrow, 1) := by decide +kernel
theorem dX9_forecast_52 : decode cX9_forecast 52 = .ok (.aload_n 0, 1) := by decide +kernel
theorem dX9_forecast_53 : decode cX9_forecast 53 = .ok (.getfield 30, 3) := by decide +kernel
theorem dX9_forecast_56 : decode cX9_forecast 56 = .ok (.getfield 172, 3) := by decide +kernel
theorem dX9_forecast_59 : decode cX9_forecast 59 = .ok (.iload_n 1, 1) := by decide +kernel
theorem dX9_forecast_60 : decode cX9_forecast 60 = .ok (.iaload, 1) := by decide +kernel
theorem dX9_forecast_61 : decode cX9_forecast 61 = .ok (.ireturn, 1) := by decide +kernel
theorem dX9_forecast_62 : decode cX9_forecast 62 = .ok (.aload_n 0, 1) := by decide +kernel
theorem dX9_forecast_63 : decode cX9_forecast 63 = .ok (.getfield 30, 3) := by decide +kernel
theorem dX9_forecast_66 : decode cX9_forecast 66 = .ok (.getfield 175, 3) := by decide +kernel
theorem dX9_forecast_69 : decode cX9_forecast 69 = .ok (.iload_n 1, 1) := by decide +kernel
theorem dX9_forecast_70 : decode cX9_forecast 70 = .ok (.iaload, 1) := by decide +kernel
theorem dX9_forecast_71 : decode cX9_forecast 71 = .ok (.ireturn, 1) := by decide +kernel
theorem dX9_forecast_72 : decode cX9_forecast 72 = .ok (.aload_n 0, 1) := by decide +kernel
theorem dX9_forecast_73 : decode cX9_forecast 73 = .ok (.getfield 30, 3) := by decide +kernel
theorem dX9_forecast_76 : decode cX9_forecast 76 = .ok (.getfield 178, 3) := by decide +kernel
theorem dX9_forecast_79 : decode cX9_forecast 79 = .ok (.iload_n 1, 1) := by decide +kernel
theorem dX9_forecast_80 : decode cX9_forecast 80 = .ok (.iaload, 1) := by decide +kernel
theorem dX9_forecast_81 : decode cX9_forecast 81 = .ok (.ireturn, 1) := by decide +kernel
theorem dX9_slope_0 : decode cX9_slope 0 = .ok (.aload_n 0, 1) := by decide +kernel
theorem dX9_slope_1 : decode cX9_slope 1 = .ok (.iload_n 1, 1) := by decide +kernel
theorem dX9_slope_2 : decode cX9_slope 2 = .ok (.invokevirtual 183, 3) := by decide +kernel
theorem dX9_slope_5 : decode cX9_slope 5 = .ok (.astore_n 3, 1) := by decide +kernel
theorem dX9_slope_6 : decode cX9_slope 6 = .ok (.aload_n 0, 1) := by decide +kernel
theorem dX9_slope_7 : decode cX9_slope 7 = .ok (.getfield 30, 3) := by decide +kernel
theorem dX9_slope_10 : decode cX9_slope 10 = .ok (.getfield 187, 3) := by decide +kernel
theorem dX9_slope_13 : decode cX9_slope 13 = .ok (.iload_n 1, 1) := by decide +kernel
theorem dX9_slope_14 : decode cX9_slope 14 = .ok (.iaload, 1) := by decide +kernel
theorem dX9_slope_15 : decode cX9_slope 15 = .ok (.istore 4, 2) := by decide +kernel
theorem dX9_slope_17 : decode cX9_slope 17 = .ok (.iload_n 2, 1) := by decide +kernel
theorem dX9_slope_18 : decode cX9_slope 18 = .ok (.tableswitch 141 0 9 #[54, 57, 67, 72, 79, 86, 93, 98, 109, 120], 54) := by decide +kernel
theorem dX9_slope_159 : decode cX9_slope 159 = .ok (.new 165, 3) := by decide +kernel
theorem dX9_slope_162 : decode cX9_slope 162 = .ok (.dup, 1) := by decide +kernel
theorem dX9_slope_163 : decode cX9_slope 163 = .ok (.ldc 210, 2) := by decide +kernel
theorem dX9_slope_165 : decode cX9_slope 165 = .ok (.invokespecial 169, 3) := by decide +kernel
theorem dX9_slope_168 : decode cX9_slope 168 = .ok (.athrow, 1) := by decide +kernel
theorem dX9_slope_72 : decode cX9_slope 72 = .ok (.iload 4, 2) := by decide +kernel
theorem dX9_slope_74 : decode cX9_slope 74 = .ok (.ireturn, 1) := by decide +kernel
theorem dX9_slope_75 : decode cX9_slope 75 = .ok (.aload_n 0, 1) := by decide +kernel
theorem dX9_slope_76 : decode cX9_slope 76 = .ok (.getfield 30, 3) := by decide +kernel
theorem dX9_slope_79 : decode cX9_slope 79 = .ok (.getfield 190, 3) := by decide +kernel
theorem dX9_slope_82 : decode cX9_slope 82 = .ok (.iload_n 1, 1) := by decide +kernel
theorem dX9_slope_83 : decode cX9_slope 83 = .ok (.iaload, 1) := by decide +kernel
theorem dX9_slope_84 : decode cX9_slope 84 = .ok (.ireturn, 1) := by decide +kernel
theorem dX9_slope_85 : decode cX9_slope 85 = .ok (.aload_n 3, 1) := by decide +kernel
theorem dX9_slope_86 : decode cX9_slope 86 = .ok (.getfield 193, 3) := by decide +kernel
theorem dX9_slope_89 : decode cX9_slope 89 = .ok (.ireturn, 1) := by decide +kernel
theorem dX9_slope_90 : decode cX9_slope 90 = .ok (.aload_n 3, 1) := by decide +kernel
theorem dX9_slope_91 : decode cX9_slope 91 = .ok (.bipush 36, 2) := by decide +kernel
theorem dX9_slope_93 : decode cX9_slope 93 = .ok (.invokevirtual 196, 3) := by decide +kernel
theorem dX9_slope_96 : decode cX9_slope 96 = .ok (.ireturn, 1) := by decide +kernel
theorem dX9_slope_97 : decode cX9_slope 97 = .ok (.aload_n 3, 1) := by decide +kernel
theorem dX9_slope_98 : decode cX9_slope 98 = .ok (.bipush 12, 2) := by decide +kernel
theorem dX9_slope_100 : decode cX9_slope 100 = .ok (.invokevirtual 196, 3) := by decide +kernel
theorem dX9_slope_103 : decode cX9_slope 103 = .ok (.ireturn, 1) := by decide +kernel
theorem dX9_slope_104 : decode cX9_slope 104 = .ok (.aload_n 3, 1) := by decide +kernel
theorem dX9_slope_105 : decode cX9_slope 105 = .ok (.bipush 24, 2) := by decide +kernel
theorem dX9_slope_107 : decode cX9_slope 107 = .ok (.invokevirtual 196, 3) := by decide +kernel
theorem dX9_slope_110 : decode cX9_slope 110 = .ok (.ireturn, 1) := by decide +kernel
theorem dX9_slope_111 : decode cX9_slope 111 = .ok (.aload_n 3, 1) := by decide +kernel
theorem dX9_slope_112 : decode cX9_slope 112 = .ok (.getfield 197, 3) := by decide +kernel
theorem dX9_slope_115 : decode cX9_slope 115 = .ok (.ireturn, 1) := by decide +kernel
theorem dX9_slope_116 : decode cX9_slope 116 = .ok (.aload_n 3, 1) := by decide +kernel
theorem dX9_slope_117 : decode cX9_slope 117 = .ok (.iload 4, 2) := by decide +kernel
theorem dX9_slope_119 : decode cX9_slope 119 = .ok (.aload_n 0, 1) := by decide +kernel
theorem dX9_slope_120 : decode cX9_slope 120 = .ok (.getfield 30, 3) := by decide +kernel
theorem dX9_slope_123 : decode cX9_slope 123 = .ok (.invokevirtual 199, 3) := by decide +kernel
theorem dX9_slope_126 : decode cX9_slope 126 = .ok (.ireturn, 1) := by decide +kernel
theorem dX9_slope_127 : decode cX9_slope 127 = .ok (.aload_n 3, 1) := by decide +kernel
theorem dX9_slope_128 : decode cX9_slope 128 = .ok (.iload 4, 2) := by decide +kernel
theorem dX9_slope_130 : decode cX9_slope 130 = .ok (.aload_n 0, 1) := by decide +kernel
theorem dX9_slope_131 : decode cX9_slope 131 = .ok (.getfield 30, 3) := by decide +kernel
theorem dX9_slope_134 : decode cX9_slope 134 = .ok (.invokevirtual 203, 3) := by decide +kernel
theorem dX9_slope_137 : decode cX9_slope 137 = .ok (.ireturn, 1) := by decide +kernel
theorem dX9_slope_138 : decode cX9_slope 138 = .ok (.aload_n 3, 1) := by decide +kernel
theorem dX9_slope_139 : decode cX9_slope 139 = .ok (.iload 4, 2) := by decide +kernel
theorem dX9_slope_141 : decode cX9_slope 141 = .ok (.iconst 0, 1) := by decide +kernel
theorem dX9_slope_142 : decode cX9_slope 142 = .ok (.aload_n 0, 1) := by decide +kernel
theorem dX9_slope_143 : decode cX9_slope 143 = .ok (.getfield 30, 3) := by decide +kernel
theorem dX9_slope_146 : decode cX9_slope 146 = .ok (.invokevirtual 206, 3) := by decide +kernel
theorem dX9_slope_149 : decode cX9_slope 149 = .ok (.iconst (-1), 1) := by decide +kernel
theorem dX9_slope_150 : decode cX9_slope 150 = .ok (.if_icmp .eq 7, 3) := by decide +kernel
theorem dX9_slope_157 : decode cX9_slope 157 = .ok (.iconst 0, 1) := by decide +kernel
theorem dX9_slope_158 : decode cX9_slope 158 = .ok (.ireturn, 1) := by decide +kernel
theorem dX9_slope_153 : decode cX9_slope 153 = .ok (.iconst 1, 1) := by decide +kernel
theorem dX9_slope_154 : decode cX9_slope 154 = .ok (.goto 4, 3) := by decide +kernel
theorem dX9_layer_0 : decode cX9_layer 0 = .ok (.aload_n 0, 1) := by decide +kernel
theorem dX9_layer_1 : decode cX9_layer 1 = .ok (.iload_n 1, 1) := by decide +kernel
theorem dX9_layer_2 : decode cX9_layer 2 = .ok (.invokevirtual 183, 3) := by decide +kernel
theorem dX9_layer_5 : decode cX9_layer 5 = .ok (.astore 4, 2) := by decide +kernel
theorem dX9_layer_7 : decode cX9_layer 7 = .ok (.aload_n 0, 1) := by decide +kernel
theorem dX9_layer_8 : decode cX9_layer 8 = .ok (.aload 4, 2) := by decide +kernel
theorem dX9_layer_10 : decode cX9_layer 10 = .ok (.iload_n 2, 1) := by decide +kernel
theorem dX9_layer_11 : decode cX9_layer 11 = .ok (.invokevirtual 212, 3) := by decide +kernel
theorem dX9_layer_14 : decode cX9_layer 14 = .ok (.aload_n 0, 1) := by decide +kernel
theorem dX9_layer_15 : decode cX9_layer 15 = .ok (.getfield 30, 3) := by decide +kernel
theorem dX9_layer_18 : decode cX9_layer 18 = .ok (.getfield 187, 3) := by decide +kernel
theorem dX9_layer_21 : decode cX9_layer 21 = .ok (.iload_n 1, 1) := by decide +kernel
theorem dX9_layer_22 : decode cX9_layer 22 = .ok (.iaload, 1) := by decide +kernel
theorem dX9_layer_23 : decode cX9_layer 23 = .ok (.istore 5, 2) := by decide +kernel
theorem dX9_layer_25 : decode cX9_layer 25 = .ok (.iload_n 3, 1) := by decide +kernel
theorem dX9_layer_26 : decode cX9_layer 26 = .ok (.tableswitch 223 0 11 #[62, 72, 83, 94, 105, 116, 127, 138, 154, 178, 189, 201], 62) := by decide +kernel
theorem dX9_layer_249 : decode cX9_layer 249 = .ok (.new 165, 3) := by decide +kernel
theorem dX9_layer_252 : decode cX9_layer 252 = .ok (.dup, 1) := by decide +kernel
theorem dX9_layer_253 : decode cX9_layer 253 = .ok (.ldc 241, 2) := by decide +kernel
theorem dX9_layer_255 : decode cX9_layer 255 = .ok (.invokespecial 169, 3) := by decide +kernel
theorem dX9_layer_258 : decode cX9_layer 258 = .ok (.athrow, 1) := by decide +kernel
theorem dX9_layer_88 : decode cX9_layer 88 = .ok (.aload 4, 2) := by decide +kernel
theorem dX9_layer_90 : decode cX9_layer 90 = .ok (.getfield 216, 3) := by decide +kernel
theorem dX9_layer_93 : decode cX9_layer 93 = .ok (.iconst 0, 1) := by decide +kernel
theorem dX9_layer_94 : decode cX9_layer 94 = .ok (.iload_n 2, 1) := by decide +kernel
theorem dX9_layer_95 : decode cX9_layer 95 = .ok (.iadd, 1) := by decide +kernel
theorem dX9_layer_96 : decode cX9_layer 96 = .ok (.iaload, 1) := by decide +kernel
theorem dX9_layer_97 : decode cX9_layer 97 = .ok (.ireturn, 1) := by decide +kernel
theorem dX9_layer_98 : decode cX9_layer 98 = .ok (.aload 4, 2) := by decide +kernel
theorem dX9_layer_100 : decode cX9_layer 100 = .ok (.getfield 216, 3) := by decide +kernel
theorem dX9_layer_103 : decode cX9_layer 103 = .ok (.bipush 12, 2) := by decide +kernel
theorem dX9_layer_105 : decode cX9_layer 105 = .ok (.iload_n 2, 1) := by decide +kernel
theorem dX9_layer_106 : decode cX9_layer 106 = .ok (.iadd, 1) := by decide +kernel
theorem dX9_layer_107 : decode cX9_layer 107 = .ok (.iaload, 1) := by decide +kernel
theorem dX9_layer_108 : decode cX9_layer 108 = .ok (.ireturn, 1) := by decide +kernel
theorem dX9_layer_109 : decode cX9_layer 109 = .ok (.aload 4, 2) := by decide +kernel
theorem dX9_layer_111 : decode cX9_layer 111 = .ok (.getfield 216, 3) := by decide +kernel
theorem dX9_layer_114 : decode cX9_layer 114 = .ok (.bipush 24, 2) := by decide +kernel
theorem dX9_layer_116 : decode cX9_layer 116 = .ok (.iload_n 2, 1) := by decide +kernel
theorem dX9_layer_117 : decode cX9_layer 117 = .ok (.iadd, 1) := by decide +kernel
theorem dX9_layer_118 : decode cX9_layer 118 = .ok (.iaload, 1) := by decide +kernel
theorem dX9_layer_119 : decode cX9_layer 119 = .ok (.ireturn, 1) := by decide +kernel
theorem dX9_layer_120 : decode cX9_layer 120 = .ok (.aload 4, 2) := by decide +kernel
theorem dX9_layer_122 : decode cX9_layer 122 = .ok (.getfield 216, 3) := by decide +kernel
theorem dX9_layer_125 : decode cX9_layer 125 = .ok (.bipush 36, 2) := by decide +kernel
theorem dX9_layer_127 : decode cX9_layer 127 = .ok (.iload_n 2, 1) := by decide +kernel
theorem dX9_layer_128 : decode cX9_layer 128 = .ok (.iadd, 1) := by decide +kernel
theorem dX9_layer_129 : decode cX9_layer 129 = .ok (.iaload, 1) := by decide +kernel
theorem dX9_layer_130 : decode cX9_layer 130 = .ok (.ireturn, 1) := by decide +kernel
theorem dX9_layer_131 : decode cX9_layer 131 = .ok (.aload 4, 2) := by decide +kernel
theorem dX9_layer_133 : decode cX9_layer 133 = .ok (.getfield 216, 3) := by decide +kernel
theorem dX9_layer_136 : decode cX9_layer 136 = .ok (.bipush 48, 2) := by decide +kernel
theorem dX9_layer_138 : decode cX9_layer 138 = .ok (.iload_n 2, 1) := by decide +kernel
theorem dX9_layer_139 : decode cX9_layer 139 = .ok (.iadd, 1) := by decide +kernel
theorem dX9_layer_140 : decode cX9_layer 140 = .ok (.iaload, 1) := by decide +kernel
theorem dX9_layer_141 : decode cX9_layer 141 = .ok (.ireturn, 1) := by decide +kernel
theorem dX9_layer_142 : decode cX9_layer 142 = .ok (.aload 4, 2) := by decide +kernel
theorem dX9_layer_144 : decode cX9_layer 144 = .ok (.getfield 216, 3) := by decide +kernel
theorem dX9_layer_147 : decode cX9_layer 147 = .ok (.bipush 60, 2) := by decide +kernel
theorem dX9_layer_149 : decode cX9_layer 149 = .ok (.iload_n 2, 1) := by decide +kernel
theorem dX9_layer_150 : decode cX9_layer 150 = .ok (.iadd, 1) := by decide +kernel
theorem dX9_layer_151 : decode cX9_layer 151 = .ok (.iaload, 1) := by decide +kernel
theorem dX9_layer_152 : decode cX9_layer 152 = .ok (.ireturn, 1) := by decide +kernel
theorem dX9_layer_153 : decode cX9_layer 153 = .ok (.aload 4, 2) := by decide +kernel
theorem dX9_layer_155 : decode cX9_layer 155 = .ok (.getfield 216, 3) := by decide +kernel
theorem dX9_layer_158 : decode cX9_layer 158 = .ok (.bipush 72, 2) := by decide +kernel
theorem dX9_layer_160 : decode cX9_layer 160 = .ok (.iload_n 2, 1) := by decide +kernel
theorem dX9_layer_161 : decode cX9_layer 161 = .ok (.iadd, 1) := by decide +kernel
theorem dX9_layer_162 : decode cX9_layer 162 = .ok (.iaload, 1) := by decide +kernel
theorem dX9_layer_163 : decode cX9_layer 163 = .ok (.ireturn, 1) := by decide +kernel
theorem dX9_layer_164 : decode cX9_layer 164 = .ok (.aload 4, 2) := by decide +kernel
theorem dX9_layer_166 : decode cX9_layer 166 = .ok (.iload_n 2, 1) := by decide +kernel
theorem dX9_layer_167 : decode cX9_layer 167 = .ok (.invokevirtual 219, 3) := by decide +kernel
theorem dX9_layer_170 : decode cX9_layer 170 = .ok (.aload 4, 2) := by decide +kernel
theorem dX9_layer_172 : decode cX9_layer 172 = .ok (.iload_n 2, 1) := by decide +kernel
theorem dX9_layer_173 : decode cX9_layer 173 = .ok (.invokevirtual 222, 3) := by decide +kernel
theorem dX9_layer_176 : decode cX9_layer 176 = .ok (.iconst 2, 1) := by decide +kernel
theorem dX9_layer_177 : decode cX9_layer 177 = .ok (.idiv, 1) := by decide +kernel
theorem dX9_layer_178 : decode cX9_layer 178 = .ok (.iadd, 1) := by decide +kernel
theorem dX9_layer_179 : decode cX9_layer 179 = .ok (.ireturn, 1) := by decide +kernel
theorem dX9_layer_180 : decode cX9_layer 180 = .ok (.aload 4, 2) := by decide +kernel
theorem dX9_layer_182 : decode cX9_layer 182 = .ok (.iload_n 2, 1) := by decide +kernel
theorem dX9_layer_183 : decode cX9_layer 183 = .ok (.aload_n 0, 1) := by decide +kernel
theorem dX9_layer_184 : decode cX9_layer 184 = .ok (.getfield 30, 3) := by decide +kernel
theorem dX9_layer_187 : decode cX9_layer 187 = .ok (.aload_n 0, 1) := by decide +kernel
theorem dX9_layer_188 : decode cX9_layer 188 = .ok (.getfield 37, 3) := by decide +kernel
theorem dX9_layer_191 : decode cX9_layer 191 = .ok (.getfield 112, 3) := by decide +kernel
theorem dX9_layer_194 : decode cX9_layer 194 = .ok (.getfield 121, 3) := by decide +kernel
theorem dX9_layer_197 : decode cX9_layer 197 = .ok (.invokevirtual 225, 3) := by decide +kernel
theorem dX9_layer_200 : decode cX9_layer 200 = .ok (.invokevirtual 228, 3) := by decide +kernel
theorem dX9_layer_203 : decode cX9_layer 203 = .ok (.ireturn, 1) := by decide +kernel
theorem dX9_layer_204 : decode cX9_layer 204 = .ok (.aload 4, 2) := by decide +kernel
theorem dX9_layer_206 : decode cX9_layer 206 = .ok (.iload_n 2, 1) := by decide +kernel
theorem dX9_layer_207 : decode cX9_layer 207 = .ok (.aload_n 0, 1) := by decide +kernel
theorem dX9_layer_208 : decode cX9_layer 208 = .ok (.getfield 30, 3) := by decide +kernel
theorem dX9_layer_211 : decode cX9_layer 211 = .ok (.invokevirtual 232, 3) := by decide +kernel
theorem dX9_layer_214 : decode cX9_layer 214 = .ok (.ireturn, 1) := by decide +kernel
theorem dX9_layer_215 : decode cX9_layer 215 = .ok (.aload 4, 2) := by decide +kernel
theorem dX9_layer_217 : decode cX9_layer 217 = .ok (.iload_n 2, 1) := by decide +kernel
theorem dX9_layer_218 : decode cX9_layer 218 = .ok (.invokevirtual 219, 3) := by decide +kernel
theorem dX9_layer_221 : decode cX9_layer 221 = .ok (.iload 5, 2) := by decide +kernel
theorem dX9_layer_223 : decode cX9_layer 223 = .ok (.invokestatic 235, 3) := by decide +kernel
theorem dX9_layer_226 : decode cX9_layer 226 = .ok (.ireturn, 1) := by decide +kernel
theorem dX9_layer_227 : decode cX9_layer 227 = .ok (.aload 4, 2) := by decide +kernel
theorem dX9_layer_229 : decode cX9_layer 229 = .ok (.iload_n 2, 1) := by decide +kernel
theorem dX9_layer_230 : decode cX9_layer 230 = .ok (.aload 4, 2) := by decide +kernel
theorem dX9_layer_232 : decode cX9_layer 232 = .ok (.iload_n 2, 1) := by decide +kernel
theorem dX9_layer_233 : decode cX9_layer 233 = .ok (.invokevirtual 219, 3) := by decide +kernel
theorem dX9_layer_236 : decode cX9_layer 236 = .ok (.iload 5, 2) := by decide +kernel
theorem dX9_layer_238 : decode cX9_layer 238 = .ok (.invokestatic 235, 3) := by decide +kernel
theorem dX9_layer_241 : decode cX9_layer 241 = .ok (.aload_n 0, 1) := by decide +kernel
theorem dX9_layer_242 : decode cX9_layer 242 = .ok (.getfield 30, 3) := by decide +kernel
theorem dX9_layer_245 : decode cX9_layer 245 = .ok (.invokevirtual 238, 3) := by decide +kernel
theorem dX9_layer_248 : decode cX9_layer 248 = .ok (.ireturn, 1) := by decide +kernel
theorem dX9_stands_0 : decode cX9_stands 0 = .ok (.aload_n 0, 1) := by decide +kernel
theorem dX9_stands_1 : decode cX9_stands 1 = .ok (.iload_n 1, 1) := by decide +kernel
theorem dX9_stands_2 : decode cX9_stands 2 = .ok (.invokevirtual 183, 3) := by decide +kernel
theorem dX9_stands_5 : decode cX9_stands 5 = .ok (.astore_n 3, 1) := by decide +kernel
theorem dX9_stands_6 : decode cX9_stands 6 = .ok (.iload_n 2, 1) := by decide +kernel
theorem dX9_stands_7 : decode cX9_stands 7 = .ok (.iconst 1, 1) := by decide +kernel
theorem dX9_stands_8 : decode cX9_stands 8 = .ok (.invokestatic 303, 3) := by decide +kernel
theorem dX9_stands_11 : decode cX9_stands 11 = .ok (.iconst 0, 1) := by decide +kernel
theorem dX9_stands_12 : decode cX9_stands 12 = .ok (.istore 4, 2) := by decide +kernel
theorem dX9_stands_14 : decode cX9_stands 14 = .ok (.iload 4, 2) := by decide +kernel
theorem dX9_stands_16 : decode cX9_stands 16 = .ok (.bipush 30, 2) := by decide +kernel
theorem dX9_stands_18 : decode cX9_stands 18 = .ok (.if_icmp .gt 51, 3) := by decide +kernel
theorem dX9_stands_69 : decode cX9_stands 69 = .ok (.iconst (-1), 1) := by decide +kernel
theorem dX9_stands_70 : decode cX9_stands 70 = .ok (.ireturn, 1) := by decide +kernel
theorem dX9_stands_21 : decode cX9_stands 21 = .ok (.aload_n 3, 1) := by decide +kernel
theorem dX9_stands_22 : decode cX9_stands 22 = .ok (.aload_n 0, 1) := by decide +kernel
theorem dX9_stands_23 : decode cX9_stands 23 = .ok (.getfield 30, 3) := by decide +kernel
theorem dX9_stands_26 : decode cX9_stands 26 = .ok (.getfield 187, 3) := by decide +kernel
theorem dX9_stands_29 : decode cX9_stands 29 = .ok (.iload_n 1, 1) := by decide +kernel
theorem dX9_stands_30 : decode cX9_stands 30 = .ok (.iaload, 1) := by decide +kernel
theorem dX9_stands_31 : decode cX9_stands 31 = .ok (.iload 4, 2) := by decide +kernel
theorem dX9_stands_33 : decode cX9_stands 33 = .ok (.invokestatic 321, 3) := by decide +kernel
theorem dX9_stands_36 : decode cX9_stands 36 = .ok (.aload_n 0, 1) := by decide +kernel
theorem dX9_stands_37 : decode cX9_stands 37 = .ok (.getfield 30, 3) := by decide +kernel
theorem dX9_stands_40 : decode cX9_stands 40 = .ok (.invokevirtual 206, 3) := by decide +kernel
theorem dX9_stands_43 : decode cX9_stands 43 = .ok (.istore 5, 2) := by decide +kernel
theorem dX9_stands_45 : decode cX9_stands 45 = .ok (.iload 5, 2) := by decide +kernel
theorem dX9_stands_47 : decode cX9_stands 47 = .ok (.iconst (-1), 1) := by decide +kernel
theorem dX9_stands_48 : decode cX9_stands 48 = .ok (.if_icmp .eq 15, 3) := by decide +kernel
theorem dX9_stands_63 : decode cX9_stands 63 = .ok (.iinc 4 1, 3) := by decide +kernel
theorem dX9_stands_66 : decode cX9_stands 66 = .ok (.goto (-52), 3) := by decide +kernel
theorem dX9_stands_51 : decode cX9_stands 51 = .ok (.iload_n 2, 1) := by decide +kernel
theorem dX9_stands_52 : decode cX9_stands 52 = .ok (.ifCond .ne 8, 3) := by decide +kernel
theorem dX9_stands_60 : decode cX9_stands 60 = .ok (.iload 5, 2) := by decide +kernel
theorem dX9_stands_62 : decode cX9_stands 62 = .ok (.ireturn, 1) := by decide +kernel
theorem dX9_stands_55 : decode cX9_stands 55 = .ok (.iload 4, 2) := by decide +kernel
theorem dX9_stands_57 : decode cX9_stands 57 = .ok (.goto 5, 3) := by decide +kernel
theorem dX9_toLoad_0 : decode cX9_toLoad 0 = .ok (.aload_n 0, 1) := by decide +kernel
theorem dX9_toLoad_1 : decode cX9_toLoad 1 = .ok (.iload_n 1, 1) := by decide +kernel
theorem dX9_toLoad_2 : decode cX9_toLoad 2 = .ok (.invokevirtual 183, 3) := by decide +kernel
theorem dX9_toLoad_5 : decode cX9_toLoad 5 = .ok (.astore_n 2, 1) := by decide +kernel
theorem dX9_toLoad_6 : decode cX9_toLoad 6 = .ok (.iconst 1, 1) := by decide +kernel
theorem dX9_toLoad_7 : decode cX9_toLoad 7 = .ok (.istore_n 3, 1) := by decide +kernel
theorem dX9_toLoad_8 : decode cX9_toLoad 8 = .ok (.iload_n 3, 1) := by decide +kernel
theorem dX9_toLoad_9 : decode cX9_toLoad 9 = .ok (.bipush 99, 2) := by decide +kernel
theorem dX9_toLoad_11 : decode cX9_toLoad 11 = .ok (.if_icmp .gt 33, 3) := by decide +kernel
theorem dX9_toLoad_44 : decode cX9_toLoad 44 = .ok (.iconst (-1), 1) := by decide +kernel
theorem dX9_toLoad_45 : decode cX9_toLoad 45 = .ok (.ireturn, 1) := by decide +kernel
theorem dX9_toLoad_14 : decode cX9_toLoad 14 = .ok (.aload_n 2, 1) := by decide +kernel
theorem dX9_toLoad_15 : decode cX9_toLoad 15 = .ok (.aload_n 0, 1) := by decide +kernel
theorem dX9_toLoad_16 : decode cX9_toLoad 16 = .ok (.getfield 30, 3) := by decide +kernel
theorem dX9_toLoad_19 : decode cX9_toLoad 19 = .ok (.getfield 187, 3) := by decide +kernel
theorem dX9_toLoad_22 : decode cX9_toLoad 22 = .ok (.iload_n 1, 1) := by decide +kernel
theorem dX9_toLoad_23 : decode cX9_toLoad 23 = .ok (.iaload, 1) := by decide +kernel
theorem dX9_toLoad_24 : decode cX9_toLoad 24 = .ok (.iload_n 3, 1) := by decide +kernel
theorem dX9_toLoad_25 : decode cX9_toLoad 25 = .ok (.aload_n 0, 1) := by decide +kernel
theorem dX9_toLoad_26 : decode cX9_toLoad 26 = .ok (.getfield 30, 3) := by decide +kernel
theorem dX9_toLoad_29 : decode cX9_toLoad 29 = .ok (.invokevirtual 206, 3) := by decide +kernel
theorem dX9_toLoad_32 : decode cX9_toLoad 32 = .ok (.iconst (-1), 1) := by decide +kernel
theorem dX9_toLoad_33 : decode cX9_toLoad 33 = .ok (.if_icmp .eq 5, 3) := by decide +kernel
theorem dX9_toLoad_38 : decode cX9_toLoad 38 = .ok (.iinc 3 1, 3) := by decide +kernel
theorem dX9_toLoad_41 : decode cX9_toLoad 41 = .ok (.goto (-33), 3) := by decide +kernel
theorem dX9_toLoad_36 : decode cX9_toLoad 36 = .ok (.iload_n 3, 1) := by decide +kernel
theorem dX9_toLoad_37 : decode cX9_toLoad 37 = .ok (.ireturn, 1) := by decide +kernel
theorem dX9_steepest_0 : decode cX9_steepest 0 = .ok (.aload_n 0, 1) := by decide +kernel
theorem dX9_steepest_1 : decode cX9_steepest 1 = .ok (.iload_n 1, 1) := by decide +kernel
theorem dX9_steepest_2 : decode cX9_steepest 2 = .ok (.invokevirtual 183, 3) := by decide +kernel
theorem dX9_steepest_5 : decode cX9_steepest 5 = .ok (.astore_n 2, 1) := by decide +kernel
theorem dX9_steepest_6 : decode cX9_steepest 6 = .ok (.bipush 90, 2) := by decide +kernel
theorem dX9_steepest_8 : decode cX9_steepest 8 = .ok (.istore_n 3, 1) := by decide +kernel
theorem dX9_steepest_9 : decode cX9_steepest 9 = .ok (.iload_n 3, 1) := by decide +kernel
theorem dX9_steepest_10 : decode cX9_steepest 10 = .ok (.ifCond .le 25, 3) := by decide +kernel
theorem dX9_steepest_35 : decode cX9_steepest 35 = .ok (.iconst 0, 1) := by decide +kernel
theorem dX9_steepest_36 : decode cX9_steepest 36 = .ok (.ireturn, 1) := by decide +kernel
theorem dX9_steepest_13 : decode cX9_steepest 13 = .ok (.aload_n 2, 1) := by decide +kernel
theorem dX9_steepest_14 : decode cX9_steepest 14 = .ok (.iload_n 3, 1) := by decide +kernel
theorem dX9_steepest_15 : decode cX9_steepest 15 = .ok (.iconst 0, 1) := by decide +kernel
theorem dX9_steepest_16 : decode cX9_steepest 16 = .ok (.aload_n 0, 1) := by decide +kernel
theorem dX9_steepest_17 : decode cX9_steepest 17 = .ok (.getfield 30, 3) := by decide +kernel
theorem dX9_steepest_20 : decode cX9_steepest 20 = .ok (.invokevirtual 206, 3) := by decide +kernel
theorem dX9_steepest_23 : decode cX9_steepest 23 = .ok (.iconst (-1), 1) := by decide +kernel
theorem dX9_steepest_24 : decode cX9_steepest 24 = .ok (.if_icmp .ne 5, 3) := by decide +kernel
theorem dX9_steepest_29 : decode cX9_steepest 29 = .ok (.iinc 3 (-1), 3) := by decide +kernel
theorem dX9_steepest_32 : decode cX9_steepest 32 = .ok (.goto (-23), 3) := by decide +kernel
theorem dX9_steepest_27 : decode cX9_steepest 27 = .ok (.iload_n 3, 1) := by decide +kernel
theorem dX9_steepest_28 : decode cX9_steepest 28 = .ok (.ireturn, 1) := by decide +kernel
theorem dX9_pitOf_0 : decode cX9_pitOf 0 = .ok (.aload_n 0, 1) := by decide +kernel
theorem dX9_pitOf_1 : decode cX9_pitOf 1 = .ok (.iload_n 1, 1) := by decide +kernel
theorem dX9_pitOf_2 : decode cX9_pitOf 2 = .ok (.invokevirtual 338, 3) := by decide +kernel
theorem dX9_pitOf_5 : decode cX9_pitOf 5 = .ok (.iload_n 2, 1) := by decide +kernel
theorem dX9_pitOf_6 : decode cX9_pitOf 6 = .ok (.tableswitch 68 0 2 #[26, 39, 55], 26) := by decide +kernel
theorem dX9_pitOf_74 : decode cX9_pitOf 74 = .ok (.new 165, 3) := by decide +kernel
theorem dX9_pitOf_77 : decode cX9_pitOf 77 = .ok (.dup, 1) := by decide +kernel
theorem dX9_pitOf_78 : decode cX9_pitOf 78 = .ok (.ldc_w 354, 3) := by decide +kernel
theorem dX9_pitOf_81 : decode cX9_pitOf 81 = .ok (.invokespecial 169, 3) := by decide +kernel
theorem dX9_pitOf_84 : decode cX9_pitOf 84 = .ok (.athrow, 1) := by decide +kernel
theorem dX9_pitOf_32 : decode cX9_pitOf 32 = .ok (.aload_n 0, 1) := by decide +kernel
theorem dX9_pitOf_33 : decode cX9_pitOf 33 = .ok (.getfield 37, 3) := by decide +kernel
theorem dX9_pitOf_36 : decode cX9_pitOf 36 = .ok (.getfield 341, 3) := by decide +kernel
theorem dX9_pitOf_39 : decode cX9_pitOf 39 = .ok (.iload_n 1, 1) := by decide +kernel
theorem dX9_pitOf_40 : decode cX9_pitOf 40 = .ok (.aaload, 1) := by decide +kernel
theorem dX9_pitOf_41 : decode cX9_pitOf 41 = .ok (.getfield 344, 3) := by decide +kernel
theorem dX9_pitOf_44 : decode cX9_pitOf 44 = .ok (.ireturn, 1) := by decide +kernel
theorem dX9_pitOf_45 : decode cX9_pitOf 45 = .ok (.aload_n 0, 1) := by decide +kernel
theorem dX9_pitOf_46 : decode cX9_pitOf 46 = .ok (.getfield 37, 3) := by decide +kernel
theorem dX9_pitOf_49 : decode cX9_pitOf 49 = .ok (.getfield 341, 3) := by decide +kernel
theorem dX9_pitOf_52 : decode cX9_pitOf 52 = .ok (.iload_n 1, 1) := by decide +kernel
theorem dX9_pitOf_53 : decode cX9_pitOf 53 = .ok (.aaload, 1) := by decide +kernel
theorem dX9_pitOf_54 : decode cX9_pitOf 54 = .ok (.getfield 349, 3) := by decide +kernel
theorem dX9_pitOf_57 : decode cX9_pitOf 57 = .ok (.getfield 193, 3) := by decide +kernel
theorem dX9_pitOf_60 : decode cX9_pitOf 60 = .ok (.ireturn, 1) := by decide +kernel
theorem dX9_pitOf_61 : decode cX9_pitOf 61 = .ok (.aload_n 0, 1) := by decide +kernel
theorem dX9_pitOf_62 : decode cX9_pitOf 62 = .ok (.getfield 37, 3) := by decide +kernel
theorem dX9_pitOf_65 : decode cX9_pitOf 65 = .ok (.getfield 341, 3) := by decide +kernel
theorem dX9_pitOf_68 : decode cX9_pitOf 68 = .ok (.iload_n 1, 1) := by decide +kernel
theorem dX9_pitOf_69 : decode cX9_pitOf 69 = .ok (.aaload, 1) := by decide +kernel
theorem dX9_pitOf_70 : decode cX9_pitOf 70 = .ok (.getfield 353, 3) := by decide +kernel
theorem dX9_pitOf_73 : decode cX9_pitOf 73 = .ok (.ireturn, 1) := by decide +kernel
