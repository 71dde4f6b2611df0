-- decode rows of refq
theorem dX10_lesser_0 : decode cX10_lesser 0 = .ok (.iload_n 0, 1) := by decide +kernel
theorem dX10_lesser_1 : decode cX10_lesser 1 = .ok (.iload_n 1, 1) := by decide +kernel
theorem dX10_lesser_2 : decode cX10_lesser 2 = .ok (.if_icmp .ge 7, 3) := by decide +kernel
theorem dX10_lesser_9 : decode cX10_lesser 9 = .ok (.iload_n 1, 1) := by decide +kernel
theorem dX10_lesser_10 : decode cX10_lesser 10 = .ok (.ireturn, 1) := by decide +kernel
theorem dX10_lesser_5 : decode cX10_lesser 5 = .ok (.iload_n 0, 1) := by decide +kernel
theorem dX10_lesser_6 : decode cX10_lesser 6 = .ok (.goto 4, 3) := by decide +kernel
theorem dX10_greater_0 : decode cX10_greater 0 = .ok (.iload_n 0, 1) := by decide +kernel
theorem dX10_greater_1 : decode cX10_greater 1 = .ok (.iload_n 1, 1) := by decide +kernel
theorem dX10_greater_2 : decode cX10_greater 2 = .ok (.if_icmp .le 7, 3) := by decide +kernel
theorem dX10_greater_9 : decode cX10_greater 9 = .ok (.iload_n 1, 1) := by decide +kernel
theorem dX10_greater_10 : decode cX10_greater 10 = .ok (.ireturn, 1) := by decide +kernel
theorem dX10_greater_5 : decode cX10_greater 5 = .ok (.iload_n 0, 1) := by decide +kernel
theorem dX10_greater_6 : decode cX10_greater 6 = .ok (.goto 4, 3) := by decide +kernel
theorem dX10_within_0 : decode cX10_within 0 = .ok (.iload_n 0, 1) := by decide +kernel
theorem dX10_within_1 : decode cX10_within 1 = .ok (.iload_n 1, 1) := by decide +kernel
theorem dX10_within_2 : decode cX10_within 2 = .ok (.if_icmp .lt 12, 3) := by decide +kernel
theorem dX10_within_14 : decode cX10_within 14 = .ok (.iconst 0, 1) := by decide +kernel
theorem dX10_within_15 : decode cX10_within 15 = .ok (.ireturn, 1) := by decide +kernel
theorem dX10_within_5 : decode cX10_within 5 = .ok (.iload_n 0, 1) := by decide +kernel
theorem dX10_within_6 : decode cX10_within 6 = .ok (.iload_n 2, 1) := by decide +kernel
theorem dX10_within_7 : decode cX10_within 7 = .ok (.if_icmp .gt 7, 3) := by decide +kernel
theorem dX10_within_10 : decode cX10_within 10 = .ok (.iconst 1, 1) := by decide +kernel
theorem dX10_within_11 : decode cX10_within 11 = .ok (.goto 4, 3) := by decide +kernel
theorem dX10_span_0 : decode cX10_span 0 = .ok (.iload_n 0, 1) := by decide +kernel
theorem dX10_span_1 : decode cX10_span 1 = .ok (.ifCond .ge 8, 3) := by decide +kernel
theorem dX10_span_9 : decode cX10_span 9 = .ok (.iload_n 0, 1) := by decide +kernel
theorem dX10_span_10 : decode cX10_span 10 = .ok (.ireturn, 1) := by decide +kernel
theorem dX10_span_4 : decode cX10_span 4 = .ok (.iload_n 0, 1) := by decide +kernel
theorem dX10_span_5 : decode cX10_span 5 = .ok (.ineg, 1) := by decide +kernel
theorem dX10_span_6 : decode cX10_span 6 = .ok (.goto 4, 3) := by decide +kernel
theorem dX10_isLetter_0 : decode cX10_isLetter 0 = .ok (.iload_n 0, 1) := by decide +kernel
theorem dX10_isLetter_1 : decode cX10_isLetter 1 = .ok (.bipush 97, 2) := by decide +kernel
theorem dX10_isLetter_3 : decode cX10_isLetter 3 = .ok (.if_icmp .lt 13, 3) := by decide +kernel
theorem dX10_isLetter_16 : decode cX10_isLetter 16 = .ok (.iconst 0, 1) := by decide +kernel
theorem dX10_isLetter_17 : decode cX10_isLetter 17 = .ok (.ireturn, 1) := by decide +kernel
theorem dX10_isLetter_6 : decode cX10_isLetter 6 = .ok (.iload_n 0, 1) := by decide +kernel
theorem dX10_isLetter_7 : decode cX10_isLetter 7 = .ok (.bipush 122, 2) := by decide +kernel
theorem dX10_isLetter_9 : decode cX10_isLetter 9 = .ok (.if_icmp .gt 7, 3) := by decide +kernel
theorem dX10_isLetter_12 : decode cX10_isLetter 12 = .ok (.iconst 1, 1) := by decide +kernel
theorem dX10_isLetter_13 : decode cX10_isLetter 13 = .ok (.goto 4, 3) := by decide +kernel
theorem dX10_at_0 : decode cX10_at 0 = .ok (.iload_n 0, 1) := by decide +kernel
theorem dX10_at_1 : decode cX10_at 1 = .ok (.bipush 6, 2) := by decide +kernel
theorem dX10_at_3 : decode cX10_at 3 = .ok (.iadd, 1) := by decide +kernel
theorem dX10_at_4 : decode cX10_at 4 = .ok (.bipush 86, 2) := by decide +kernel
theorem dX10_at_6 : decode cX10_at 6 = .ok (.iload_n 1, 1) := by decide +kernel
theorem dX10_at_7 : decode cX10_at 7 = .ok (.imul, 1) := by decide +kernel
theorem dX10_at_8 : decode cX10_at 8 = .ok (.iadd, 1) := by decide +kernel
theorem dX10_at_9 : decode cX10_at 9 = .ok (.iconst 2, 1) := by decide +kernel
theorem dX10_at_10 : decode cX10_at 10 = .ok (.iadd, 1) := by decide +kernel
theorem dX10_at_11 : decode cX10_at 11 = .ok (.bipush 7, 2) := by decide +kernel
theorem dX10_at_13 : decode cX10_at 13 = .ok (.iload_n 2, 1) := by decide +kernel
theorem dX10_at_14 : decode cX10_at 14 = .ok (.imul, 1) := by decide +kernel
theorem dX10_at_15 : decode cX10_at 15 = .ok (.iadd, 1) := by decide +kernel
theorem dX10_at_16 : decode cX10_at 16 = .ok (.ireturn, 1) := by decide +kernel
theorem dX10_many_0 : decode cX10_many 0 = .ok (.aload_n 0, 1) := by decide +kernel
theorem dX10_many_1 : decode cX10_many 1 = .ok (.getfield 9, 3) := by decide +kernel
theorem dX10_many_4 : decode cX10_many 4 = .ok (.iload_n 1, 1) := by decide +kernel
theorem dX10_many_5 : decode cX10_many 5 = .ok (.bipush 6, 2) := by decide +kernel
theorem dX10_many_7 : decode cX10_many 7 = .ok (.iadd, 1) := by decide +kernel
theorem dX10_many_8 : decode cX10_many 8 = .ok (.bipush 86, 2) := by decide +kernel
theorem dX10_many_10 : decode cX10_many 10 = .ok (.iload_n 2, 1) := by decide +kernel
theorem dX10_many_11 : decode cX10_many 11 = .ok (.imul, 1) := by decide +kernel
theorem dX10_many_12 : decode cX10_many 12 = .ok (.iadd, 1) := by decide +kernel
theorem dX10_many_13 : decode cX10_many 13 = .ok (.iconst 0, 1) := by decide +kernel
theorem dX10_many_14 : decode cX10_many 14 = .ok (.iadd, 1) := by decide +kernel
theorem dX10_many_15 : decode cX10_many 15 = .ok (.iaload, 1) := by decide +kernel
theorem dX10_many_16 : decode cX10_many 16 = .ok (.ireturn, 1) := by decide +kernel
theorem dX10_setsMany_0 : decode cX10_setsMany 0 = .ok (.aload_n 0, 1) := by decide +kernel
theorem dX10_setsMany_1 : decode cX10_setsMany 1 = .ok (.getfield 9, 3) := by decide +kernel
theorem dX10_setsMany_4 : decode cX10_setsMany 4 = .ok (.iload_n 1, 1) := by decide +kernel
theorem dX10_setsMany_5 : decode cX10_setsMany 5 = .ok (.bipush 6, 2) := by decide +kernel
theorem dX10_setsMany_7 : decode cX10_setsMany 7 = .ok (.iadd, 1) := by decide +kernel
theorem dX10_setsMany_8 : decode cX10_setsMany 8 = .ok (.bipush 86, 2) := by decide +kernel
theorem dX10_setsMany_10 : decode cX10_setsMany 10 = .ok (.iload_n 2, 1) := by decide +kernel
theorem dX10_setsMany_11 : decode cX10_setsMany 11 = .ok (.imul, 1) := by decide +kernel
theorem dX10_setsMany_12 : decode cX10_setsMany 12 = .ok (.iadd, 1) := by decide +kernel
theorem dX10_setsMany_13 : decode cX10_setsMany 13 = .ok (.iconst 0, 1) := by decide +kernel
theorem dX10_setsMany_14 : decode cX10_setsMany 14 = .ok (.iadd, 1) := by decide +kernel
theorem dX10_setsMany_15 : decode cX10_setsMany 15 = .ok (.iload_n 3, 1) := by decide +kernel
theorem dX10_setsMany_16 : decode cX10_setsMany 16 = .ok (.iastore, 1) := by decide +kernel
theorem dX10_setsMany_17 : decode cX10_setsMany 17 = .ok (.return_, 1) := by decide +kernel
theorem dX10_runsOff_0 : decode cX10_runsOff 0 = .ok (.aload_n 0, 1) := by decide +kernel
theorem dX10_runsOff_1 : decode cX10_runsOff 1 = .ok (.getfield 9, 3) := by decide +kernel
theorem dX10_runsOff_4 : decode cX10_runsOff 4 = .ok (.iload_n 1, 1) := by decide +kernel
theorem dX10_runsOff_5 : decode cX10_runsOff 5 = .ok (.bipush 6, 2) := by decide +kernel
theorem dX10_runsOff_7 : decode cX10_runsOff 7 = .ok (.iadd, 1) := by decide +kernel
theorem dX10_runsOff_8 : decode cX10_runsOff 8 = .ok (.bipush 86, 2) := by decide +kernel
theorem dX10_runsOff_10 : decode cX10_runsOff 10 = .ok (.iload_n 2, 1) := by decide +kernel
theorem dX10_runsOff_11 : decode cX10_runsOff 11 = .ok (.imul, 1) := by decide +kernel
theorem dX10_runsOff_12 : decode cX10_runsOff 12 = .ok (.iadd, 1) := by decide +kernel
theorem dX10_runsOff_13 : decode cX10_runsOff 13 = .ok (.iconst 1, 1) := by decide +kernel
theorem dX10_runsOff_14 : decode cX10_runsOff 14 = .ok (.iadd, 1) := by decide +kernel
theorem dX10_runsOff_15 : decode cX10_runsOff 15 = .ok (.dup2, 1) := by decide +kernel
theorem dX10_runsOff_16 : decode cX10_runsOff 16 = .ok (.iaload, 1) := by decide +kernel
theorem dX10_runsOff_17 : decode cX10_runsOff 17 = .ok (.iload_n 3, 1) := by decide +kernel
theorem dX10_runsOff_18 : decode cX10_runsOff 18 = .ok (.iadd, 1) := by decide +kernel
theorem dX10_runsOff_19 : decode cX10_runsOff 19 = .ok (.iastore, 1) := by decide +kernel
theorem dX10_runsOff_20 : decode cX10_runsOff 20 = .ok (.return_, 1) := by decide +kernel
theorem dX10_of_0 : decode cX10_of 0 = .ok (.aload_n 0, 1) := by decide +kernel
theorem dX10_of_1 : decode cX10_of 1 = .ok (.getfield 9, 3) := by decide +kernel
theorem dX10_of_4 : decode cX10_of 4 = .ok (.iload_n 1, 1) := by decide +kernel
theorem dX10_of_5 : decode cX10_of 5 = .ok (.iload_n 2, 1) := by decide +kernel
theorem dX10_of_6 : decode cX10_of 6 = .ok (.iload_n 3, 1) := by decide +kernel
theorem dX10_of_7 : decode cX10_of 7 = .ok (.invokestatic 113, 3) := by decide +kernel
theorem dX10_of_10 : decode cX10_of 10 = .ok (.iload 4, 2) := by decide +kernel
theorem dX10_of_12 : decode cX10_of 12 = .ok (.iadd, 1) := by decide +kernel
theorem dX10_of_13 : decode cX10_of 13 = .ok (.iaload, 1) := by decide +kernel
theorem dX10_of_14 : decode cX10_of 14 = .ok (.ireturn, 1) := by decide +kernel
theorem dX10_sets_0 : decode cX10_sets 0 = .ok (.aload_n 0, 1) := by decide +kernel
theorem dX10_sets_1 : decode cX10_sets 1 = .ok (.getfield 9, 3) := by decide +kernel
theorem dX10_sets_4 : decode cX10_sets 4 = .ok (.iload_n 1, 1) := by decide +kernel
theorem dX10_sets_5 : decode cX10_sets 5 = .ok (.iload_n 2, 1) := by decide +kernel
theorem dX10_sets_6 : decode cX10_sets 6 = .ok (.iload_n 3, 1) := by decide +kernel
theorem dX10_sets_7 : decode cX10_sets 7 = .ok (.invokestatic 113, 3) := by decide +kernel
theorem dX10_sets_10 : decode cX10_sets 10 = .ok (.iload 4, 2) := by decide +kernel
theorem dX10_sets_12 : decode cX10_sets 12 = .ok (.iadd, 1) := by decide +kernel
theorem dX10_sets_13 : decode cX10_sets 13 = .ok (.iload 5, 2) := by decide +kernel
theorem dX10_sets_15 : decode cX10_sets 15 = .ok (.iastore, 1) := by decide +kernel
theorem dX10_sets_16 : decode cX10_sets 16 = .ok (.return_, 1) := by decide +kernel
theorem dX10_weight_0 : decode cX10_weight 0 = .ok (.aload_n 0, 1) := by decide +kernel
theorem dX10_weight_1 : decode cX10_weight 1 = .ok (.iload_n 1, 1) := by decide +kernel
theorem dX10_weight_2 : decode cX10_weight 2 = .ok (.iload_n 2, 1) := by decide +kernel
theorem dX10_weight_3 : decode cX10_weight 3 = .ok (.iload_n 3, 1) := by decide +kernel
theorem dX10_weight_4 : decode cX10_weight 4 = .ok (.iconst 1, 1) := by decide +kernel
theorem dX10_weight_5 : decode cX10_weight 5 = .ok (.invokevirtual 117, 3) := by decide +kernel
theorem dX10_weight_8 : decode cX10_weight 8 = .ok (.aload_n 0, 1) := by decide +kernel
theorem dX10_weight_9 : decode cX10_weight 9 = .ok (.iload_n 1, 1) := by decide +kernel
theorem dX10_weight_10 : decode cX10_weight 10 = .ok (.iload_n 2, 1) := by decide +kernel
theorem dX10_weight_11 : decode cX10_weight 11 = .ok (.iload_n 3, 1) := by decide +kernel
theorem dX10_weight_12 : decode cX10_weight 12 = .ok (.iconst 2, 1) := by decide +kernel
theorem dX10_weight_13 : decode cX10_weight 13 = .ok (.invokevirtual 117, 3) := by decide +kernel
theorem dX10_weight_16 : decode cX10_weight 16 = .ok (.iadd, 1) := by decide +kernel
theorem dX10_weight_17 : decode cX10_weight 17 = .ok (.ireturn, 1) := by decide +kernel
theorem dX10_above_8 : decode cX10_above 8 = .ok (.iload 5, 2) := by decide +kernel
theorem dX10_above_10 : decode cX10_above 10 = .ok (.aload_n 0, 1) := by decide +kernel
theorem dX10_above_11 : decode cX10_above 11 = .ok (.iload_n 1, 1) := by decide +kernel
theorem dX10_above_12 : decode cX10_above 12 = .ok (.iload_n 2, 1) := by decide +kernel
theorem dX10_above_13 : decode cX10_above 13 = .ok (.invokevirtual 121, 3) := by decide +kernel
theorem dX10_above_16 : decode cX10_above 16 = .ok (.if_icmp .ge 22, 3) := by decide +kernel
theorem dX10_above_38 : decode cX10_above 38 = .ok (.iload 4, 2) := by decide +kernel
theorem dX10_above_40 : decode cX10_above 40 = .ok (.ireturn, 1) := by decide +kernel
theorem dX10_above_19 : decode cX10_above 19 = .ok (.iload 4, 2) := by decide +kernel
theorem dX10_above_21 : decode cX10_above 21 = .ok (.aload_n 0, 1) := by decide +kernel
theorem dX10_above_22 : decode cX10_above 22 = .ok (.iload_n 1, 1) := by decide +kernel
theorem dX10_above_23 : decode cX10_above 23 = .ok (.iload_n 2, 1) := by decide +kernel
theorem dX10_above_24 : decode cX10_above 24 = .ok (.iload 5, 2) := by decide +kernel
theorem dX10_above_26 : decode cX10_above 26 = .ok (.invokevirtual 125, 3) := by decide +kernel
theorem dX10_above_29 : decode cX10_above 29 = .ok (.iadd, 1) := by decide +kernel
theorem dX10_above_30 : decode cX10_above 30 = .ok (.istore 4, 2) := by decide +kernel
theorem dX10_above_32 : decode cX10_above 32 = .ok (.iinc 5 1, 3) := by decide +kernel
theorem dX10_above_35 : decode cX10_above 35 = .ok (.goto (-27), 3) := by decide +kernel
theorem dX10_above_0 : decode cX10_above 0 = .ok (.iconst 0, 1) := by decide +kernel
theorem dX10_above_1 : decode cX10_above 1 = .ok (.istore 4, 2) := by decide +kernel
theorem dX10_above_3 : decode cX10_above 3 = .ok (.iload_n 3, 1) := by decide +kernel
theorem dX10_above_4 : decode cX10_above 4 = .ok (.iconst 1, 1) := by decide +kernel
theorem dX10_above_5 : decode cX10_above 5 = .ok (.iadd, 1) := by decide +kernel
theorem dX10_above_6 : decode cX10_above 6 = .ok (.istore 5, 2) := by decide +kernel
theorem dX10_sum_6 : decode cX10_sum 6 = .ok (.iload 5, 2) := by decide +kernel
theorem dX10_sum_8 : decode cX10_sum 8 = .ok (.aload_n 0, 1) := by decide +kernel
theorem dX10_sum_9 : decode cX10_sum 9 = .ok (.iload_n 1, 1) := by decide +kernel
theorem dX10_sum_10 : decode cX10_sum 10 = .ok (.iload_n 2, 1) := by decide +kernel
theorem dX10_sum_11 : decode cX10_sum 11 = .ok (.invokevirtual 121, 3) := by decide +kernel
theorem dX10_sum_14 : decode cX10_sum 14 = .ok (.if_icmp .ge 23, 3) := by decide +kernel
theorem dX10_sum_37 : decode cX10_sum 37 = .ok (.iload 4, 2) := by decide +kernel
theorem dX10_sum_39 : decode cX10_sum 39 = .ok (.ireturn, 1) := by decide +kernel
theorem dX10_sum_17 : decode cX10_sum 17 = .ok (.iload 4, 2) := by decide +kernel
theorem dX10_sum_19 : decode cX10_sum 19 = .ok (.aload_n 0, 1) := by decide +kernel
theorem dX10_sum_20 : decode cX10_sum 20 = .ok (.iload_n 1, 1) := by decide +kernel
theorem dX10_sum_21 : decode cX10_sum 21 = .ok (.iload_n 2, 1) := by decide +kernel
theorem dX10_sum_22 : decode cX10_sum 22 = .ok (.iload 5, 2) := by decide +kernel
theorem dX10_sum_24 : decode cX10_sum 24 = .ok (.iload_n 3, 1) := by decide +kernel
theorem dX10_sum_25 : decode cX10_sum 25 = .ok (.invokevirtual 117, 3) := by decide +kernel
theorem dX10_sum_28 : decode cX10_sum 28 = .ok (.iadd, 1) := by decide +kernel
theorem dX10_sum_29 : decode cX10_sum 29 = .ok (.istore 4, 2) := by decide +kernel
theorem dX10_sum_31 : decode cX10_sum 31 = .ok (.iinc 5 1, 3) := by decide +kernel
theorem dX10_sum_34 : decode cX10_sum 34 = .ok (.goto (-28), 3) := by decide +kernel
theorem dX10_sum_0 : decode cX10_sum 0 = .ok (.iconst 0, 1) := by decide +kernel
theorem dX10_sum_1 : decode cX10_sum 1 = .ok (.istore 4, 2) := by decide +kernel
theorem dX10_sum_3 : decode cX10_sum 3 = .ok (.iconst 0, 1) := by decide +kernel
theorem dX10_sum_4 : decode cX10_sum 4 = .ok (.istore 5, 2) := by decide +kernel
theorem dX10_strength_0 : decode cX10_strength 0 = .ok (.aload_n 0, 1) := by decide +kernel
theorem dX10_strength_1 : decode cX10_strength 1 = .ok (.getfield 28, 3) := by decide +kernel
theorem dX10_strength_4 : decode cX10_strength 4 = .ok (.aload_n 0, 1) := by decide +kernel
theorem dX10_strength_5 : decode cX10_strength 5 = .ok (.iload_n 1, 1) := by decide +kernel
theorem dX10_strength_6 : decode cX10_strength 6 = .ok (.iload_n 2, 1) := by decide +kernel
theorem dX10_strength_7 : decode cX10_strength 7 = .ok (.iload_n 3, 1) := by decide +kernel
theorem dX10_strength_8 : decode cX10_strength 8 = .ok (.iconst 0, 1) := by decide +kernel
theorem dX10_strength_9 : decode cX10_strength 9 = .ok (.invokevirtual 117, 3) := by decide +kernel
theorem dX10_strength_12 : decode cX10_strength 12 = .ok (.iaload, 1) := by decide +kernel
theorem dX10_strength_13 : decode cX10_strength 13 = .ok (.aload_n 0, 1) := by decide +kernel
theorem dX10_strength_14 : decode cX10_strength 14 = .ok (.iload_n 1, 1) := by decide +kernel
theorem dX10_strength_15 : decode cX10_strength 15 = .ok (.iload_n 2, 1) := by decide +kernel
theorem dX10_strength_16 : decode cX10_strength 16 = .ok (.iload_n 3, 1) := by decide +kernel
theorem dX10_strength_17 : decode cX10_strength 17 = .ok (.invokevirtual 125, 3) := by decide +kernel
theorem dX10_strength_20 : decode cX10_strength 20 = .ok (.imul, 1) := by decide +kernel
theorem dX10_strength_21 : decode cX10_strength 21 = .ok (.bipush 10, 2) := by decide +kernel
theorem dX10_strength_23 : decode cX10_strength 23 = .ok (.imul, 1) := by decide +kernel
theorem dX10_strength_24 : decode cX10_strength 24 = .ok (.aload_n 0, 1) := by decide +kernel
theorem dX10_strength_25 : decode cX10_strength 25 = .ok (.iload_n 1, 1) := by decide +kernel
theorem dX10_strength_26 : decode cX10_strength 26 = .ok (.iload_n 2, 1) := by decide +kernel
theorem dX10_strength_27 : decode cX10_strength 27 = .ok (.iload_n 3, 1) := by decide +kernel
theorem dX10_strength_28 : decode cX10_strength 28 = .ok (.iconst 3, 1) := by decide +kernel
theorem dX10_strength_29 : decode cX10_strength 29 = .ok (.invokevirtual 117, 3) := by decide +kernel
theorem dX10_strength_32 : decode cX10_strength 32 = .ok (.idiv, 1) := by decide +kernel
theorem dX10_strength_33 : decode cX10_strength 33 = .ok (.istore 4, 2) := by decide +kernel
theorem dX10_strength_35 : decode cX10_strength 35 = .ok (.aload_n 0, 1) := by decide +kernel
theorem dX10_strength_36 : decode cX10_strength 36 = .ok (.iload_n 1, 1) := by decide +kernel
theorem dX10_strength_37 : decode cX10_strength 37 = .ok (.iload_n 2, 1) := by decide +kernel
theorem dX10_strength_38 : decode cX10_strength 38 = .ok (.iload_n 3, 1) := by decide +kernel
theorem dX10_strength_39 : decode cX10_strength 39 = .ok (.iconst 2, 1) := by decide +kernel
theorem dX10_strength_40 : decode cX10_strength 40 = .ok (.invokevirtual 117, 3) := by decide +kernel
theorem dX10_strength_43 : decode cX10_strength 43 = .ok (.bipush 100, 2) := by decide +kernel
theorem dX10_strength_45 : decode cX10_strength 45 = .ok (.imul, 1) := by decide +kernel
theorem dX10_strength_46 : decode cX10_strength 46 = .ok (.iconst 3, 1) := by decide +kernel
theorem dX10_strength_47 : decode cX10_strength 47 = .ok (.aload_n 0, 1) := by decide +kernel
theorem dX10_strength_48 : decode cX10_strength 48 = .ok (.iload_n 1, 1) := by decide +kernel
theorem dX10_strength_49 : decode cX10_strength 49 = .ok (.iload_n 2, 1) := by decide +kernel
theorem dX10_strength_50 : decode cX10_strength 50 = .ok (.iload_n 3, 1) := by decide +kernel
theorem dX10_strength_51 : decode cX10_strength 51 = .ok (.iconst 1, 1) := by decide +kernel
theorem dX10_strength_52 : decode cX10_strength 52 = .ok (.invokevirtual 117, 3) := by decide +kernel
theorem dX10_strength_55 : decode cX10_strength 55 = .ok (.imul, 1) := by decide +kernel
theorem dX10_strength_56 : decode cX10_strength 56 = .ok (.if_icmp .lt 10, 3) := by decide +kernel
theorem dX10_strength_66 : decode cX10_strength 66 = .ok (.iload 4, 2) := by decide +kernel
theorem dX10_strength_68 : decode cX10_strength 68 = .ok (.ireturn, 1) := by decide +kernel
theorem dX10_strength_59 : decode cX10_strength 59 = .ok (.iload 4, 2) := by decide +kernel
theorem dX10_strength_61 : decode cX10_strength 61 = .ok (.iconst 2, 1) := by decide +kernel
theorem dX10_strength_62 : decode cX10_strength 62 = .ok (.idiv, 1) := by decide +kernel
theorem dX10_strength_63 : decode cX10_strength 63 = .ok (.goto 5, 3) := by decide +kernel
theorem dX10_burden_0 : decode cX10_burden 0 = .ok (.aload_n 0, 1) := by decide +kernel
theorem dX10_burden_1 : decode cX10_burden 1 = .ok (.iload_n 1, 1) := by decide +kernel
theorem dX10_burden_2 : decode cX10_burden 2 = .ok (.iload_n 2, 1) := by decide +kernel
theorem dX10_burden_3 : decode cX10_burden 3 = .ok (.iload_n 3, 1) := by decide +kernel
theorem dX10_burden_4 : decode cX10_burden 4 = .ok (.invokevirtual 180, 3) := by decide +kernel
theorem dX10_burden_7 : decode cX10_burden 7 = .ok (.iload 4, 2) := by decide +kernel
theorem dX10_burden_9 : decode cX10_burden 9 = .ok (.iadd, 1) := by decide +kernel
theorem dX10_burden_10 : decode cX10_burden 10 = .ok (.iload 5, 2) := by decide +kernel
theorem dX10_burden_12 : decode cX10_burden 12 = .ok (.imul, 1) := by decide +kernel
theorem dX10_burden_13 : decode cX10_burden 13 = .ok (.bipush 100, 2) := by decide +kernel
theorem dX10_burden_15 : decode cX10_burden 15 = .ok (.idiv, 1) := by decide +kernel
theorem dX10_burden_16 : decode cX10_burden 16 = .ok (.ireturn, 1) := by decide +kernel
theorem dX10_ratio_0 : decode cX10_ratio 0 = .ok (.aload_n 0, 1) := by decide +kernel
theorem dX10_ratio_1 : decode cX10_ratio 1 = .ok (.iload_n 1, 1) := by decide +kernel
theorem dX10_ratio_2 : decode cX10_ratio 2 = .ok (.iload_n 2, 1) := by decide +kernel
theorem dX10_ratio_3 : decode cX10_ratio 3 = .ok (.iload_n 3, 1) := by decide +kernel
theorem dX10_ratio_4 : decode cX10_ratio 4 = .ok (.iload 4, 2) := by decide +kernel
theorem dX10_ratio_6 : decode cX10_ratio 6 = .ok (.iload 5, 2) := by decide +kernel
theorem dX10_ratio_8 : decode cX10_ratio 8 = .ok (.invokevirtual 222, 3) := by decide +kernel
theorem dX10_ratio_11 : decode cX10_ratio 11 = .ok (.istore 6, 2) := by decide +kernel
theorem dX10_ratio_13 : decode cX10_ratio 13 = .ok (.iload 6, 2) := by decide +kernel
theorem dX10_ratio_15 : decode cX10_ratio 15 = .ok (.ifCond .ne 9, 3) := by decide +kernel
theorem dX10_ratio_24 : decode cX10_ratio 24 = .ok (.sipush 9999, 3) := by decide +kernel
theorem dX10_ratio_27 : decode cX10_ratio 27 = .ok (.bipush 100, 2) := by decide +kernel
theorem dX10_ratio_29 : decode cX10_ratio 29 = .ok (.aload_n 0, 1) := by decide +kernel
theorem dX10_ratio_30 : decode cX10_ratio 30 = .ok (.iload_n 1, 1) := by decide +kernel
theorem dX10_ratio_31 : decode cX10_ratio 31 = .ok (.iload_n 2, 1) := by decide +kernel
theorem dX10_ratio_32 : decode cX10_ratio 32 = .ok (.iload_n 3, 1) := by decide +kernel
theorem dX10_ratio_33 : decode cX10_ratio 33 = .ok (.invokevirtual 226, 3) := by decide +kernel
theorem dX10_ratio_36 : decode cX10_ratio 36 = .ok (.imul, 1) := by decide +kernel
theorem dX10_ratio_37 : decode cX10_ratio 37 = .ok (.iload 6, 2) := by decide +kernel
theorem dX10_ratio_39 : decode cX10_ratio 39 = .ok (.idiv, 1) := by decide +kernel
theorem dX10_ratio_40 : decode cX10_ratio 40 = .ok (.invokestatic 143, 3) := by decide +kernel
theorem dX10_ratio_43 : decode cX10_ratio 43 = .ok (.ireturn, 1) := by decide +kernel
theorem dX10_ratio_18 : decode cX10_ratio 18 = .ok (.sipush 9999, 3) := by decide +kernel
theorem dX10_ratio_21 : decode cX10_ratio 21 = .ok (.goto 22, 3) := by decide +kernel
theorem dX10_weakestBy_11 : decode cX10_weakestBy 11 = .ok (.iload 7, 2) := by decide +kernel
theorem dX10_weakestBy_13 : decode cX10_weakestBy 13 = .ok (.aload_n 0, 1) := by decide +kernel
theorem dX10_weakestBy_14 : decode cX10_weakestBy 14 = .ok (.iload_n 1, 1) := by decide +kernel
theorem dX10_weakestBy_15 : decode cX10_weakestBy 15 = .ok (.iload_n 2, 1) := by decide +kernel
theorem dX10_weakestBy_16 : decode cX10_weakestBy 16 = .ok (.invokevirtual 121, 3) := by decide +kernel
theorem dX10_weakestBy_19 : decode cX10_weakestBy 19 = .ok (.if_icmp .ge 40, 3) := by decide +kernel
theorem dX10_weakestBy_59 : decode cX10_weakestBy 59 = .ok (.iload 5, 2) := by decide +kernel
theorem dX10_weakestBy_61 : decode cX10_weakestBy 61 = .ok (.ireturn, 1) := by decide +kernel
theorem dX10_weakestBy_22 : decode cX10_weakestBy 22 = .ok (.aload_n 0, 1) := by decide +kernel
theorem dX10_weakestBy_23 : decode cX10_weakestBy 23 = .ok (.iload_n 1, 1) := by decide +kernel
theorem dX10_weakestBy_24 : decode cX10_weakestBy 24 = .ok (.iload_n 2, 1) := by decide +kernel
theorem dX10_weakestBy_25 : decode cX10_weakestBy 25 = .ok (.iload 7, 2) := by decide +kernel
theorem dX10_weakestBy_27 : decode cX10_weakestBy 27 = .ok (.iload_n 3, 1) := by decide +kernel
theorem dX10_weakestBy_28 : decode cX10_weakestBy 28 = .ok (.iload 4, 2) := by decide +kernel
theorem dX10_weakestBy_30 : decode cX10_weakestBy 30 = .ok (.invokevirtual 229, 3) := by decide +kernel
theorem dX10_weakestBy_33 : decode cX10_weakestBy 33 = .ok (.istore 8, 2) := by decide +kernel
theorem dX10_weakestBy_35 : decode cX10_weakestBy 35 = .ok (.iload 8, 2) := by decide +kernel
theorem dX10_weakestBy_37 : decode cX10_weakestBy 37 = .ok (.iload 6, 2) := by decide +kernel
theorem dX10_weakestBy_39 : decode cX10_weakestBy 39 = .ok (.if_icmp .lt 6, 3) := by decide +kernel
theorem dX10_weakestBy_45 : decode cX10_weakestBy 45 = .ok (.iload 7, 2) := by decide +kernel
theorem dX10_weakestBy_47 : decode cX10_weakestBy 47 = .ok (.istore 5, 2) := by decide +kernel
theorem dX10_weakestBy_49 : decode cX10_weakestBy 49 = .ok (.iload 8, 2) := by decide +kernel
theorem dX10_weakestBy_51 : decode cX10_weakestBy 51 = .ok (.istore 6, 2) := by decide +kernel
theorem dX10_weakestBy_53 : decode cX10_weakestBy 53 = .ok (.iinc 7 1, 3) := by decide +kernel
theorem dX10_weakestBy_56 : decode cX10_weakestBy 56 = .ok (.goto (-45), 3) := by decide +kernel
theorem dX10_weakestBy_42 : decode cX10_weakestBy 42 = .ok (.goto 11, 3) := by decide +kernel
theorem dX10_weakestBy_0 : decode cX10_weakestBy 0 = .ok (.iconst (-1), 1) := by decide +kernel
theorem dX10_weakestBy_1 : decode cX10_weakestBy 1 = .ok (.istore 5, 2) := by decide +kernel
theorem dX10_weakestBy_3 : decode cX10_weakestBy 3 = .ok (.sipush 10000, 3) := by decide +kernel
theorem dX10_weakestBy_6 : decode cX10_weakestBy 6 = .ok (.istore 6, 2) := by decide +kernel
theorem dX10_weakestBy_8 : decode cX10_weakestBy 8 = .ok (.iconst 0, 1) := by decide +kernel
theorem dX10_weakestBy_9 : decode cX10_weakestBy 9 = .ok (.istore 7, 2) := by decide +kernel
theorem dX10_leastRatioBy_0 : decode cX10_leastRatioBy 0 = .ok (.aload_n 0, 1) := by decide +kernel
theorem dX10_leastRatioBy_1 : decode cX10_leastRatioBy 1 = .ok (.iload_n 1, 1) := by decide +kernel
theorem dX10_leastRatioBy_2 : decode cX10_leastRatioBy 2 = .ok (.iload_n 2, 1) := by decide +kernel
theorem dX10_leastRatioBy_3 : decode cX10_leastRatioBy 3 = .ok (.iload_n 3, 1) := by decide +kernel
theorem dX10_leastRatioBy_4 : decode cX10_leastRatioBy 4 = .ok (.iload 4, 2) := by decide +kernel
theorem dX10_leastRatioBy_6 : decode cX10_leastRatioBy 6 = .ok (.invokevirtual 232, 3) := by decide +kernel
theorem dX10_leastRatioBy_9 : decode cX10_leastRatioBy 9 = .ok (.istore 5, 2) := by decide +kernel
theorem dX10_leastRatioBy_11 : decode cX10_leastRatioBy 11 = .ok (.iload 5, 2) := by decide +kernel
theorem dX10_leastRatioBy_13 : decode cX10_leastRatioBy 13 = .ok (.iconst (-1), 1) := by decide +kernel
theorem dX10_leastRatioBy_14 : decode cX10_leastRatioBy 14 = .ok (.if_icmp .ne 9, 3) := by decide +kernel
theorem dX10_leastRatioBy_23 : decode cX10_leastRatioBy 23 = .ok (.aload_n 0, 1) := by decide +kernel
theorem dX10_leastRatioBy_24 : decode cX10_leastRatioBy 24 = .ok (.iload_n 1, 1) := by decide +kernel
theorem dX10_leastRatioBy_25 : decode cX10_leastRatioBy 25 = .ok (.iload_n 2, 1) := by decide +kernel
theorem dX10_leastRatioBy_26 : decode cX10_leastRatioBy 26 = .ok (.iload 5, 2) := by decide +kernel
theorem dX10_leastRatioBy_28 : decode cX10_leastRatioBy 28 = .ok (.iload_n 3, 1) := by decide +kernel
theorem dX10_leastRatioBy_29 : decode cX10_leastRatioBy 29 = .ok (.iload 4, 2) := by decide +kernel
theorem dX10_leastRatioBy_31 : decode cX10_leastRatioBy 31 = .ok (.invokevirtual 229, 3) := by decide +kernel
theorem dX10_leastRatioBy_34 : decode cX10_leastRatioBy 34 = .ok (.ireturn, 1) := by decide +kernel
theorem dX10_leastRatioBy_17 : decode cX10_leastRatioBy 17 = .ok (.sipush 9999, 3) := by decide +kernel
theorem dX10_leastRatioBy_20 : decode cX10_leastRatioBy 20 = .ok (.goto 14, 3) := by decide +kernel
theorem dX10_weakest_0 : decode cX10_weakest 0 = .ok (.aload_n 0, 1) := by decide +kernel
theorem dX10_weakest_1 : decode cX10_weakest 1 = .ok (.iload_n 1, 1) := by decide +kernel
theorem dX10_weakest_2 : decode cX10_weakest 2 = .ok (.iload_n 2, 1) := by decide +kernel
theorem dX10_weakest_3 : decode cX10_weakest 3 = .ok (.iconst 0, 1) := by decide +kernel
theorem dX10_weakest_4 : decode cX10_weakest 4 = .ok (.aload_n 0, 1) := by decide +kernel
theorem dX10_weakest_5 : decode cX10_weakest 5 = .ok (.getfield 13, 3) := by decide +kernel
theorem dX10_weakest_8 : decode cX10_weakest 8 = .ok (.iload_n 2, 1) := by decide +kernel
theorem dX10_weakest_9 : decode cX10_weakest 9 = .ok (.iaload, 1) := by decide +kernel
theorem dX10_weakest_10 : decode cX10_weakest 10 = .ok (.invokevirtual 232, 3) := by decide +kernel
theorem dX10_weakest_13 : decode cX10_weakest 13 = .ok (.ireturn, 1) := by decide +kernel
theorem dX10_leastRatio_0 : decode cX10_leastRatio 0 = .ok (.aload_n 0, 1) := by decide +kernel
theorem dX10_leastRatio_1 : decode cX10_leastRatio 1 = .ok (.iload_n 1, 1) := by decide +kernel
theorem dX10_leastRatio_2 : decode cX10_leastRatio 2 = .ok (.iload_n 2, 1) := by decide +kernel
theorem dX10_leastRatio_3 : decode cX10_leastRatio 3 = .ok (.iconst 0, 1) := by decide +kernel
theorem dX10_leastRatio_4 : decode cX10_leastRatio 4 = .ok (.aload_n 0, 1) := by decide +kernel
theorem dX10_leastRatio_5 : decode cX10_leastRatio 5 = .ok (.getfield 13, 3) := by decide +kernel
theorem dX10_leastRatio_8 : decode cX10_leastRatio 8 = .ok (.iload_n 2, 1) := by decide +kernel
theorem dX10_leastRatio_9 : decode cX10_leastRatio 9 = .ok (.iaload, 1) := by decide +kernel
theorem dX10_leastRatio_10 : decode cX10_leastRatio 10 = .ok (.invokevirtual 235, 3) := by decide +kernel
theorem dX10_leastRatio_13 : decode cX10_leastRatio 13 = .ok (.ireturn, 1) := by decide +kernel
theorem dX10_isUnstable_0 : decode cX10_isUnstable 0 = .ok (.aload_n 0, 1) := by decide +kernel
theorem dX10_isUnstable_1 : decode cX10_isUnstable 1 = .ok (.iload_n 1, 1) := by decide +kernel
theorem dX10_isUnstable_2 : decode cX10_isUnstable 2 = .ok (.iload_n 2, 1) := by decide +kernel
theorem dX10_isUnstable_3 : decode cX10_isUnstable 3 = .ok (.invokevirtual 238, 3) := by decide +kernel
theorem dX10_isUnstable_6 : decode cX10_isUnstable 6 = .ok (.bipush 100, 2) := by decide +kernel
theorem dX10_isUnstable_8 : decode cX10_isUnstable 8 = .ok (.if_icmp .ge 7, 3) := by decide +kernel
theorem dX10_isUnstable_15 : decode cX10_isUnstable 15 = .ok (.iconst 0, 1) := by decide +kernel
theorem dX10_isUnstable_16 : decode cX10_isUnstable 16 = .ok (.ireturn, 1) := by decide +kernel
theorem dX10_isUnstable_11 : decode cX10_isUnstable 11 = .ok (.iconst 1, 1) := by decide +kernel
theorem dX10_isUnstable_12 : decode cX10_isUnstable 12 = .ok (.goto 4, 3) := by decide +kernel
theorem dX10_grade_0 : decode cX10_grade 0 = .ok (.iload_n 3, 1) := by decide +kernel
theorem dX10_grade_1 : decode cX10_grade 1 = .ok (.aload_n 0, 1) := by decide +kernel
theorem dX10_grade_2 : decode cX10_grade 2 = .ok (.iload_n 1, 1) := by decide +kernel
theorem dX10_grade_3 : decode cX10_grade 3 = .ok (.iload_n 2, 1) := by decide +kernel
theorem dX10_grade_4 : decode cX10_grade 4 = .ok (.invokevirtual 121, 3) := by decide +kernel
theorem dX10_grade_7 : decode cX10_grade 7 = .ok (.iconst 1, 1) := by decide +kernel
theorem dX10_grade_8 : decode cX10_grade 8 = .ok (.isub, 1) := by decide +kernel
theorem dX10_grade_9 : decode cX10_grade 9 = .ok (.if_icmp .ne 12, 3) := by decide +kernel
theorem dX10_grade_21 : decode cX10_grade 21 = .ok (.aload_n 0, 1) := by decide +kernel
theorem dX10_grade_22 : decode cX10_grade 22 = .ok (.iload_n 1, 1) := by decide +kernel
theorem dX10_grade_23 : decode cX10_grade 23 = .ok (.iload_n 2, 1) := by decide +kernel
theorem dX10_grade_24 : decode cX10_grade 24 = .ok (.iload_n 3, 1) := by decide +kernel
theorem dX10_grade_25 : decode cX10_grade 25 = .ok (.iconst 1, 1) := by decide +kernel
theorem dX10_grade_26 : decode cX10_grade 26 = .ok (.iadd, 1) := by decide +kernel
theorem dX10_grade_27 : decode cX10_grade 27 = .ok (.iconst 4, 1) := by decide +kernel
theorem dX10_grade_28 : decode cX10_grade 28 = .ok (.invokevirtual 117, 3) := by decide +kernel
theorem dX10_grade_31 : decode cX10_grade 31 = .ok (.istore 5, 2) := by decide +kernel
theorem dX10_grade_33 : decode cX10_grade 33 = .ok (.iload_n 3, 1) := by decide +kernel
theorem dX10_grade_34 : decode cX10_grade 34 = .ok (.ifCond .ne 7, 3) := by decide +kernel
theorem dX10_grade_41 : decode cX10_grade 41 = .ok (.aload_n 0, 1) := by decide +kernel
theorem dX10_grade_42 : decode cX10_grade 42 = .ok (.iload_n 1, 1) := by decide +kernel
theorem dX10_grade_43 : decode cX10_grade 43 = .ok (.iload_n 2, 1) := by decide +kernel
theorem dX10_grade_44 : decode cX10_grade 44 = .ok (.iload_n 3, 1) := by decide +kernel
theorem dX10_grade_45 : decode cX10_grade 45 = .ok (.iconst 1, 1) := by decide +kernel
theorem dX10_grade_46 : decode cX10_grade 46 = .ok (.isub, 1) := by decide +kernel
theorem dX10_grade_47 : decode cX10_grade 47 = .ok (.iconst 4, 1) := by decide +kernel
theorem dX10_grade_48 : decode cX10_grade 48 = .ok (.invokevirtual 117, 3) := by decide +kernel
theorem dX10_grade_51 : decode cX10_grade 51 = .ok (.istore 6, 2) := by decide +kernel
theorem dX10_grade_53 : decode cX10_grade 53 = .ok (.iload 5, 2) := by decide +kernel
theorem dX10_grade_55 : decode cX10_grade 55 = .ok (.iload 6, 2) := by decide +kernel
theorem dX10_grade_57 : decode cX10_grade 57 = .ok (.isub, 1) := by decide +kernel
theorem dX10_grade_58 : decode cX10_grade 58 = .ok (.invokestatic 186, 3) := by decide +kernel
theorem dX10_grade_61 : decode cX10_grade 61 = .ok (.bipush 10, 2) := by decide +kernel
theorem dX10_grade_63 : decode cX10_grade 63 = .ok (.imul, 1) := by decide +kernel
theorem dX10_grade_64 : decode cX10_grade 64 = .ok (.aload_n 0, 1) := by decide +kernel
theorem dX10_grade_65 : decode cX10_grade 65 = .ok (.iload_n 1, 1) := by decide +kernel
theorem dX10_grade_66 : decode cX10_grade 66 = .ok (.iload_n 2, 1) := by decide +kernel
theorem dX10_grade_67 : decode cX10_grade 67 = .ok (.iload_n 3, 1) := by decide +kernel
theorem dX10_grade_68 : decode cX10_grade 68 = .ok (.iconst 3, 1) := by decide +kernel
theorem dX10_grade_69 : decode cX10_grade 69 = .ok (.invokevirtual 117, 3) := by decide +kernel
theorem dX10_grade_72 : decode cX10_grade 72 = .ok (.idiv, 1) := by decide +kernel
theorem dX10_grade_73 : decode cX10_grade 73 = .ok (.ireturn, 1) := by decide +kernel
theorem dX10_grade_37 : decode cX10_grade 37 = .ok (.iconst 0, 1) := by decide +kernel
theorem dX10_grade_38 : decode cX10_grade 38 = .ok (.goto 13, 3) := by decide +kernel
theorem dX10_grade_12 : decode cX10_grade 12 = .ok (.iload 4, 2) := by decide +kernel
theorem dX10_grade_14 : decode cX10_grade 14 = .ok (.iconst 0, 1) := by decide +kernel
theorem dX10_grade_15 : decode cX10_grade 15 = .ok (.invokestatic 143, 3) := by decide +kernel
theorem dX10_grade_18 : decode cX10_grade 18 = .ok (.goto 13, 3) := by decide +kernel
theorem dX10_kindThen_0 : decode cX10_kindThen 0 = .ok (.aload_n 0, 1) := by decide +kernel
theorem dX10_kindThen_1 : decode cX10_kindThen 1 = .ok (.iload_n 1, 1) := by decide +kernel
theorem dX10_kindThen_2 : decode cX10_kindThen 2 = .ok (.iload_n 2, 1) := by decide +kernel
theorem dX10_kindThen_3 : decode cX10_kindThen 3 = .ok (.iload_n 3, 1) := by decide +kernel
theorem dX10_kindThen_4 : decode cX10_kindThen 4 = .ok (.iconst 0, 1) := by decide +kernel
theorem dX10_kindThen_5 : decode cX10_kindThen 5 = .ok (.invokevirtual 117, 3) := by decide +kernel
theorem dX10_kindThen_8 : decode cX10_kindThen 8 = .ok (.istore 5, 2) := by decide +kernel
theorem dX10_kindThen_10 : decode cX10_kindThen 10 = .ok (.iload 5, 2) := by decide +kernel
theorem dX10_kindThen_12 : decode cX10_kindThen 12 = .ok (.iconst 3, 1) := by decide +kernel
theorem dX10_kindThen_13 : decode cX10_kindThen 13 = .ok (.if_icmp .ne 6, 3) := by decide +kernel
theorem dX10_kindThen_19 : decode cX10_kindThen 19 = .ok (.aload_n 0, 1) := by decide +kernel
theorem dX10_kindThen_20 : decode cX10_kindThen 20 = .ok (.iload_n 1, 1) := by decide +kernel
theorem dX10_kindThen_21 : decode cX10_kindThen 21 = .ok (.iload_n 2, 1) := by decide +kernel
theorem dX10_kindThen_22 : decode cX10_kindThen 22 = .ok (.iload_n 3, 1) := by decide +kernel
theorem dX10_kindThen_23 : decode cX10_kindThen 23 = .ok (.iconst 2, 1) := by decide +kernel
theorem dX10_kindThen_24 : decode cX10_kindThen 24 = .ok (.invokevirtual 117, 3) := by decide +kernel
theorem dX10_kindThen_27 : decode cX10_kindThen 27 = .ok (.ifCond .le 5, 3) := by decide +kernel
theorem dX10_kindThen_32 : decode cX10_kindThen 32 = .ok (.iload 5, 2) := by decide +kernel
theorem dX10_kindThen_34 : decode cX10_kindThen 34 = .ok (.iconst 4, 1) := by decide +kernel
theorem dX10_kindThen_35 : decode cX10_kindThen 35 = .ok (.if_icmp .ne 6, 3) := by decide +kernel
theorem dX10_kindThen_41 : decode cX10_kindThen 41 = .ok (.aload_n 0, 1) := by decide +kernel
theorem dX10_kindThen_42 : decode cX10_kindThen 42 = .ok (.iload_n 1, 1) := by decide +kernel
theorem dX10_kindThen_43 : decode cX10_kindThen 43 = .ok (.iload_n 2, 1) := by decide +kernel
theorem dX10_kindThen_44 : decode cX10_kindThen 44 = .ok (.iload_n 3, 1) := by decide +kernel
theorem dX10_kindThen_45 : decode cX10_kindThen 45 = .ok (.iload 4, 2) := by decide +kernel
theorem dX10_kindThen_47 : decode cX10_kindThen 47 = .ok (.invokevirtual 189, 3) := by decide +kernel
theorem dX10_kindThen_50 : decode cX10_kindThen 50 = .ok (.bipush 20, 2) := by decide +kernel
theorem dX10_kindThen_52 : decode cX10_kindThen 52 = .ok (.if_icmp .lt 5, 3) := by decide +kernel
theorem dX10_kindThen_57 : decode cX10_kindThen 57 = .ok (.aload_n 0, 1) := by decide +kernel
theorem dX10_kindThen_58 : decode cX10_kindThen 58 = .ok (.iload_n 1, 1) := by decide +kernel
theorem dX10_kindThen_59 : decode cX10_kindThen 59 = .ok (.iload_n 2, 1) := by decide +kernel
theorem dX10_kindThen_60 : decode cX10_kindThen 60 = .ok (.iload_n 3, 1) := by decide +kernel
theorem dX10_kindThen_61 : decode cX10_kindThen 61 = .ok (.iconst 5, 1) := by decide +kernel
theorem dX10_kindThen_62 : decode cX10_kindThen 62 = .ok (.invokevirtual 117, 3) := by decide +kernel
theorem dX10_kindThen_65 : decode cX10_kindThen 65 = .ok (.bipush 24, 2) := by decide +kernel
theorem dX10_kindThen_67 : decode cX10_kindThen 67 = .ok (.if_icmp .lt 7, 3) := by decide +kernel
theorem dX10_kindThen_74 : decode cX10_kindThen 74 = .ok (.iload 5, 2) := by decide +kernel
theorem dX10_kindThen_76 : decode cX10_kindThen 76 = .ok (.ireturn, 1) := by decide +kernel
theorem dX10_kindThen_70 : decode cX10_kindThen 70 = .ok (.iconst 1, 1) := by decide +kernel
theorem dX10_kindThen_71 : decode cX10_kindThen 71 = .ok (.goto 5, 3) := by decide +kernel
theorem dX10_kindThen_55 : decode cX10_kindThen 55 = .ok (.iconst 2, 1) := by decide +kernel
theorem dX10_kindThen_56 : decode cX10_kindThen 56 = .ok (.ireturn, 1) := by decide +kernel
theorem dX10_kindThen_38 : decode cX10_kindThen 38 = .ok (.iload 5, 2) := by decide +kernel
theorem dX10_kindThen_40 : decode cX10_kindThen 40 = .ok (.ireturn, 1) := by decide +kernel
theorem dX10_kindThen_30 : decode cX10_kindThen 30 = .ok (.iconst 1, 1) := by decide +kernel
theorem dX10_kindThen_31 : decode cX10_kindThen 31 = .ok (.ireturn, 1) := by decide +kernel
theorem dX10_kindThen_16 : decode cX10_kindThen 16 = .ok (.iload 5, 2) := by decide +kernel
theorem dX10_kindThen_18 : decode cX10_kindThen 18 = .ok (.ireturn, 1) := by decide +kernel
