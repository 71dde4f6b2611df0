-- decode rows of world
theorem dJ9_floorMod_7cf53_0 : decode cJ9_floorMod_7cf53 0 = .ok (.iload_n 0, 1) := by decide +kernel
theorem dJ9_floorMod_7cf53_1 : decode cJ9_floorMod_7cf53 1 = .ok (.iload_n 1, 1) := by decide +kernel
theorem dJ9_floorMod_7cf53_2 : decode cJ9_floorMod_7cf53 2 = .ok (.irem, 1) := by decide +kernel
theorem dJ9_floorMod_7cf53_3 : decode cJ9_floorMod_7cf53 3 = .ok (.istore_n 2, 1) := by decide +kernel
theorem dJ9_floorMod_7cf53_4 : decode cJ9_floorMod_7cf53 4 = .ok (.iload_n 0, 1) := by decide +kernel
theorem dJ9_floorMod_7cf53_5 : decode cJ9_floorMod_7cf53 5 = .ok (.iload_n 1, 1) := by decide +kernel
theorem dJ9_floorMod_7cf53_6 : decode cJ9_floorMod_7cf53 6 = .ok (.ixor, 1) := by decide +kernel
theorem dJ9_floorMod_7cf53_7 : decode cJ9_floorMod_7cf53 7 = .ok (.ifCond .ge 11, 3) := by decide +kernel
theorem dJ9_floorMod_7cf53_18 : decode cJ9_floorMod_7cf53 18 = .ok (.iload_n 2, 1) := by decide +kernel
theorem dJ9_floorMod_7cf53_19 : decode cJ9_floorMod_7cf53 19 = .ok (.ireturn, 1) := by decide +kernel
theorem dJ9_floorMod_7cf53_10 : decode cJ9_floorMod_7cf53 10 = .ok (.iload_n 2, 1) := by decide +kernel
theorem dJ9_floorMod_7cf53_11 : decode cJ9_floorMod_7cf53 11 = .ok (.ifCond .eq 7, 3) := by decide +kernel
theorem dJ9_floorMod_7cf53_14 : decode cJ9_floorMod_7cf53 14 = .ok (.iload_n 2, 1) := by decide +kernel
theorem dJ9_floorMod_7cf53_15 : decode cJ9_floorMod_7cf53 15 = .ok (.iload_n 1, 1) := by decide +kernel
theorem dJ9_floorMod_7cf53_16 : decode cJ9_floorMod_7cf53 16 = .ok (.iadd, 1) := by decide +kernel
theorem dJ9_floorMod_7cf53_17 : decode cJ9_floorMod_7cf53 17 = .ok (.ireturn, 1) := by decide +kernel
theorem dX5_airAt_0 : decode cX5_airAt 0 = .ok (.aload_n 0, 1) := by decide +kernel
theorem dX5_airAt_1 : decode cX5_airAt 1 = .ok (.getfield 15, 3) := by decide +kernel
theorem dX5_airAt_4 : decode cX5_airAt 4 = .ok (.ifCond .ne 10, 3) := by decide +kernel
theorem dX5_airAt_14 : decode cX5_airAt 14 = .ok (.aload_n 0, 1) := by decide +kernel
theorem dX5_airAt_15 : decode cX5_airAt 15 = .ok (.getfield 28, 3) := by decide +kernel
theorem dX5_airAt_18 : decode cX5_airAt 18 = .ok (.iload_n 1, 1) := by decide +kernel
theorem dX5_airAt_19 : decode cX5_airAt 19 = .ok (.aload_n 0, 1) := by decide +kernel
theorem dX5_airAt_20 : decode cX5_airAt 20 = .ok (.getfield 15, 3) := by decide +kernel
theorem dX5_airAt_23 : decode cX5_airAt 23 = .ok (.invokestatic 60, 3) := by decide +kernel
theorem dX5_airAt_26 : decode cX5_airAt 26 = .ok (.iaload, 1) := by decide +kernel
theorem dX5_airAt_27 : decode cX5_airAt 27 = .ok (.ireturn, 1) := by decide +kernel
theorem dX5_airAt_7 : decode cX5_airAt 7 = .ok (.aload_n 0, 1) := by decide +kernel
theorem dX5_airAt_8 : decode cX5_airAt 8 = .ok (.getfield 18, 3) := by decide +kernel
theorem dX5_airAt_11 : decode cX5_airAt 11 = .ok (.goto 16, 3) := by decide +kernel
theorem dX5_fallAt_0 : decode cX5_fallAt 0 = .ok (.aload_n 0, 1) := by decide +kernel
theorem dX5_fallAt_1 : decode cX5_fallAt 1 = .ok (.getfield 15, 3) := by decide +kernel
theorem dX5_fallAt_4 : decode cX5_fallAt 4 = .ok (.ifCond .ne 7, 3) := by decide +kernel
theorem dX5_fallAt_11 : decode cX5_fallAt 11 = .ok (.aload_n 0, 1) := by decide +kernel
theorem dX5_fallAt_12 : decode cX5_fallAt 12 = .ok (.getfield 31, 3) := by decide +kernel
theorem dX5_fallAt_15 : decode cX5_fallAt 15 = .ok (.iload_n 1, 1) := by decide +kernel
theorem dX5_fallAt_16 : decode cX5_fallAt 16 = .ok (.aload_n 0, 1) := by decide +kernel
theorem dX5_fallAt_17 : decode cX5_fallAt 17 = .ok (.getfield 15, 3) := by decide +kernel
theorem dX5_fallAt_20 : decode cX5_fallAt 20 = .ok (.invokestatic 60, 3) := by decide +kernel
theorem dX5_fallAt_23 : decode cX5_fallAt 23 = .ok (.iaload, 1) := by decide +kernel
theorem dX5_fallAt_24 : decode cX5_fallAt 24 = .ok (.ireturn, 1) := by decide +kernel
theorem dX5_fallAt_7 : decode cX5_fallAt 7 = .ok (.iconst 0, 1) := by decide +kernel
theorem dX5_fallAt_8 : decode cX5_fallAt 8 = .ok (.goto 16, 3) := by decide +kernel
theorem dX5_muchAt_0 : decode cX5_muchAt 0 = .ok (.aload_n 0, 1) := by decide +kernel
theorem dX5_muchAt_1 : decode cX5_muchAt 1 = .ok (.getfield 15, 3) := by decide +kernel
theorem dX5_muchAt_4 : decode cX5_muchAt 4 = .ok (.ifCond .ne 7, 3) := by decide +kernel
theorem dX5_muchAt_11 : decode cX5_muchAt 11 = .ok (.aload_n 0, 1) := by decide +kernel
theorem dX5_muchAt_12 : decode cX5_muchAt 12 = .ok (.getfield 34, 3) := by decide +kernel
theorem dX5_muchAt_15 : decode cX5_muchAt 15 = .ok (.iload_n 1, 1) := by decide +kernel
theorem dX5_muchAt_16 : decode cX5_muchAt 16 = .ok (.aload_n 0, 1) := by decide +kernel
theorem dX5_muchAt_17 : decode cX5_muchAt 17 = .ok (.getfield 15, 3) := by decide +kernel
theorem dX5_muchAt_20 : decode cX5_muchAt 20 = .ok (.invokestatic 60, 3) := by decide +kernel
theorem dX5_muchAt_23 : decode cX5_muchAt 23 = .ok (.iaload, 1) := by decide +kernel
theorem dX5_muchAt_24 : decode cX5_muchAt 24 = .ok (.ireturn, 1) := by decide +kernel
theorem dX5_muchAt_7 : decode cX5_muchAt 7 = .ok (.iconst 0, 1) := by decide +kernel
theorem dX5_muchAt_8 : decode cX5_muchAt 8 = .ok (.goto 16, 3) := by decide +kernel
theorem dX5_allSlopes_0 : decode cX5_allSlopes 0 = .ok (.iconst 1, 1) := by decide +kernel
theorem dX5_allSlopes_1 : decode cX5_allSlopes 1 = .ok (.aload_n 0, 1) := by decide +kernel
theorem dX5_allSlopes_2 : decode cX5_allSlopes 2 = .ok (.getfield 9, 3) := by decide +kernel
theorem dX5_allSlopes_5 : decode cX5_allSlopes 5 = .ok (.ishl, 1) := by decide +kernel
theorem dX5_allSlopes_6 : decode cX5_allSlopes 6 = .ok (.iconst 1, 1) := by decide +kernel
theorem dX5_allSlopes_7 : decode cX5_allSlopes 7 = .ok (.isub, 1) := by decide +kernel
theorem dX5_allSlopes_8 : decode cX5_allSlopes 8 = .ok (.ireturn, 1) := by decide +kernel
theorem dX8_layers_4 : decode cX8_layers 4 = .ok (.iload_n 2, 1) := by decide +kernel
theorem dX8_layers_5 : decode cX8_layers 5 = .ok (.aload_n 0, 1) := by decide +kernel
theorem dX8_layers_6 : decode cX8_layers 6 = .ok (.getfield 32, 3) := by decide +kernel
theorem dX8_layers_9 : decode cX8_layers 9 = .ok (.arraylength, 1) := by decide +kernel
theorem dX8_layers_10 : decode cX8_layers 10 = .ok (.if_icmp .ge 21, 3) := by decide +kernel
theorem dX8_layers_31 : decode cX8_layers 31 = .ok (.iload_n 1, 1) := by decide +kernel
theorem dX8_layers_32 : decode cX8_layers 32 = .ok (.ireturn, 1) := by decide +kernel
theorem dX8_layers_13 : decode cX8_layers 13 = .ok (.iload_n 1, 1) := by decide +kernel
theorem dX8_layers_14 : decode cX8_layers 14 = .ok (.aload_n 0, 1) := by decide +kernel
theorem dX8_layers_15 : decode cX8_layers 15 = .ok (.getfield 32, 3) := by decide +kernel
theorem dX8_layers_18 : decode cX8_layers 18 = .ok (.iload_n 2, 1) := by decide +kernel
theorem dX8_layers_19 : decode cX8_layers 19 = .ok (.aaload, 1) := by decide +kernel
theorem dX8_layers_20 : decode cX8_layers 20 = .ok (.getfield 44, 3) := by decide +kernel
theorem dX8_layers_23 : decode cX8_layers 23 = .ok (.iadd, 1) := by decide +kernel
theorem dX8_layers_24 : decode cX8_layers 24 = .ok (.istore_n 1, 1) := by decide +kernel
theorem dX8_layers_25 : decode cX8_layers 25 = .ok (.iinc 2 1, 3) := by decide +kernel
theorem dX8_layers_28 : decode cX8_layers 28 = .ok (.goto (-24), 3) := by decide +kernel
theorem dX8_layers_0 : decode cX8_layers 0 = .ok (.iconst 0, 1) := by decide +kernel
theorem dX8_layers_1 : decode cX8_layers 1 = .ok (.istore_n 1, 1) := by decide +kernel
theorem dX8_layers_2 : decode cX8_layers 2 = .ok (.iconst 0, 1) := by decide +kernel
theorem dX8_layers_3 : decode cX8_layers 3 = .ok (.istore_n 2, 1) := by decide +kernel
theorem dX8_runoff_4 : decode cX8_runoff 4 = .ok (.iload_n 2, 1) := by decide +kernel
theorem dX8_runoff_5 : decode cX8_runoff 5 = .ok (.aload_n 0, 1) := by decide +kernel
theorem dX8_runoff_6 : decode cX8_runoff 6 = .ok (.getfield 32, 3) := by decide +kernel
theorem dX8_runoff_9 : decode cX8_runoff 9 = .ok (.arraylength, 1) := by decide +kernel
theorem dX8_runoff_10 : decode cX8_runoff 10 = .ok (.if_icmp .ge 21, 3) := by decide +kernel
theorem dX8_runoff_31 : decode cX8_runoff 31 = .ok (.iload_n 1, 1) := by decide +kernel
theorem dX8_runoff_32 : decode cX8_runoff 32 = .ok (.ireturn, 1) := by decide +kernel
theorem dX8_runoff_13 : decode cX8_runoff 13 = .ok (.iload_n 1, 1) := by decide +kernel
theorem dX8_runoff_14 : decode cX8_runoff 14 = .ok (.aload_n 0, 1) := by decide +kernel
theorem dX8_runoff_15 : decode cX8_runoff 15 = .ok (.getfield 32, 3) := by decide +kernel
theorem dX8_runoff_18 : decode cX8_runoff 18 = .ok (.iload_n 2, 1) := by decide +kernel
theorem dX8_runoff_19 : decode cX8_runoff 19 = .ok (.aaload, 1) := by decide +kernel
theorem dX8_runoff_20 : decode cX8_runoff 20 = .ok (.getfield 47, 3) := by decide +kernel
theorem dX8_runoff_23 : decode cX8_runoff 23 = .ok (.iadd, 1) := by decide +kernel
theorem dX8_runoff_24 : decode cX8_runoff 24 = .ok (.istore_n 1, 1) := by decide +kernel
theorem dX8_runoff_25 : decode cX8_runoff 25 = .ok (.iinc 2 1, 3) := by decide +kernel
theorem dX8_runoff_28 : decode cX8_runoff 28 = .ok (.goto (-24), 3) := by decide +kernel
theorem dX8_runoff_0 : decode cX8_runoff 0 = .ok (.iconst 0, 1) := by decide +kernel
theorem dX8_runoff_1 : decode cX8_runoff 1 = .ok (.istore_n 1, 1) := by decide +kernel
theorem dX8_runoff_2 : decode cX8_runoff 2 = .ok (.iconst 0, 1) := by decide +kernel
theorem dX8_runoff_3 : decode cX8_runoff 3 = .ok (.istore_n 2, 1) := by decide +kernel
theorem dX8_sum_4 : decode cX8_sum 4 = .ok (.iload_n 3, 1) := by decide +kernel
theorem dX8_sum_5 : decode cX8_sum 5 = .ok (.aload_n 0, 1) := by decide +kernel
theorem dX8_sum_6 : decode cX8_sum 6 = .ok (.getfield 32, 3) := by decide +kernel
theorem dX8_sum_9 : decode cX8_sum 9 = .ok (.arraylength, 1) := by decide +kernel
theorem dX8_sum_10 : decode cX8_sum 10 = .ok (.if_icmp .ge 22, 3) := by decide +kernel
theorem dX8_sum_32 : decode cX8_sum 32 = .ok (.iload_n 2, 1) := by decide +kernel
theorem dX8_sum_33 : decode cX8_sum 33 = .ok (.ireturn, 1) := by decide +kernel
theorem dX8_sum_13 : decode cX8_sum 13 = .ok (.iload_n 2, 1) := by decide +kernel
theorem dX8_sum_14 : decode cX8_sum 14 = .ok (.aload_n 0, 1) := by decide +kernel
theorem dX8_sum_15 : decode cX8_sum 15 = .ok (.getfield 32, 3) := by decide +kernel
theorem dX8_sum_18 : decode cX8_sum 18 = .ok (.iload_n 3, 1) := by decide +kernel
theorem dX8_sum_19 : decode cX8_sum 19 = .ok (.aaload, 1) := by decide +kernel
theorem dX8_sum_20 : decode cX8_sum 20 = .ok (.iload_n 1, 1) := by decide +kernel
theorem dX8_sum_21 : decode cX8_sum 21 = .ok (.invokevirtual 50, 3) := by decide +kernel
theorem dX8_sum_24 : decode cX8_sum 24 = .ok (.iadd, 1) := by decide +kernel
theorem dX8_sum_25 : decode cX8_sum 25 = .ok (.istore_n 2, 1) := by decide +kernel
theorem dX8_sum_26 : decode cX8_sum 26 = .ok (.iinc 3 1, 3) := by decide +kernel
theorem dX8_sum_29 : decode cX8_sum 29 = .ok (.goto (-25), 3) := by decide +kernel
theorem dX8_sum_0 : decode cX8_sum 0 = .ok (.iconst 0, 1) := by decide +kernel
theorem dX8_sum_1 : decode cX8_sum 1 = .ok (.istore_n 2, 1) := by decide +kernel
theorem dX8_sum_2 : decode cX8_sum 2 = .ok (.iconst 0, 1) := by decide +kernel
theorem dX8_sum_3 : decode cX8_sum 3 = .ok (.istore_n 3, 1) := by decide +kernel
theorem dX8_has_2 : decode cX8_has 2 = .ok (.iload_n 2, 1) := by decide +kernel
theorem dX8_has_3 : decode cX8_has 3 = .ok (.aload_n 0, 1) := by decide +kernel
theorem dX8_has_4 : decode cX8_has 4 = .ok (.getfield 32, 3) := by decide +kernel
theorem dX8_has_7 : decode cX8_has 7 = .ok (.arraylength, 1) := by decide +kernel
theorem dX8_has_8 : decode cX8_has 8 = .ok (.if_icmp .ge 24, 3) := by decide +kernel
theorem dX8_has_32 : decode cX8_has 32 = .ok (.iconst 0, 1) := by decide +kernel
theorem dX8_has_33 : decode cX8_has 33 = .ok (.ireturn, 1) := by decide +kernel
theorem dX8_has_11 : decode cX8_has 11 = .ok (.aload_n 0, 1) := by decide +kernel
theorem dX8_has_12 : decode cX8_has 12 = .ok (.getfield 32, 3) := by decide +kernel
theorem dX8_has_15 : decode cX8_has 15 = .ok (.iload_n 2, 1) := by decide +kernel
theorem dX8_has_16 : decode cX8_has 16 = .ok (.aaload, 1) := by decide +kernel
theorem dX8_has_17 : decode cX8_has 17 = .ok (.iload_n 1, 1) := by decide +kernel
theorem dX8_has_18 : decode cX8_has 18 = .ok (.invokevirtual 54, 3) := by decide +kernel
theorem dX8_has_21 : decode cX8_has 21 = .ok (.ifCond .eq 5, 3) := by decide +kernel
theorem dX8_has_26 : decode cX8_has 26 = .ok (.iinc 2 1, 3) := by decide +kernel
theorem dX8_has_29 : decode cX8_has 29 = .ok (.goto (-27), 3) := by decide +kernel
theorem dX8_has_24 : decode cX8_has 24 = .ok (.iconst 1, 1) := by decide +kernel
theorem dX8_has_25 : decode cX8_has 25 = .ok (.ireturn, 1) := by decide +kernel
theorem dX8_has_0 : decode cX8_has 0 = .ok (.iconst 0, 1) := by decide +kernel
theorem dX8_has_1 : decode cX8_has 1 = .ok (.istore_n 2, 1) := by decide +kernel
