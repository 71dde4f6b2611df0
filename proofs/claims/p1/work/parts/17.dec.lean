-- decode rows of throws
theorem dX9_isSlope_0 : decode cX9_isSlope 0 = .ok (.iload_n 1, 1) := by decide +kernel
theorem dX9_isSlope_1 : decode cX9_isSlope 1 = .ok (.ifCond .lt 18, 3) := by decide +kernel
theorem dX9_isSlope_19 : decode cX9_isSlope 19 = .ok (.iconst 0, 1) := by decide +kernel
theorem dX9_isSlope_20 : decode cX9_isSlope 20 = .ok (.ireturn, 1) := by decide +kernel
theorem dX9_isSlope_4 : decode cX9_isSlope 4 = .ok (.iload_n 1, 1) := by decide +kernel
theorem dX9_isSlope_5 : decode cX9_isSlope 5 = .ok (.aload_n 0, 1) := by decide +kernel
theorem dX9_isSlope_6 : decode cX9_isSlope 6 = .ok (.getfield 30, 3) := by decide +kernel
theorem dX9_isSlope_9 : decode cX9_isSlope 9 = .ok (.getfield 115, 3) := by decide +kernel
theorem dX9_isSlope_12 : decode cX9_isSlope 12 = .ok (.if_icmp .ge 7, 3) := by decide +kernel
theorem dX9_needSlope_0 : decode cX9_needSlope 0 = .ok (.aload_n 0, 1) := by decide +kernel
theorem dX9_needSlope_1 : decode cX9_needSlope 1 = .ok (.iload_n 1, 1) := by decide +kernel
theorem dX9_needSlope_2 : decode cX9_needSlope 2 = .ok (.invokevirtual 268, 3) := by decide +kernel
theorem dX9_needSlope_5 : decode cX9_needSlope 5 = .ok (.ifCond .ne 14, 3) := by decide +kernel
theorem dX9_needSlope_8 : decode cX9_needSlope 8 = .ok (.new 165, 3) := by decide +kernel
theorem dX9_needSlope_11 : decode cX9_needSlope 11 = .ok (.dup, 1) := by decide +kernel
theorem dX9_needSlope_12 : decode cX9_needSlope 12 = .ok (.ldc_w 414, 3) := by decide +kernel
theorem dX9_needSlope_15 : decode cX9_needSlope 15 = .ok (.invokespecial 169, 3) := by decide +kernel
theorem dX9_needSlope_18 : decode cX9_needSlope 18 = .ok (.athrow, 1) := by decide +kernel
theorem dX9_packOf_0 : decode cX9_packOf 0 = .ok (.aload_n 0, 1) := by decide +kernel
theorem dX9_packOf_1 : decode cX9_packOf 1 = .ok (.iload_n 1, 1) := by decide +kernel
theorem dX9_packOf_2 : decode cX9_packOf 2 = .ok (.invokevirtual 300, 3) := by decide +kernel
theorem dX9_needPit_0 : decode cX9_needPit 0 = .ok (.iload_n 1, 1) := by decide +kernel
theorem dX9_needPit_1 : decode cX9_needPit 1 = .ok (.ifCond .lt 17, 3) := by decide +kernel
theorem dX9_needPit_18 : decode cX9_needPit 18 = .ok (.new 165, 3) := by decide +kernel
theorem dX9_needPit_21 : decode cX9_needPit 21 = .ok (.dup, 1) := by decide +kernel
theorem dX9_needPit_22 : decode cX9_needPit 22 = .ok (.ldc_w 418, 3) := by decide +kernel
theorem dX9_needPit_25 : decode cX9_needPit 25 = .ok (.invokespecial 169, 3) := by decide +kernel
theorem dX9_needPit_28 : decode cX9_needPit 28 = .ok (.athrow, 1) := by decide +kernel
theorem dX9_needPit_4 : decode cX9_needPit 4 = .ok (.iload_n 1, 1) := by decide +kernel
theorem dX9_needPit_5 : decode cX9_needPit 5 = .ok (.aload_n 0, 1) := by decide +kernel
theorem dX9_needPit_6 : decode cX9_needPit 6 = .ok (.getfield 37, 3) := by decide +kernel
theorem dX9_needPit_9 : decode cX9_needPit 9 = .ok (.getfield 112, 3) := by decide +kernel
theorem dX9_needPit_12 : decode cX9_needPit 12 = .ok (.getfield 150, 3) := by decide +kernel
theorem dX9_needPit_15 : decode cX9_needPit 15 = .ok (.if_icmp .lt 14, 3) := by decide +kernel
theorem dX9_slope_0 : decode cX9_slope 0 = .ok (.aload_n 0, 1) := by decide +kernel
theorem dX9_slope_1 : decode cX9_slope 1 = .ok (.iload_n 1, 1) := by decide +kernel
theorem dX9_slope_2 : decode cX9_slope 2 = .ok (.invokevirtual 183, 3) := by decide +kernel
theorem dX9_layer_0 : decode cX9_layer 0 = .ok (.aload_n 0, 1) := by decide +kernel
theorem dX9_layer_1 : decode cX9_layer 1 = .ok (.iload_n 1, 1) := by decide +kernel
theorem dX9_layer_2 : decode cX9_layer 2 = .ok (.invokevirtual 183, 3) := by decide +kernel
theorem dX9_told_0 : decode cX9_told 0 = .ok (.aload_n 0, 1) := by decide +kernel
theorem dX9_told_1 : decode cX9_told 1 = .ok (.iload_n 1, 1) := by decide +kernel
theorem dX9_told_2 : decode cX9_told 2 = .ok (.invokevirtual 183, 3) := by decide +kernel
theorem dX9_then_0 : decode cX9_then 0 = .ok (.aload_n 0, 1) := by decide +kernel
theorem dX9_then_1 : decode cX9_then 1 = .ok (.iload_n 1, 1) := by decide +kernel
theorem dX9_then_2 : decode cX9_then 2 = .ok (.invokevirtual 300, 3) := by decide +kernel
theorem dX9_once_0 : decode cX9_once 0 = .ok (.aload_n 0, 1) := by decide +kernel
theorem dX9_once_1 : decode cX9_once 1 = .ok (.iload_n 1, 1) := by decide +kernel
theorem dX9_once_2 : decode cX9_once 2 = .ok (.invokevirtual 300, 3) := by decide +kernel
theorem dX9_stands_0 : decode cX9_stands 0 = .ok (.aload_n 0, 1) := by decide +kernel
theorem dX9_stands_1 : decode cX9_stands 1 = .ok (.iload_n 1, 1) := by decide +kernel
theorem dX9_stands_2 : decode cX9_stands 2 = .ok (.invokevirtual 183, 3) := by decide +kernel
theorem dX9_toLoad_0 : decode cX9_toLoad 0 = .ok (.aload_n 0, 1) := by decide +kernel
theorem dX9_toLoad_1 : decode cX9_toLoad 1 = .ok (.iload_n 1, 1) := by decide +kernel
theorem dX9_toLoad_2 : decode cX9_toLoad 2 = .ok (.invokevirtual 183, 3) := by decide +kernel
theorem dX9_steepest_0 : decode cX9_steepest 0 = .ok (.aload_n 0, 1) := by decide +kernel
theorem dX9_steepest_1 : decode cX9_steepest 1 = .ok (.iload_n 1, 1) := by decide +kernel
theorem dX9_steepest_2 : decode cX9_steepest 2 = .ok (.invokevirtual 183, 3) := by decide +kernel
theorem dX9_toWarm_0 : decode cX9_toWarm 0 = .ok (.aload_n 0, 1) := by decide +kernel
theorem dX9_toWarm_1 : decode cX9_toWarm 1 = .ok (.iload_n 1, 1) := by decide +kernel
theorem dX9_toWarm_2 : decode cX9_toWarm 2 = .ok (.invokevirtual 300, 3) := by decide +kernel
theorem dX9_matters_0 : decode cX9_matters 0 = .ok (.aload_n 0, 1) := by decide +kernel
theorem dX9_matters_1 : decode cX9_matters 1 = .ok (.iload_n 1, 1) := by decide +kernel
theorem dX9_matters_2 : decode cX9_matters 2 = .ok (.invokevirtual 300, 3) := by decide +kernel
theorem dX9_pitOf_0 : decode cX9_pitOf 0 = .ok (.aload_n 0, 1) := by decide +kernel
theorem dX9_pitOf_1 : decode cX9_pitOf 1 = .ok (.iload_n 1, 1) := by decide +kernel
theorem dX9_pitOf_2 : decode cX9_pitOf 2 = .ok (.invokevirtual 338, 3) := by decide +kernel
theorem dX9_compare_0 : decode cX9_compare 0 = .ok (.aload_n 0, 1) := by decide +kernel
theorem dX9_compare_1 : decode cX9_compare 1 = .ok (.iload_n 1, 1) := by decide +kernel
theorem dX9_compare_2 : decode cX9_compare 2 = .ok (.invokevirtual 338, 3) := by decide +kernel
theorem dX9_nearest_0 : decode cX9_nearest 0 = .ok (.aload_n 0, 1) := by decide +kernel
theorem dX9_nearest_1 : decode cX9_nearest 1 = .ok (.iload_n 1, 1) := by decide +kernel
theorem dX9_nearest_2 : decode cX9_nearest 2 = .ok (.invokevirtual 338, 3) := by decide +kernel
theorem dX9_odds_0 : decode cX9_odds 0 = .ok (.aload_n 0, 1) := by decide +kernel
theorem dX9_odds_1 : decode cX9_odds 1 = .ok (.iload_n 1, 1) := by decide +kernel
theorem dX9_odds_2 : decode cX9_odds 2 = .ok (.invokevirtual 300, 3) := by decide +kernel
theorem dX9_forecast_0 : decode cX9_forecast 0 = .ok (.iload_n 1, 1) := by decide +kernel
theorem dX9_forecast_1 : decode cX9_forecast 1 = .ok (.ifCond .lt 14, 3) := by decide +kernel
theorem dX9_forecast_15 : decode cX9_forecast 15 = .ok (.new 165, 3) := by decide +kernel
theorem dX9_forecast_18 : decode cX9_forecast 18 = .ok (.dup, 1) := by decide +kernel
theorem dX9_forecast_19 : decode cX9_forecast 19 = .ok (.ldc 170, 2) := by decide +kernel
theorem dX9_forecast_21 : decode cX9_forecast 21 = .ok (.invokespecial 169, 3) := by decide +kernel
theorem dX9_forecast_24 : decode cX9_forecast 24 = .ok (.athrow, 1) := by decide +kernel
theorem dX9_forecast_4 : decode cX9_forecast 4 = .ok (.iload_n 1, 1) := by decide +kernel
theorem dX9_forecast_5 : decode cX9_forecast 5 = .ok (.aload_n 0, 1) := by decide +kernel
theorem dX9_forecast_6 : decode cX9_forecast 6 = .ok (.getfield 30, 3) := by decide +kernel
theorem dX9_forecast_9 : decode cX9_forecast 9 = .ok (.getfield 118, 3) := by decide +kernel
theorem dX9_forecast_12 : decode cX9_forecast 12 = .ok (.if_icmp .lt 13, 3) := by decide +kernel
theorem dX9_gone_0 : decode cX9_gone 0 = .ok (.iload_n 1, 1) := by decide +kernel
theorem dX9_gone_1 : decode cX9_gone 1 = .ok (.ifCond .lt 17, 3) := by decide +kernel
theorem dX9_gone_18 : decode cX9_gone 18 = .ok (.new 165, 3) := by decide +kernel
theorem dX9_gone_21 : decode cX9_gone 21 = .ok (.dup, 1) := by decide +kernel
theorem dX9_gone_22 : decode cX9_gone 22 = .ok (.ldc_w 316, 3) := by decide +kernel
theorem dX9_gone_25 : decode cX9_gone 25 = .ok (.invokespecial 169, 3) := by decide +kernel
theorem dX9_gone_28 : decode cX9_gone 28 = .ok (.athrow, 1) := by decide +kernel
theorem dX9_gone_4 : decode cX9_gone 4 = .ok (.iload_n 1, 1) := by decide +kernel
theorem dX9_gone_5 : decode cX9_gone 5 = .ok (.aload_n 0, 1) := by decide +kernel
theorem dX9_gone_6 : decode cX9_gone 6 = .ok (.getfield 37, 3) := by decide +kernel
theorem dX9_gone_9 : decode cX9_gone 9 = .ok (.getfield 112, 3) := by decide +kernel
theorem dX9_gone_12 : decode cX9_gone 12 = .ok (.getfield 128, 3) := by decide +kernel
theorem dX9_gone_15 : decode cX9_gone 15 = .ok (.if_icmp .lt 14, 3) := by decide +kernel
