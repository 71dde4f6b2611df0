-- decode rows of lhelp
theorem dX10_thrown_0 : decode cX10_thrown 0 = .ok (.aload_n 0, 1) := by decide +kernel
theorem dX10_thrown_1 : decode cX10_thrown 1 = .ok (.getfield 110, 3) := by decide +kernel
theorem dX10_thrown_4 : decode cX10_thrown 4 = .ok (.ireturn, 1) := by decide +kernel
theorem dL_snow_0 : decode cL_snow 0 = .ok (.aload_n 2, 1) := by decide +kernel
theorem dL_snow_1 : decode cL_snow 1 = .ok (.iconst 0, 1) := by decide +kernel
theorem dL_snow_2 : decode cL_snow 2 = .ok (.aload_n 0, 1) := by decide +kernel
theorem dL_snow_3 : decode cL_snow 3 = .ok (.iload_n 1, 1) := by decide +kernel
theorem dL_snow_4 : decode cL_snow 4 = .ok (.invokevirtual 7, 3) := by decide +kernel
theorem dL_snow_12 : decode cL_snow 12 = .ok (.astore_n 3, 1) := by decide +kernel
theorem dL_snow_13 : decode cL_snow 13 = .ok (.iconst 1, 1) := by decide +kernel
theorem dL_snow_14 : decode cL_snow 14 = .ok (.ireturn, 1) := by decide +kernel
theorem dL_snow_7 : decode cL_snow 7 = .ok (.i2l, 1) := by decide +kernel
theorem dL_snow_8 : decode cL_snow 8 = .ok (.lastore, 1) := by decide +kernel
theorem dL_snow_9 : decode cL_snow 9 = .ok (.goto 6, 3) := by decide +kernel
theorem dL_snow_15 : decode cL_snow 15 = .ok (.iconst 0, 1) := by decide +kernel
theorem dL_snow_16 : decode cL_snow 16 = .ok (.ireturn, 1) := by decide +kernel
theorem dL_count_0 : decode cL_count 0 = .ok (.aload_n 2, 1) := by decide +kernel
theorem dL_count_1 : decode cL_count 1 = .ok (.iconst 0, 1) := by decide +kernel
theorem dL_count_2 : decode cL_count 2 = .ok (.aload_n 0, 1) := by decide +kernel
theorem dL_count_3 : decode cL_count 3 = .ok (.iload_n 1, 1) := by decide +kernel
theorem dL_count_4 : decode cL_count 4 = .ok (.invokevirtual 15, 3) := by decide +kernel
theorem dL_count_12 : decode cL_count 12 = .ok (.astore_n 3, 1) := by decide +kernel
theorem dL_count_13 : decode cL_count 13 = .ok (.iconst 1, 1) := by decide +kernel
theorem dL_count_14 : decode cL_count 14 = .ok (.ireturn, 1) := by decide +kernel
theorem dL_count_7 : decode cL_count 7 = .ok (.i2l, 1) := by decide +kernel
theorem dL_count_8 : decode cL_count 8 = .ok (.lastore, 1) := by decide +kernel
theorem dL_count_9 : decode cL_count 9 = .ok (.goto 6, 3) := by decide +kernel
theorem dL_count_15 : decode cL_count 15 = .ok (.iconst 0, 1) := by decide +kernel
theorem dL_count_16 : decode cL_count 16 = .ok (.ireturn, 1) := by decide +kernel
theorem dL_forecast_0 : decode cL_forecast 0 = .ok (.aload_n 3, 1) := by decide +kernel
theorem dL_forecast_1 : decode cL_forecast 1 = .ok (.iconst 0, 1) := by decide +kernel
theorem dL_forecast_2 : decode cL_forecast 2 = .ok (.aload_n 0, 1) := by decide +kernel
theorem dL_forecast_3 : decode cL_forecast 3 = .ok (.iload_n 1, 1) := by decide +kernel
theorem dL_forecast_4 : decode cL_forecast 4 = .ok (.iload_n 2, 1) := by decide +kernel
theorem dL_forecast_5 : decode cL_forecast 5 = .ok (.invokevirtual 20, 3) := by decide +kernel
theorem dL_forecast_13 : decode cL_forecast 13 = .ok (.astore 4, 2) := by decide +kernel
theorem dL_forecast_15 : decode cL_forecast 15 = .ok (.iconst 1, 1) := by decide +kernel
theorem dL_forecast_16 : decode cL_forecast 16 = .ok (.ireturn, 1) := by decide +kernel
theorem dL_forecast_8 : decode cL_forecast 8 = .ok (.i2l, 1) := by decide +kernel
theorem dL_forecast_9 : decode cL_forecast 9 = .ok (.lastore, 1) := by decide +kernel
theorem dL_forecast_10 : decode cL_forecast 10 = .ok (.goto 7, 3) := by decide +kernel
theorem dL_forecast_17 : decode cL_forecast 17 = .ok (.iconst 0, 1) := by decide +kernel
theorem dL_forecast_18 : decode cL_forecast 18 = .ok (.ireturn, 1) := by decide +kernel
theorem dL_slope_0 : decode cL_slope 0 = .ok (.aload_n 3, 1) := by decide +kernel
theorem dL_slope_1 : decode cL_slope 1 = .ok (.iconst 0, 1) := by decide +kernel
theorem dL_slope_2 : decode cL_slope 2 = .ok (.aload_n 0, 1) := by decide +kernel
theorem dL_slope_3 : decode cL_slope 3 = .ok (.iload_n 1, 1) := by decide +kernel
theorem dL_slope_4 : decode cL_slope 4 = .ok (.iload_n 2, 1) := by decide +kernel
theorem dL_slope_5 : decode cL_slope 5 = .ok (.invokevirtual 24, 3) := by decide +kernel
theorem dL_slope_13 : decode cL_slope 13 = .ok (.astore 4, 2) := by decide +kernel
theorem dL_slope_15 : decode cL_slope 15 = .ok (.iconst 1, 1) := by decide +kernel
theorem dL_slope_16 : decode cL_slope 16 = .ok (.ireturn, 1) := by decide +kernel
theorem dL_slope_8 : decode cL_slope 8 = .ok (.i2l, 1) := by decide +kernel
theorem dL_slope_9 : decode cL_slope 9 = .ok (.lastore, 1) := by decide +kernel
theorem dL_slope_10 : decode cL_slope 10 = .ok (.goto 7, 3) := by decide +kernel
theorem dL_slope_17 : decode cL_slope 17 = .ok (.iconst 0, 1) := by decide +kernel
theorem dL_slope_18 : decode cL_slope 18 = .ok (.ireturn, 1) := by decide +kernel
theorem dL_layer_0 : decode cL_layer 0 = .ok (.aload 4, 2) := by decide +kernel
theorem dL_layer_2 : decode cL_layer 2 = .ok (.iconst 0, 1) := by decide +kernel
theorem dL_layer_3 : decode cL_layer 3 = .ok (.aload_n 0, 1) := by decide +kernel
theorem dL_layer_4 : decode cL_layer 4 = .ok (.iload_n 1, 1) := by decide +kernel
theorem dL_layer_5 : decode cL_layer 5 = .ok (.iload_n 2, 1) := by decide +kernel
theorem dL_layer_6 : decode cL_layer 6 = .ok (.iload_n 3, 1) := by decide +kernel
theorem dL_layer_7 : decode cL_layer 7 = .ok (.invokevirtual 27, 3) := by decide +kernel
theorem dL_layer_15 : decode cL_layer 15 = .ok (.astore 5, 2) := by decide +kernel
theorem dL_layer_17 : decode cL_layer 17 = .ok (.iconst 1, 1) := by decide +kernel
theorem dL_layer_18 : decode cL_layer 18 = .ok (.ireturn, 1) := by decide +kernel
theorem dL_layer_10 : decode cL_layer 10 = .ok (.i2l, 1) := by decide +kernel
theorem dL_layer_11 : decode cL_layer 11 = .ok (.lastore, 1) := by decide +kernel
theorem dL_layer_12 : decode cL_layer 12 = .ok (.goto 7, 3) := by decide +kernel
theorem dL_layer_19 : decode cL_layer 19 = .ok (.iconst 0, 1) := by decide +kernel
theorem dL_layer_20 : decode cL_layer 20 = .ok (.ireturn, 1) := by decide +kernel
theorem dL_told_0 : decode cL_told 0 = .ok (.aload 4, 2) := by decide +kernel
theorem dL_told_2 : decode cL_told 2 = .ok (.iconst 0, 1) := by decide +kernel
theorem dL_told_3 : decode cL_told 3 = .ok (.aload_n 0, 1) := by decide +kernel
theorem dL_told_4 : decode cL_told 4 = .ok (.iload_n 1, 1) := by decide +kernel
theorem dL_told_5 : decode cL_told 5 = .ok (.iload_n 2, 1) := by decide +kernel
theorem dL_told_6 : decode cL_told 6 = .ok (.iload_n 3, 1) := by decide +kernel
theorem dL_told_7 : decode cL_told 7 = .ok (.invokevirtual 31, 3) := by decide +kernel
theorem dL_told_15 : decode cL_told 15 = .ok (.astore 5, 2) := by decide +kernel
theorem dL_told_17 : decode cL_told 17 = .ok (.iconst 1, 1) := by decide +kernel
theorem dL_told_18 : decode cL_told 18 = .ok (.ireturn, 1) := by decide +kernel
theorem dL_told_10 : decode cL_told 10 = .ok (.i2l, 1) := by decide +kernel
theorem dL_told_11 : decode cL_told 11 = .ok (.lastore, 1) := by decide +kernel
theorem dL_told_12 : decode cL_told 12 = .ok (.goto 7, 3) := by decide +kernel
theorem dL_told_19 : decode cL_told 19 = .ok (.iconst 0, 1) := by decide +kernel
theorem dL_told_20 : decode cL_told 20 = .ok (.ireturn, 1) := by decide +kernel
theorem dL_then_0 : decode cL_then 0 = .ok (.aload 4, 2) := by decide +kernel
theorem dL_then_2 : decode cL_then 2 = .ok (.iconst 0, 1) := by decide +kernel
theorem dL_then_3 : decode cL_then 3 = .ok (.aload_n 0, 1) := by decide +kernel
theorem dL_then_4 : decode cL_then 4 = .ok (.iload_n 1, 1) := by decide +kernel
theorem dL_then_5 : decode cL_then 5 = .ok (.iload_n 2, 1) := by decide +kernel
theorem dL_then_6 : decode cL_then 6 = .ok (.iload_n 3, 1) := by decide +kernel
theorem dL_then_7 : decode cL_then 7 = .ok (.invokevirtual 34, 3) := by decide +kernel
theorem dL_then_15 : decode cL_then 15 = .ok (.astore 5, 2) := by decide +kernel
theorem dL_then_17 : decode cL_then 17 = .ok (.iconst 1, 1) := by decide +kernel
theorem dL_then_18 : decode cL_then 18 = .ok (.ireturn, 1) := by decide +kernel
theorem dL_then_19 : decode cL_then 19 = .ok (.astore 5, 2) := by decide +kernel
theorem dL_then_21 : decode cL_then 21 = .ok (.iconst 2, 1) := by decide +kernel
theorem dL_then_22 : decode cL_then 22 = .ok (.ireturn, 1) := by decide +kernel
theorem dL_then_10 : decode cL_then 10 = .ok (.i2l, 1) := by decide +kernel
theorem dL_then_11 : decode cL_then 11 = .ok (.lastore, 1) := by decide +kernel
theorem dL_then_12 : decode cL_then 12 = .ok (.goto 11, 3) := by decide +kernel
theorem dL_then_23 : decode cL_then 23 = .ok (.iconst 0, 1) := by decide +kernel
theorem dL_then_24 : decode cL_then 24 = .ok (.ireturn, 1) := by decide +kernel
theorem dL_once_0 : decode cL_once 0 = .ok (.aload_n 3, 1) := by decide +kernel
theorem dL_once_1 : decode cL_once 1 = .ok (.iconst 0, 1) := by decide +kernel
theorem dL_once_2 : decode cL_once 2 = .ok (.aload_n 0, 1) := by decide +kernel
theorem dL_once_3 : decode cL_once 3 = .ok (.iload_n 1, 1) := by decide +kernel
theorem dL_once_4 : decode cL_once 4 = .ok (.iload_n 2, 1) := by decide +kernel
theorem dL_once_5 : decode cL_once 5 = .ok (.invokevirtual 37, 3) := by decide +kernel
theorem dL_once_13 : decode cL_once 13 = .ok (.astore 4, 2) := by decide +kernel
theorem dL_once_15 : decode cL_once 15 = .ok (.iconst 1, 1) := by decide +kernel
theorem dL_once_16 : decode cL_once 16 = .ok (.ireturn, 1) := by decide +kernel
theorem dL_once_8 : decode cL_once 8 = .ok (.i2l, 1) := by decide +kernel
theorem dL_once_9 : decode cL_once 9 = .ok (.lastore, 1) := by decide +kernel
theorem dL_once_10 : decode cL_once 10 = .ok (.goto 7, 3) := by decide +kernel
theorem dL_once_17 : decode cL_once 17 = .ok (.iconst 0, 1) := by decide +kernel
theorem dL_once_18 : decode cL_once 18 = .ok (.ireturn, 1) := by decide +kernel
theorem dL_gone_0 : decode cL_gone 0 = .ok (.aload_n 2, 1) := by decide +kernel
theorem dL_gone_1 : decode cL_gone 1 = .ok (.iconst 0, 1) := by decide +kernel
theorem dL_gone_2 : decode cL_gone 2 = .ok (.aload_n 0, 1) := by decide +kernel
theorem dL_gone_3 : decode cL_gone 3 = .ok (.iload_n 1, 1) := by decide +kernel
theorem dL_gone_4 : decode cL_gone 4 = .ok (.invokevirtual 40, 3) := by decide +kernel
theorem dL_gone_12 : decode cL_gone 12 = .ok (.astore_n 3, 1) := by decide +kernel
theorem dL_gone_13 : decode cL_gone 13 = .ok (.iconst 1, 1) := by decide +kernel
theorem dL_gone_14 : decode cL_gone 14 = .ok (.ireturn, 1) := by decide +kernel
theorem dL_gone_7 : decode cL_gone 7 = .ok (.i2l, 1) := by decide +kernel
theorem dL_gone_8 : decode cL_gone 8 = .ok (.lastore, 1) := by decide +kernel
theorem dL_gone_9 : decode cL_gone 9 = .ok (.goto 6, 3) := by decide +kernel
theorem dL_gone_15 : decode cL_gone 15 = .ok (.iconst 0, 1) := by decide +kernel
theorem dL_gone_16 : decode cL_gone 16 = .ok (.ireturn, 1) := by decide +kernel
theorem dL_stands_0 : decode cL_stands 0 = .ok (.aload_n 3, 1) := by decide +kernel
theorem dL_stands_1 : decode cL_stands 1 = .ok (.iconst 0, 1) := by decide +kernel
theorem dL_stands_2 : decode cL_stands 2 = .ok (.aload_n 0, 1) := by decide +kernel
theorem dL_stands_3 : decode cL_stands 3 = .ok (.iload_n 1, 1) := by decide +kernel
theorem dL_stands_4 : decode cL_stands 4 = .ok (.iload_n 2, 1) := by decide +kernel
theorem dL_stands_5 : decode cL_stands 5 = .ok (.invokevirtual 43, 3) := by decide +kernel
theorem dL_stands_13 : decode cL_stands 13 = .ok (.astore 4, 2) := by decide +kernel
theorem dL_stands_15 : decode cL_stands 15 = .ok (.iconst 1, 1) := by decide +kernel
theorem dL_stands_16 : decode cL_stands 16 = .ok (.ireturn, 1) := by decide +kernel
theorem dL_stands_8 : decode cL_stands 8 = .ok (.i2l, 1) := by decide +kernel
theorem dL_stands_9 : decode cL_stands 9 = .ok (.lastore, 1) := by decide +kernel
theorem dL_stands_10 : decode cL_stands 10 = .ok (.goto 7, 3) := by decide +kernel
theorem dL_stands_17 : decode cL_stands 17 = .ok (.iconst 0, 1) := by decide +kernel
theorem dL_stands_18 : decode cL_stands 18 = .ok (.ireturn, 1) := by decide +kernel
theorem dL_toLoad_0 : decode cL_toLoad 0 = .ok (.aload_n 2, 1) := by decide +kernel
theorem dL_toLoad_1 : decode cL_toLoad 1 = .ok (.iconst 0, 1) := by decide +kernel
theorem dL_toLoad_2 : decode cL_toLoad 2 = .ok (.aload_n 0, 1) := by decide +kernel
theorem dL_toLoad_3 : decode cL_toLoad 3 = .ok (.iload_n 1, 1) := by decide +kernel
theorem dL_toLoad_4 : decode cL_toLoad 4 = .ok (.invokevirtual 46, 3) := by decide +kernel
theorem dL_toLoad_12 : decode cL_toLoad 12 = .ok (.astore_n 3, 1) := by decide +kernel
theorem dL_toLoad_13 : decode cL_toLoad 13 = .ok (.iconst 1, 1) := by decide +kernel
theorem dL_toLoad_14 : decode cL_toLoad 14 = .ok (.ireturn, 1) := by decide +kernel
theorem dL_toLoad_7 : decode cL_toLoad 7 = .ok (.i2l, 1) := by decide +kernel
theorem dL_toLoad_8 : decode cL_toLoad 8 = .ok (.lastore, 1) := by decide +kernel
theorem dL_toLoad_9 : decode cL_toLoad 9 = .ok (.goto 6, 3) := by decide +kernel
theorem dL_toLoad_15 : decode cL_toLoad 15 = .ok (.iconst 0, 1) := by decide +kernel
theorem dL_toLoad_16 : decode cL_toLoad 16 = .ok (.ireturn, 1) := by decide +kernel
theorem dL_steepest_0 : decode cL_steepest 0 = .ok (.aload_n 2, 1) := by decide +kernel
theorem dL_steepest_1 : decode cL_steepest 1 = .ok (.iconst 0, 1) := by decide +kernel
theorem dL_steepest_2 : decode cL_steepest 2 = .ok (.aload_n 0, 1) := by decide +kernel
theorem dL_steepest_3 : decode cL_steepest 3 = .ok (.iload_n 1, 1) := by decide +kernel
theorem dL_steepest_4 : decode cL_steepest 4 = .ok (.invokevirtual 49, 3) := by decide +kernel
theorem dL_steepest_12 : decode cL_steepest 12 = .ok (.astore_n 3, 1) := by decide +kernel
theorem dL_steepest_13 : decode cL_steepest 13 = .ok (.iconst 1, 1) := by decide +kernel
theorem dL_steepest_14 : decode cL_steepest 14 = .ok (.ireturn, 1) := by decide +kernel
theorem dL_steepest_7 : decode cL_steepest 7 = .ok (.i2l, 1) := by decide +kernel
theorem dL_steepest_8 : decode cL_steepest 8 = .ok (.lastore, 1) := by decide +kernel
theorem dL_steepest_9 : decode cL_steepest 9 = .ok (.goto 6, 3) := by decide +kernel
theorem dL_steepest_15 : decode cL_steepest 15 = .ok (.iconst 0, 1) := by decide +kernel
theorem dL_steepest_16 : decode cL_steepest 16 = .ok (.ireturn, 1) := by decide +kernel
theorem dL_toWarm_0 : decode cL_toWarm 0 = .ok (.aload_n 3, 1) := by decide +kernel
theorem dL_toWarm_1 : decode cL_toWarm 1 = .ok (.iconst 0, 1) := by decide +kernel
theorem dL_toWarm_2 : decode cL_toWarm 2 = .ok (.aload_n 0, 1) := by decide +kernel
theorem dL_toWarm_3 : decode cL_toWarm 3 = .ok (.iload_n 1, 1) := by decide +kernel
theorem dL_toWarm_4 : decode cL_toWarm 4 = .ok (.iload_n 2, 1) := by decide +kernel
theorem dL_toWarm_5 : decode cL_toWarm 5 = .ok (.invokevirtual 52, 3) := by decide +kernel
theorem dL_toWarm_13 : decode cL_toWarm 13 = .ok (.astore 4, 2) := by decide +kernel
theorem dL_toWarm_15 : decode cL_toWarm 15 = .ok (.iconst 1, 1) := by decide +kernel
theorem dL_toWarm_16 : decode cL_toWarm 16 = .ok (.ireturn, 1) := by decide +kernel
theorem dL_toWarm_17 : decode cL_toWarm 17 = .ok (.astore 4, 2) := by decide +kernel
theorem dL_toWarm_19 : decode cL_toWarm 19 = .ok (.iconst 2, 1) := by decide +kernel
theorem dL_toWarm_20 : decode cL_toWarm 20 = .ok (.ireturn, 1) := by decide +kernel
theorem dL_toWarm_8 : decode cL_toWarm 8 = .ok (.i2l, 1) := by decide +kernel
theorem dL_toWarm_9 : decode cL_toWarm 9 = .ok (.lastore, 1) := by decide +kernel
theorem dL_toWarm_10 : decode cL_toWarm 10 = .ok (.goto 11, 3) := by decide +kernel
theorem dL_toWarm_21 : decode cL_toWarm 21 = .ok (.iconst 0, 1) := by decide +kernel
theorem dL_toWarm_22 : decode cL_toWarm 22 = .ok (.ireturn, 1) := by decide +kernel
theorem dL_matters_0 : decode cL_matters 0 = .ok (.aload 4, 2) := by decide +kernel
theorem dL_matters_2 : decode cL_matters 2 = .ok (.iconst 0, 1) := by decide +kernel
theorem dL_matters_3 : decode cL_matters 3 = .ok (.aload_n 0, 1) := by decide +kernel
theorem dL_matters_4 : decode cL_matters 4 = .ok (.iload_n 1, 1) := by decide +kernel
theorem dL_matters_5 : decode cL_matters 5 = .ok (.iload_n 2, 1) := by decide +kernel
theorem dL_matters_6 : decode cL_matters 6 = .ok (.iload_n 3, 1) := by decide +kernel
theorem dL_matters_7 : decode cL_matters 7 = .ok (.invokevirtual 55, 3) := by decide +kernel
theorem dL_matters_15 : decode cL_matters 15 = .ok (.astore 5, 2) := by decide +kernel
theorem dL_matters_17 : decode cL_matters 17 = .ok (.iconst 1, 1) := by decide +kernel
theorem dL_matters_18 : decode cL_matters 18 = .ok (.ireturn, 1) := by decide +kernel
theorem dL_matters_19 : decode cL_matters 19 = .ok (.astore 5, 2) := by decide +kernel
theorem dL_matters_21 : decode cL_matters 21 = .ok (.iconst 2, 1) := by decide +kernel
theorem dL_matters_22 : decode cL_matters 22 = .ok (.ireturn, 1) := by decide +kernel
theorem dL_matters_10 : decode cL_matters 10 = .ok (.i2l, 1) := by decide +kernel
theorem dL_matters_11 : decode cL_matters 11 = .ok (.lastore, 1) := by decide +kernel
theorem dL_matters_12 : decode cL_matters 12 = .ok (.goto 11, 3) := by decide +kernel
theorem dL_matters_23 : decode cL_matters 23 = .ok (.iconst 0, 1) := by decide +kernel
theorem dL_matters_24 : decode cL_matters 24 = .ok (.ireturn, 1) := by decide +kernel
theorem dL_pitOf_0 : decode cL_pitOf 0 = .ok (.aload_n 3, 1) := by decide +kernel
theorem dL_pitOf_1 : decode cL_pitOf 1 = .ok (.iconst 0, 1) := by decide +kernel
theorem dL_pitOf_2 : decode cL_pitOf 2 = .ok (.aload_n 0, 1) := by decide +kernel
theorem dL_pitOf_3 : decode cL_pitOf 3 = .ok (.iload_n 1, 1) := by decide +kernel
theorem dL_pitOf_4 : decode cL_pitOf 4 = .ok (.iload_n 2, 1) := by decide +kernel
theorem dL_pitOf_5 : decode cL_pitOf 5 = .ok (.invokevirtual 58, 3) := by decide +kernel
theorem dL_pitOf_13 : decode cL_pitOf 13 = .ok (.astore 4, 2) := by decide +kernel
theorem dL_pitOf_15 : decode cL_pitOf 15 = .ok (.iconst 1, 1) := by decide +kernel
theorem dL_pitOf_16 : decode cL_pitOf 16 = .ok (.ireturn, 1) := by decide +kernel
theorem dL_pitOf_8 : decode cL_pitOf 8 = .ok (.i2l, 1) := by decide +kernel
theorem dL_pitOf_9 : decode cL_pitOf 9 = .ok (.lastore, 1) := by decide +kernel
theorem dL_pitOf_10 : decode cL_pitOf 10 = .ok (.goto 7, 3) := by decide +kernel
theorem dL_pitOf_17 : decode cL_pitOf 17 = .ok (.iconst 0, 1) := by decide +kernel
theorem dL_pitOf_18 : decode cL_pitOf 18 = .ok (.ireturn, 1) := by decide +kernel
theorem dL_compare_0 : decode cL_compare 0 = .ok (.aload 4, 2) := by decide +kernel
theorem dL_compare_2 : decode cL_compare 2 = .ok (.iconst 0, 1) := by decide +kernel
theorem dL_compare_3 : decode cL_compare 3 = .ok (.aload_n 0, 1) := by decide +kernel
theorem dL_compare_4 : decode cL_compare 4 = .ok (.iload_n 1, 1) := by decide +kernel
theorem dL_compare_5 : decode cL_compare 5 = .ok (.iload_n 2, 1) := by decide +kernel
theorem dL_compare_6 : decode cL_compare 6 = .ok (.iload_n 3, 1) := by decide +kernel
theorem dL_compare_7 : decode cL_compare 7 = .ok (.invokevirtual 61, 3) := by decide +kernel
theorem dL_compare_15 : decode cL_compare 15 = .ok (.astore 5, 2) := by decide +kernel
theorem dL_compare_17 : decode cL_compare 17 = .ok (.iconst 1, 1) := by decide +kernel
theorem dL_compare_18 : decode cL_compare 18 = .ok (.ireturn, 1) := by decide +kernel
theorem dL_compare_10 : decode cL_compare 10 = .ok (.i2l, 1) := by decide +kernel
theorem dL_compare_11 : decode cL_compare 11 = .ok (.lastore, 1) := by decide +kernel
theorem dL_compare_12 : decode cL_compare 12 = .ok (.goto 7, 3) := by decide +kernel
theorem dL_compare_19 : decode cL_compare 19 = .ok (.iconst 0, 1) := by decide +kernel
theorem dL_compare_20 : decode cL_compare 20 = .ok (.ireturn, 1) := by decide +kernel
theorem dL_nearest_0 : decode cL_nearest 0 = .ok (.aload_n 2, 1) := by decide +kernel
theorem dL_nearest_1 : decode cL_nearest 1 = .ok (.iconst 0, 1) := by decide +kernel
theorem dL_nearest_2 : decode cL_nearest 2 = .ok (.aload_n 0, 1) := by decide +kernel
theorem dL_nearest_3 : decode cL_nearest 3 = .ok (.iload_n 1, 1) := by decide +kernel
theorem dL_nearest_4 : decode cL_nearest 4 = .ok (.invokevirtual 64, 3) := by decide +kernel
theorem dL_nearest_12 : decode cL_nearest 12 = .ok (.astore_n 3, 1) := by decide +kernel
theorem dL_nearest_13 : decode cL_nearest 13 = .ok (.iconst 1, 1) := by decide +kernel
theorem dL_nearest_14 : decode cL_nearest 14 = .ok (.ireturn, 1) := by decide +kernel
theorem dL_nearest_7 : decode cL_nearest 7 = .ok (.i2l, 1) := by decide +kernel
theorem dL_nearest_8 : decode cL_nearest 8 = .ok (.lastore, 1) := by decide +kernel
theorem dL_nearest_9 : decode cL_nearest 9 = .ok (.goto 6, 3) := by decide +kernel
theorem dL_nearest_15 : decode cL_nearest 15 = .ok (.iconst 0, 1) := by decide +kernel
theorem dL_nearest_16 : decode cL_nearest 16 = .ok (.ireturn, 1) := by decide +kernel
theorem dL_falls_0 : decode cL_falls 0 = .ok (.aload_n 2, 1) := by decide +kernel
theorem dL_falls_1 : decode cL_falls 1 = .ok (.iconst 0, 1) := by decide +kernel
theorem dL_falls_2 : decode cL_falls 2 = .ok (.aload_n 0, 1) := by decide +kernel
theorem dL_falls_3 : decode cL_falls 3 = .ok (.iload_n 1, 1) := by decide +kernel
theorem dL_falls_4 : decode cL_falls 4 = .ok (.invokevirtual 67, 3) := by decide +kernel
theorem dL_falls_12 : decode cL_falls 12 = .ok (.astore_n 3, 1) := by decide +kernel
theorem dL_falls_13 : decode cL_falls 13 = .ok (.iconst 1, 1) := by decide +kernel
theorem dL_falls_14 : decode cL_falls 14 = .ok (.ireturn, 1) := by decide +kernel
theorem dL_falls_7 : decode cL_falls 7 = .ok (.i2l, 1) := by decide +kernel
theorem dL_falls_8 : decode cL_falls 8 = .ok (.lastore, 1) := by decide +kernel
theorem dL_falls_9 : decode cL_falls 9 = .ok (.goto 6, 3) := by decide +kernel
theorem dL_falls_15 : decode cL_falls 15 = .ok (.iconst 0, 1) := by decide +kernel
theorem dL_falls_16 : decode cL_falls 16 = .ok (.ireturn, 1) := by decide +kernel
theorem dL_look_0 : decode cL_look 0 = .ok (.aload_n 2, 1) := by decide +kernel
theorem dL_look_1 : decode cL_look 1 = .ok (.iconst 0, 1) := by decide +kernel
theorem dL_look_2 : decode cL_look 2 = .ok (.aload_n 0, 1) := by decide +kernel
theorem dL_look_3 : decode cL_look 3 = .ok (.iload_n 1, 1) := by decide +kernel
theorem dL_look_4 : decode cL_look 4 = .ok (.invokevirtual 70, 3) := by decide +kernel
theorem dL_look_12 : decode cL_look 12 = .ok (.astore_n 3, 1) := by decide +kernel
theorem dL_look_13 : decode cL_look 13 = .ok (.iconst 1, 1) := by decide +kernel
theorem dL_look_14 : decode cL_look 14 = .ok (.ireturn, 1) := by decide +kernel
theorem dL_look_7 : decode cL_look 7 = .ok (.i2l, 1) := by decide +kernel
theorem dL_look_8 : decode cL_look 8 = .ok (.lastore, 1) := by decide +kernel
theorem dL_look_9 : decode cL_look 9 = .ok (.goto 6, 3) := by decide +kernel
theorem dL_look_15 : decode cL_look 15 = .ok (.iconst 0, 1) := by decide +kernel
theorem dL_look_16 : decode cL_look 16 = .ok (.ireturn, 1) := by decide +kernel
theorem dL_odds_0 : decode cL_odds 0 = .ok (.aload 4, 2) := by decide +kernel
theorem dL_odds_2 : decode cL_odds 2 = .ok (.iconst 0, 1) := by decide +kernel
theorem dL_odds_3 : decode cL_odds 3 = .ok (.aload_n 0, 1) := by decide +kernel
theorem dL_odds_4 : decode cL_odds 4 = .ok (.iload_n 1, 1) := by decide +kernel
theorem dL_odds_5 : decode cL_odds 5 = .ok (.iload_n 2, 1) := by decide +kernel
theorem dL_odds_6 : decode cL_odds 6 = .ok (.iload_n 3, 1) := by decide +kernel
theorem dL_odds_7 : decode cL_odds 7 = .ok (.invokevirtual 73, 3) := by decide +kernel
theorem dL_odds_15 : decode cL_odds 15 = .ok (.astore 5, 2) := by decide +kernel
theorem dL_odds_17 : decode cL_odds 17 = .ok (.iconst 1, 1) := by decide +kernel
theorem dL_odds_18 : decode cL_odds 18 = .ok (.ireturn, 1) := by decide +kernel
theorem dL_odds_19 : decode cL_odds 19 = .ok (.astore 5, 2) := by decide +kernel
theorem dL_odds_21 : decode cL_odds 21 = .ok (.iconst 2, 1) := by decide +kernel
theorem dL_odds_22 : decode cL_odds 22 = .ok (.ireturn, 1) := by decide +kernel
theorem dL_odds_10 : decode cL_odds 10 = .ok (.i2l, 1) := by decide +kernel
theorem dL_odds_11 : decode cL_odds 11 = .ok (.lastore, 1) := by decide +kernel
theorem dL_odds_12 : decode cL_odds 12 = .ok (.goto 11, 3) := by decide +kernel
theorem dL_odds_23 : decode cL_odds 23 = .ok (.iconst 0, 1) := by decide +kernel
theorem dL_odds_24 : decode cL_odds 24 = .ok (.ireturn, 1) := by decide +kernel
theorem dL_years_0 : decode cL_years 0 = .ok (.aload 4, 2) := by decide +kernel
theorem dL_years_2 : decode cL_years 2 = .ok (.iconst 0, 1) := by decide +kernel
theorem dL_years_3 : decode cL_years 3 = .ok (.aload_n 0, 1) := by decide +kernel
theorem dL_years_4 : decode cL_years 4 = .ok (.iload_n 1, 1) := by decide +kernel
theorem dL_years_5 : decode cL_years 5 = .ok (.iload_n 2, 1) := by decide +kernel
theorem dL_years_6 : decode cL_years 6 = .ok (.iload_n 3, 1) := by decide +kernel
theorem dL_years_7 : decode cL_years 7 = .ok (.invokevirtual 76, 3) := by decide +kernel
theorem dL_years_15 : decode cL_years 15 = .ok (.astore 5, 2) := by decide +kernel
theorem dL_years_17 : decode cL_years 17 = .ok (.iconst 1, 1) := by decide +kernel
theorem dL_years_18 : decode cL_years 18 = .ok (.ireturn, 1) := by decide +kernel
theorem dL_years_19 : decode cL_years 19 = .ok (.astore 5, 2) := by decide +kernel
theorem dL_years_21 : decode cL_years 21 = .ok (.iconst 2, 1) := by decide +kernel
theorem dL_years_22 : decode cL_years 22 = .ok (.ireturn, 1) := by decide +kernel
theorem dL_years_10 : decode cL_years 10 = .ok (.i2l, 1) := by decide +kernel
theorem dL_years_11 : decode cL_years 11 = .ok (.lastore, 1) := by decide +kernel
theorem dL_years_12 : decode cL_years 12 = .ok (.goto 11, 3) := by decide +kernel
theorem dL_years_23 : decode cL_years 23 = .ok (.iconst 0, 1) := by decide +kernel
theorem dL_years_24 : decode cL_years 24 = .ok (.ireturn, 1) := by decide +kernel
