-- decode rows of mw
theorem dX10_copies_0 : decode cX10_copies 0 = .ok (.iconst 0, 1) := by decide +kernel
theorem dX10_copies_1 : decode cX10_copies 1 = .ok (.istore 4, 2) := by decide +kernel
theorem dX10_copies_3 : decode cX10_copies 3 = .ok (.iload 4, 2) := by decide +kernel
theorem dX10_copies_5 : decode cX10_copies 5 = .ok (.iload_n 3, 1) := by decide +kernel
theorem dX10_copies_6 : decode cX10_copies 6 = .ok (.if_icmp .ge 27, 3) := by decide +kernel
theorem dX10_copies_33 : decode cX10_copies 33 = .ok (.return_, 1) := by decide +kernel
theorem dX10_copies_9 : decode cX10_copies 9 = .ok (.aload_n 0, 1) := by decide +kernel
theorem dX10_copies_10 : decode cX10_copies 10 = .ok (.getfield 9, 3) := by decide +kernel
theorem dX10_copies_13 : decode cX10_copies 13 = .ok (.iload_n 2, 1) := by decide +kernel
theorem dX10_copies_14 : decode cX10_copies 14 = .ok (.iload 4, 2) := by decide +kernel
theorem dX10_copies_16 : decode cX10_copies 16 = .ok (.iadd, 1) := by decide +kernel
theorem dX10_copies_17 : decode cX10_copies 17 = .ok (.aload_n 0, 1) := by decide +kernel
theorem dX10_copies_18 : decode cX10_copies 18 = .ok (.getfield 9, 3) := by decide +kernel
theorem dX10_copies_21 : decode cX10_copies 21 = .ok (.iload_n 1, 1) := by decide +kernel
theorem dX10_copies_22 : decode cX10_copies 22 = .ok (.iload 4, 2) := by decide +kernel
theorem dX10_copies_24 : decode cX10_copies 24 = .ok (.iadd, 1) := by decide +kernel
theorem dX10_copies_25 : decode cX10_copies 25 = .ok (.iaload, 1) := by decide +kernel
theorem dX10_copies_26 : decode cX10_copies 26 = .ok (.iastore, 1) := by decide +kernel
theorem dX10_copies_27 : decode cX10_copies 27 = .ok (.iinc 4 1, 3) := by decide +kernel
theorem dX10_copies_30 : decode cX10_copies 30 = .ok (.goto (-27), 3) := by decide +kernel
theorem dX10_keptAt_0 : decode cX10_keptAt 0 = .ok (.sipush 700, 3) := by decide +kernel
theorem dX10_keptAt_3 : decode cX10_keptAt 3 = .ok (.sipush 350, 3) := by decide +kernel
theorem dX10_keptAt_6 : decode cX10_keptAt 6 = .ok (.iload_n 0, 1) := by decide +kernel
theorem dX10_keptAt_7 : decode cX10_keptAt 7 = .ok (.iload_n 1, 1) := by decide +kernel
theorem dX10_keptAt_8 : decode cX10_keptAt 8 = .ok (.iadd, 1) := by decide +kernel
theorem dX10_keptAt_9 : decode cX10_keptAt 9 = .ok (.bipush 40, 2) := by decide +kernel
theorem dX10_keptAt_11 : decode cX10_keptAt 11 = .ok (.irem, 1) := by decide +kernel
theorem dX10_keptAt_12 : decode cX10_keptAt 12 = .ok (.imul, 1) := by decide +kernel
theorem dX10_keptAt_13 : decode cX10_keptAt 13 = .ok (.iadd, 1) := by decide +kernel
theorem dX10_keptAt_14 : decode cX10_keptAt 14 = .ok (.ireturn, 1) := by decide +kernel
theorem dX10_keeps_0 : decode cX10_keeps 0 = .ok (.aload_n 0, 1) := by decide +kernel
theorem dX10_keeps_1 : decode cX10_keeps 1 = .ok (.getfield 342, 3) := by decide +kernel
theorem dX10_keeps_4 : decode cX10_keeps 4 = .ok (.bipush 40, 2) := by decide +kernel
theorem dX10_keeps_6 : decode cX10_keeps 6 = .ok (.if_icmp .ne 26, 3) := by decide +kernel
theorem dX10_keeps_32 : decode cX10_keeps 32 = .ok (.aload_n 0, 1) := by decide +kernel
theorem dX10_keeps_33 : decode cX10_keeps 33 = .ok (.iconst 0, 1) := by decide +kernel
theorem dX10_keeps_34 : decode cX10_keeps 34 = .ok (.aload_n 0, 1) := by decide +kernel
theorem dX10_keeps_35 : decode cX10_keeps 35 = .ok (.getfield 339, 3) := by decide +kernel
theorem dX10_keeps_38 : decode cX10_keeps 38 = .ok (.aload_n 0, 1) := by decide +kernel
theorem dX10_keeps_39 : decode cX10_keeps 39 = .ok (.getfield 342, 3) := by decide +kernel
theorem dX10_keeps_42 : decode cX10_keeps 42 = .ok (.invokestatic 388, 3) := by decide +kernel
theorem dX10_keeps_45 : decode cX10_keeps 45 = .ok (.sipush 350, 3) := by decide +kernel
theorem dX10_keeps_48 : decode cX10_keeps 48 = .ok (.invokevirtual 391, 3) := by decide +kernel
theorem dX10_keeps_51 : decode cX10_keeps 51 = .ok (.aload_n 0, 1) := by decide +kernel
theorem dX10_keeps_52 : decode cX10_keeps 52 = .ok (.dup, 1) := by decide +kernel
theorem dX10_keeps_53 : decode cX10_keeps 53 = .ok (.getfield 342, 3) := by decide +kernel
theorem dX10_keeps_56 : decode cX10_keeps 56 = .ok (.iconst 1, 1) := by decide +kernel
theorem dX10_keeps_57 : decode cX10_keeps 57 = .ok (.iadd, 1) := by decide +kernel
theorem dX10_keeps_58 : decode cX10_keeps 58 = .ok (.putfield 342, 3) := by decide +kernel
theorem dX10_keeps_61 : decode cX10_keeps 61 = .ok (.return_, 1) := by decide +kernel
theorem dX10_hourOf_0 : decode cX10_hourOf 0 = .ok (.aload_n 0, 1) := by decide +kernel
theorem dX10_hourOf_1 : decode cX10_hourOf 1 = .ok (.getfield 153, 3) := by decide +kernel
theorem dX10_hourOf_4 : decode cX10_hourOf 4 = .ok (.ifCond .ne 7, 3) := by decide +kernel
theorem dX10_hourOf_7 : decode cX10_hourOf 7 = .ok (.iconst (-1), 1) := by decide +kernel
theorem dX10_hourOf_8 : decode cX10_hourOf 8 = .ok (.goto 16, 3) := by decide +kernel
theorem dX10_hourOf_24 : decode cX10_hourOf 24 = .ok (.ireturn, 1) := by decide +kernel
theorem dX10_airOf_0 : decode cX10_airOf 0 = .ok (.aload_n 0, 1) := by decide +kernel
theorem dX10_airOf_1 : decode cX10_airOf 1 = .ok (.iload_n 1, 1) := by decide +kernel
theorem dX10_airOf_2 : decode cX10_airOf 2 = .ok (.invokevirtual 156, 3) := by decide +kernel
theorem dX10_airOf_5 : decode cX10_airOf 5 = .ok (.istore_n 2, 1) := by decide +kernel
theorem dX10_airOf_6 : decode cX10_airOf 6 = .ok (.iload_n 2, 1) := by decide +kernel
theorem dX10_airOf_7 : decode cX10_airOf 7 = .ok (.iconst (-1), 1) := by decide +kernel
theorem dX10_airOf_8 : decode cX10_airOf 8 = .ok (.if_icmp .ne 7, 3) := by decide +kernel
theorem dX10_airOf_11 : decode cX10_airOf 11 = .ok (.iconst 0, 1) := by decide +kernel
theorem dX10_airOf_12 : decode cX10_airOf 12 = .ok (.goto 35, 3) := by decide +kernel
theorem dX10_airOf_47 : decode cX10_airOf 47 = .ok (.ireturn, 1) := by decide +kernel
theorem dX10_hour_0 : decode cX10_hour 0 = .ok (.aload_n 0, 1) := by decide +kernel
theorem dX10_hour_1 : decode cX10_hour 1 = .ok (.iload_n 1, 1) := by decide +kernel
theorem dX10_hour_2 : decode cX10_hour 2 = .ok (.invokevirtual 195, 3) := by decide +kernel
theorem dX10_hour_5 : decode cX10_hour 5 = .ok (.istore_n 2, 1) := by decide +kernel
theorem dX10_hour_6 : decode cX10_hour 6 = .ok (.iconst 0, 1) := by decide +kernel
theorem dX10_hour_7 : decode cX10_hour 7 = .ok (.istore_n 3, 1) := by decide +kernel
theorem dX10_hour_8 : decode cX10_hour 8 = .ok (.iload_n 3, 1) := by decide +kernel
theorem dX10_hour_9 : decode cX10_hour 9 = .ok (.aload_n 0, 1) := by decide +kernel
theorem dX10_hour_10 : decode cX10_hour 10 = .ok (.getfield 198, 3) := by decide +kernel
theorem dX10_hour_13 : decode cX10_hour 13 = .ok (.if_icmp .ge 48, 3) := by decide +kernel
theorem dX10_hour_61 : decode cX10_hour 61 = .ok (.aload_n 0, 1) := by decide +kernel
theorem dX10_hour_62 : decode cX10_hour 62 = .ok (.getfield 9, 3) := by decide +kernel
theorem dX10_hour_65 : decode cX10_hour 65 = .ok (.iload_n 1, 1) := by decide +kernel
theorem dX10_hour_66 : decode cX10_hour 66 = .ok (.iconst 0, 1) := by decide +kernel
theorem dX10_hour_67 : decode cX10_hour 67 = .ok (.iadd, 1) := by decide +kernel
theorem dX10_hour_68 : decode cX10_hour 68 = .ok (.dup2, 1) := by decide +kernel
theorem dX10_hour_69 : decode cX10_hour 69 = .ok (.iaload, 1) := by decide +kernel
theorem dX10_hour_70 : decode cX10_hour 70 = .ok (.iconst 1, 1) := by decide +kernel
theorem dX10_hour_71 : decode cX10_hour 71 = .ok (.iadd, 1) := by decide +kernel
theorem dX10_hour_72 : decode cX10_hour 72 = .ok (.iastore, 1) := by decide +kernel
theorem dX10_hour_73 : decode cX10_hour 73 = .ok (.return_, 1) := by decide +kernel
theorem dX10_goes_0 : decode cX10_goes 0 = .ok (.iconst 0, 1) := by decide +kernel
theorem dX10_goes_1 : decode cX10_goes 1 = .ok (.istore_n 3, 1) := by decide +kernel
theorem dX10_goes_2 : decode cX10_goes 2 = .ok (.iload_n 3, 1) := by decide +kernel
theorem dX10_goes_3 : decode cX10_goes 3 = .ok (.iload_n 2, 1) := by decide +kernel
theorem dX10_goes_4 : decode cX10_goes 4 = .ok (.if_icmp .ge 14, 3) := by decide +kernel
theorem dX10_goes_18 : decode cX10_goes 18 = .ok (.return_, 1) := by decide +kernel
theorem dX10_goes_7 : decode cX10_goes 7 = .ok (.aload_n 0, 1) := by decide +kernel
theorem dX10_goes_8 : decode cX10_goes 8 = .ok (.iload_n 1, 1) := by decide +kernel
theorem dX10_goes_9 : decode cX10_goes 9 = .ok (.invokevirtual 219, 3) := by decide +kernel
theorem dX10_goes_12 : decode cX10_goes 12 = .ok (.iinc 3 1, 3) := by decide +kernel
theorem dX10_goes_15 : decode cX10_goes 15 = .ok (.goto (-13), 3) := by decide +kernel
theorem dX10_tries_0 : decode cX10_tries 0 = .ok (.aload_n 0, 1) := by decide +kernel
theorem dX10_tries_1 : decode cX10_tries 1 = .ok (.iconst 0, 1) := by decide +kernel
theorem dX10_tries_2 : decode cX10_tries 2 = .ok (.sipush 350, 3) := by decide +kernel
theorem dX10_tries_5 : decode cX10_tries 5 = .ok (.sipush 350, 3) := by decide +kernel
theorem dX10_tries_8 : decode cX10_tries 8 = .ok (.invokevirtual 391, 3) := by decide +kernel
theorem dX10_tries_11 : decode cX10_tries 11 = .ok (.return_, 1) := by decide +kernel
theorem dX10_fault_0 : decode cX10_fault 0 = .ok (.aload_n 0, 1) := by decide +kernel
theorem dX10_fault_1 : decode cX10_fault 1 = .ok (.iconst 0, 1) := by decide +kernel
theorem dX10_fault_2 : decode cX10_fault 2 = .ok (.putfield 110, 3) := by decide +kernel
theorem dX10_fault_5 : decode cX10_fault 5 = .ok (.aload_n 0, 1) := by decide +kernel
theorem dX10_fault_6 : decode cX10_fault 6 = .ok (.getfield 49, 3) := by decide +kernel
theorem dX10_fault_9 : decode cX10_fault 9 = .ok (.ireturn, 1) := by decide +kernel
theorem dX10_undo_0 : decode cX10_undo 0 = .ok (.aload_n 0, 1) := by decide +kernel
theorem dX10_undo_1 : decode cX10_undo 1 = .ok (.iconst 0, 1) := by decide +kernel
theorem dX10_undo_2 : decode cX10_undo 2 = .ok (.putfield 110, 3) := by decide +kernel
theorem dX10_undo_5 : decode cX10_undo 5 = .ok (.aload_n 0, 1) := by decide +kernel
theorem dX10_undo_6 : decode cX10_undo 6 = .ok (.getfield 342, 3) := by decide +kernel
theorem dX10_undo_9 : decode cX10_undo 9 = .ok (.ifCond .ne 5, 3) := by decide +kernel
theorem dX10_undo_12 : decode cX10_undo 12 = .ok (.iconst (-1), 1) := by decide +kernel
theorem dX10_undo_13 : decode cX10_undo 13 = .ok (.ireturn, 1) := by decide +kernel
theorem dX10_restore_0 : decode cX10_restore 0 = .ok (.aload_n 0, 1) := by decide +kernel
theorem dX10_restore_1 : decode cX10_restore 1 = .ok (.iconst 0, 1) := by decide +kernel
theorem dX10_restore_2 : decode cX10_restore 2 = .ok (.putfield 110, 3) := by decide +kernel
theorem dX10_restore_5 : decode cX10_restore 5 = .ok (.aload_n 0, 1) := by decide +kernel
theorem dX10_restore_6 : decode cX10_restore 6 = .ok (.getfield 333, 3) := by decide +kernel
theorem dX10_restore_9 : decode cX10_restore 9 = .ok (.ifCond .ne 5, 3) := by decide +kernel
theorem dX10_restore_12 : decode cX10_restore 12 = .ok (.iconst 0, 1) := by decide +kernel
theorem dX10_restore_13 : decode cX10_restore 13 = .ok (.ireturn, 1) := by decide +kernel
theorem dX10_forget_0 : decode cX10_forget 0 = .ok (.aload_n 0, 1) := by decide +kernel
theorem dX10_forget_1 : decode cX10_forget 1 = .ok (.iconst 0, 1) := by decide +kernel
theorem dX10_forget_2 : decode cX10_forget 2 = .ok (.putfield 110, 3) := by decide +kernel
theorem dX10_forget_5 : decode cX10_forget 5 = .ok (.aload_n 0, 1) := by decide +kernel
theorem dX10_forget_6 : decode cX10_forget 6 = .ok (.iconst 0, 1) := by decide +kernel
theorem dX10_forget_7 : decode cX10_forget 7 = .ok (.putfield 336, 3) := by decide +kernel
theorem dX10_forget_10 : decode cX10_forget 10 = .ok (.return_, 1) := by decide +kernel
theorem dX10_forecast_0 : decode cX10_forecast 0 = .ok (.aload_n 0, 1) := by decide +kernel
theorem dX10_forecast_1 : decode cX10_forecast 1 = .ok (.iconst 0, 1) := by decide +kernel
theorem dX10_forecast_2 : decode cX10_forecast 2 = .ok (.putfield 110, 3) := by decide +kernel
theorem dX10_forecast_5 : decode cX10_forecast 5 = .ok (.aload_n 0, 1) := by decide +kernel
theorem dX10_forecast_6 : decode cX10_forecast 6 = .ok (.iload_n 1, 1) := by decide +kernel
theorem dX10_forecast_7 : decode cX10_forecast 7 = .ok (.iconst 0, 1) := by decide +kernel
theorem dX10_forecast_8 : decode cX10_forecast 8 = .ok (.aload_n 0, 1) := by decide +kernel
theorem dX10_forecast_9 : decode cX10_forecast 9 = .ok (.getfield 153, 3) := by decide +kernel
theorem dX10_forecast_12 : decode cX10_forecast 12 = .ok (.iconst 1, 1) := by decide +kernel
theorem dX10_forecast_13 : decode cX10_forecast 13 = .ok (.isub, 1) := by decide +kernel
theorem dX10_forecast_14 : decode cX10_forecast 14 = .ok (.invokestatic 281, 3) := by decide +kernel
theorem dX10_forecast_17 : decode cX10_forecast 17 = .ok (.ifCond .eq 16, 3) := by decide +kernel
theorem dX10_forecast_33 : decode cX10_forecast 33 = .ok (.iconst 0, 1) := by decide +kernel
theorem dX10_forecast_34 : decode cX10_forecast 34 = .ok (.iconst 1, 1) := by decide +kernel
theorem dX10_forecast_35 : decode cX10_forecast 35 = .ok (.invokevirtual 324, 3) := by decide +kernel
theorem dX10_forecast_38 : decode cX10_forecast 38 = .ok (.ifCond .ne 5, 3) := by decide +kernel
theorem dX10_forecast_41 : decode cX10_forecast 41 = .ok (.iconst 0, 1) := by decide +kernel
theorem dX10_forecast_42 : decode cX10_forecast 42 = .ok (.ireturn, 1) := by decide +kernel
theorem dX10_slope_0 : decode cX10_slope 0 = .ok (.aload_n 0, 1) := by decide +kernel
theorem dX10_slope_1 : decode cX10_slope 1 = .ok (.iconst 0, 1) := by decide +kernel
theorem dX10_slope_2 : decode cX10_slope 2 = .ok (.putfield 110, 3) := by decide +kernel
theorem dX10_slope_5 : decode cX10_slope 5 = .ok (.aload_n 0, 1) := by decide +kernel
theorem dX10_slope_6 : decode cX10_slope 6 = .ok (.iload_n 1, 1) := by decide +kernel
theorem dX10_slope_7 : decode cX10_slope 7 = .ok (.invokevirtual 360, 3) := by decide +kernel
theorem dX10_slope_10 : decode cX10_slope 10 = .ok (.ifCond .eq 18, 3) := by decide +kernel
theorem dX10_slope_28 : decode cX10_slope 28 = .ok (.iconst 0, 1) := by decide +kernel
theorem dX10_slope_29 : decode cX10_slope 29 = .ok (.ireturn, 1) := by decide +kernel
theorem dX10_layer_0 : decode cX10_layer 0 = .ok (.aload_n 0, 1) := by decide +kernel
theorem dX10_layer_1 : decode cX10_layer 1 = .ok (.iconst 0, 1) := by decide +kernel
theorem dX10_layer_2 : decode cX10_layer 2 = .ok (.putfield 110, 3) := by decide +kernel
theorem dX10_layer_5 : decode cX10_layer 5 = .ok (.aload_n 0, 1) := by decide +kernel
theorem dX10_layer_6 : decode cX10_layer 6 = .ok (.iload_n 1, 1) := by decide +kernel
theorem dX10_layer_7 : decode cX10_layer 7 = .ok (.iload_n 2, 1) := by decide +kernel
theorem dX10_layer_8 : decode cX10_layer 8 = .ok (.invokevirtual 370, 3) := by decide +kernel
theorem dX10_layer_11 : decode cX10_layer 11 = .ok (.ifCond .eq 18, 3) := by decide +kernel
theorem dX10_layer_29 : decode cX10_layer 29 = .ok (.iconst 0, 1) := by decide +kernel
theorem dX10_layer_30 : decode cX10_layer 30 = .ok (.ireturn, 1) := by decide +kernel
theorem dX10_told_0 : decode cX10_told 0 = .ok (.aload_n 0, 1) := by decide +kernel
theorem dX10_told_1 : decode cX10_told 1 = .ok (.iconst 0, 1) := by decide +kernel
theorem dX10_told_2 : decode cX10_told 2 = .ok (.putfield 110, 3) := by decide +kernel
theorem dX10_told_5 : decode cX10_told 5 = .ok (.aload_n 0, 1) := by decide +kernel
theorem dX10_told_6 : decode cX10_told 6 = .ok (.iload_n 1, 1) := by decide +kernel
theorem dX10_told_7 : decode cX10_told 7 = .ok (.iload_n 2, 1) := by decide +kernel
theorem dX10_told_8 : decode cX10_told 8 = .ok (.invokevirtual 370, 3) := by decide +kernel
theorem dX10_told_11 : decode cX10_told 11 = .ok (.ifCond .ne 5, 3) := by decide +kernel
theorem dX10_told_14 : decode cX10_told 14 = .ok (.iconst 0, 1) := by decide +kernel
theorem dX10_told_15 : decode cX10_told 15 = .ok (.ireturn, 1) := by decide +kernel
theorem dX10_then_0 : decode cX10_then 0 = .ok (.aload_n 0, 1) := by decide +kernel
theorem dX10_then_1 : decode cX10_then 1 = .ok (.iconst 0, 1) := by decide +kernel
theorem dX10_then_2 : decode cX10_then 2 = .ok (.putfield 110, 3) := by decide +kernel
theorem dX10_then_5 : decode cX10_then 5 = .ok (.aload_n 0, 1) := by decide +kernel
theorem dX10_then_6 : decode cX10_then 6 = .ok (.iload_n 1, 1) := by decide +kernel
theorem dX10_then_7 : decode cX10_then 7 = .ok (.invokevirtual 360, 3) := by decide +kernel
theorem dX10_then_10 : decode cX10_then 10 = .ok (.ifCond .eq 33, 3) := by decide +kernel
theorem dX10_then_43 : decode cX10_then 43 = .ok (.iconst 0, 1) := by decide +kernel
theorem dX10_then_44 : decode cX10_then 44 = .ok (.ireturn, 1) := by decide +kernel
theorem dX10_once_0 : decode cX10_once 0 = .ok (.aload_n 0, 1) := by decide +kernel
theorem dX10_once_1 : decode cX10_once 1 = .ok (.iconst 0, 1) := by decide +kernel
theorem dX10_once_2 : decode cX10_once 2 = .ok (.putfield 110, 3) := by decide +kernel
theorem dX10_once_5 : decode cX10_once 5 = .ok (.aload_n 0, 1) := by decide +kernel
theorem dX10_once_6 : decode cX10_once 6 = .ok (.iload_n 1, 1) := by decide +kernel
theorem dX10_once_7 : decode cX10_once 7 = .ok (.invokevirtual 360, 3) := by decide +kernel
theorem dX10_once_10 : decode cX10_once 10 = .ok (.ifCond .eq 17, 3) := by decide +kernel
theorem dX10_once_27 : decode cX10_once 27 = .ok (.iconst 0, 1) := by decide +kernel
theorem dX10_once_28 : decode cX10_once 28 = .ok (.ireturn, 1) := by decide +kernel
theorem dX10_gone_0 : decode cX10_gone 0 = .ok (.aload_n 0, 1) := by decide +kernel
theorem dX10_gone_1 : decode cX10_gone 1 = .ok (.iconst 0, 1) := by decide +kernel
theorem dX10_gone_2 : decode cX10_gone 2 = .ok (.putfield 110, 3) := by decide +kernel
theorem dX10_gone_5 : decode cX10_gone 5 = .ok (.aload_n 0, 1) := by decide +kernel
theorem dX10_gone_6 : decode cX10_gone 6 = .ok (.iload_n 1, 1) := by decide +kernel
theorem dX10_gone_7 : decode cX10_gone 7 = .ok (.iconst 0, 1) := by decide +kernel
theorem dX10_gone_8 : decode cX10_gone 8 = .ok (.aload_n 0, 1) := by decide +kernel
theorem dX10_gone_9 : decode cX10_gone 9 = .ok (.getfield 9, 3) := by decide +kernel
theorem dX10_gone_12 : decode cX10_gone 12 = .ok (.iconst 1, 1) := by decide +kernel
theorem dX10_gone_13 : decode cX10_gone 13 = .ok (.iaload, 1) := by decide +kernel
theorem dX10_gone_14 : decode cX10_gone 14 = .ok (.iconst 1, 1) := by decide +kernel
theorem dX10_gone_15 : decode cX10_gone 15 = .ok (.isub, 1) := by decide +kernel
theorem dX10_gone_16 : decode cX10_gone 16 = .ok (.invokestatic 281, 3) := by decide +kernel
theorem dX10_gone_19 : decode cX10_gone 19 = .ok (.iconst 1, 1) := by decide +kernel
theorem dX10_gone_20 : decode cX10_gone 20 = .ok (.invokevirtual 324, 3) := by decide +kernel
theorem dX10_gone_23 : decode cX10_gone 23 = .ok (.ifCond .ne 5, 3) := by decide +kernel
theorem dX10_gone_26 : decode cX10_gone 26 = .ok (.iconst 0, 1) := by decide +kernel
theorem dX10_gone_27 : decode cX10_gone 27 = .ok (.ireturn, 1) := by decide +kernel
theorem dX10_stands_0 : decode cX10_stands 0 = .ok (.aload_n 0, 1) := by decide +kernel
theorem dX10_stands_1 : decode cX10_stands 1 = .ok (.iconst 0, 1) := by decide +kernel
theorem dX10_stands_2 : decode cX10_stands 2 = .ok (.putfield 110, 3) := by decide +kernel
theorem dX10_stands_5 : decode cX10_stands 5 = .ok (.aload_n 0, 1) := by decide +kernel
theorem dX10_stands_6 : decode cX10_stands 6 = .ok (.iload_n 1, 1) := by decide +kernel
theorem dX10_stands_7 : decode cX10_stands 7 = .ok (.invokevirtual 360, 3) := by decide +kernel
theorem dX10_stands_10 : decode cX10_stands 10 = .ok (.ifCond .eq 17, 3) := by decide +kernel
theorem dX10_stands_27 : decode cX10_stands 27 = .ok (.iconst 0, 1) := by decide +kernel
theorem dX10_stands_28 : decode cX10_stands 28 = .ok (.ireturn, 1) := by decide +kernel
theorem dX10_toLoad_0 : decode cX10_toLoad 0 = .ok (.aload_n 0, 1) := by decide +kernel
theorem dX10_toLoad_1 : decode cX10_toLoad 1 = .ok (.iconst 0, 1) := by decide +kernel
theorem dX10_toLoad_2 : decode cX10_toLoad 2 = .ok (.putfield 110, 3) := by decide +kernel
theorem dX10_toLoad_5 : decode cX10_toLoad 5 = .ok (.aload_n 0, 1) := by decide +kernel
theorem dX10_toLoad_6 : decode cX10_toLoad 6 = .ok (.iload_n 1, 1) := by decide +kernel
theorem dX10_toLoad_7 : decode cX10_toLoad 7 = .ok (.invokevirtual 360, 3) := by decide +kernel
theorem dX10_toLoad_10 : decode cX10_toLoad 10 = .ok (.ifCond .ne 5, 3) := by decide +kernel
theorem dX10_toLoad_13 : decode cX10_toLoad 13 = .ok (.iconst 0, 1) := by decide +kernel
theorem dX10_toLoad_14 : decode cX10_toLoad 14 = .ok (.ireturn, 1) := by decide +kernel
theorem dX10_steepest_0 : decode cX10_steepest 0 = .ok (.aload_n 0, 1) := by decide +kernel
theorem dX10_steepest_1 : decode cX10_steepest 1 = .ok (.iconst 0, 1) := by decide +kernel
theorem dX10_steepest_2 : decode cX10_steepest 2 = .ok (.putfield 110, 3) := by decide +kernel
theorem dX10_steepest_5 : decode cX10_steepest 5 = .ok (.aload_n 0, 1) := by decide +kernel
theorem dX10_steepest_6 : decode cX10_steepest 6 = .ok (.iload_n 1, 1) := by decide +kernel
theorem dX10_steepest_7 : decode cX10_steepest 7 = .ok (.invokevirtual 360, 3) := by decide +kernel
theorem dX10_steepest_10 : decode cX10_steepest 10 = .ok (.ifCond .ne 5, 3) := by decide +kernel
theorem dX10_steepest_13 : decode cX10_steepest 13 = .ok (.iconst 0, 1) := by decide +kernel
theorem dX10_steepest_14 : decode cX10_steepest 14 = .ok (.ireturn, 1) := by decide +kernel
theorem dX10_toWarm_0 : decode cX10_toWarm 0 = .ok (.aload_n 0, 1) := by decide +kernel
theorem dX10_toWarm_1 : decode cX10_toWarm 1 = .ok (.iconst 0, 1) := by decide +kernel
theorem dX10_toWarm_2 : decode cX10_toWarm 2 = .ok (.putfield 110, 3) := by decide +kernel
theorem dX10_toWarm_5 : decode cX10_toWarm 5 = .ok (.aload_n 0, 1) := by decide +kernel
theorem dX10_toWarm_6 : decode cX10_toWarm 6 = .ok (.iload_n 1, 1) := by decide +kernel
theorem dX10_toWarm_7 : decode cX10_toWarm 7 = .ok (.invokevirtual 360, 3) := by decide +kernel
theorem dX10_toWarm_10 : decode cX10_toWarm 10 = .ok (.ifCond .eq 18, 3) := by decide +kernel
theorem dX10_toWarm_28 : decode cX10_toWarm 28 = .ok (.iconst 0, 1) := by decide +kernel
theorem dX10_toWarm_29 : decode cX10_toWarm 29 = .ok (.ireturn, 1) := by decide +kernel
theorem dX10_matters_0 : decode cX10_matters 0 = .ok (.aload_n 0, 1) := by decide +kernel
theorem dX10_matters_1 : decode cX10_matters 1 = .ok (.iconst 0, 1) := by decide +kernel
theorem dX10_matters_2 : decode cX10_matters 2 = .ok (.putfield 110, 3) := by decide +kernel
theorem dX10_matters_5 : decode cX10_matters 5 = .ok (.aload_n 0, 1) := by decide +kernel
theorem dX10_matters_6 : decode cX10_matters 6 = .ok (.iload_n 1, 1) := by decide +kernel
theorem dX10_matters_7 : decode cX10_matters 7 = .ok (.invokevirtual 360, 3) := by decide +kernel
theorem dX10_matters_10 : decode cX10_matters 10 = .ok (.ifCond .eq 32, 3) := by decide +kernel
theorem dX10_matters_42 : decode cX10_matters 42 = .ok (.iconst 0, 1) := by decide +kernel
theorem dX10_matters_43 : decode cX10_matters 43 = .ok (.ireturn, 1) := by decide +kernel
theorem dX10_pitOf_0 : decode cX10_pitOf 0 = .ok (.aload_n 0, 1) := by decide +kernel
theorem dX10_pitOf_1 : decode cX10_pitOf 1 = .ok (.iconst 0, 1) := by decide +kernel
theorem dX10_pitOf_2 : decode cX10_pitOf 2 = .ok (.putfield 110, 3) := by decide +kernel
theorem dX10_pitOf_5 : decode cX10_pitOf 5 = .ok (.aload_n 0, 1) := by decide +kernel
theorem dX10_pitOf_6 : decode cX10_pitOf 6 = .ok (.iload_n 1, 1) := by decide +kernel
theorem dX10_pitOf_7 : decode cX10_pitOf 7 = .ok (.invokevirtual 421, 3) := by decide +kernel
theorem dX10_pitOf_10 : decode cX10_pitOf 10 = .ok (.ifCond .eq 17, 3) := by decide +kernel
theorem dX10_pitOf_27 : decode cX10_pitOf 27 = .ok (.iconst 0, 1) := by decide +kernel
theorem dX10_pitOf_28 : decode cX10_pitOf 28 = .ok (.ireturn, 1) := by decide +kernel
theorem dX10_compare_0 : decode cX10_compare 0 = .ok (.aload_n 0, 1) := by decide +kernel
theorem dX10_compare_1 : decode cX10_compare 1 = .ok (.iconst 0, 1) := by decide +kernel
theorem dX10_compare_2 : decode cX10_compare 2 = .ok (.putfield 110, 3) := by decide +kernel
theorem dX10_compare_5 : decode cX10_compare 5 = .ok (.aload_n 0, 1) := by decide +kernel
theorem dX10_compare_6 : decode cX10_compare 6 = .ok (.iload_n 1, 1) := by decide +kernel
theorem dX10_compare_7 : decode cX10_compare 7 = .ok (.invokevirtual 421, 3) := by decide +kernel
theorem dX10_compare_10 : decode cX10_compare 10 = .ok (.ifCond .eq 25, 3) := by decide +kernel
theorem dX10_compare_35 : decode cX10_compare 35 = .ok (.iconst 0, 1) := by decide +kernel
theorem dX10_compare_36 : decode cX10_compare 36 = .ok (.ireturn, 1) := by decide +kernel
theorem dX10_nearest_0 : decode cX10_nearest 0 = .ok (.aload_n 0, 1) := by decide +kernel
theorem dX10_nearest_1 : decode cX10_nearest 1 = .ok (.iconst 0, 1) := by decide +kernel
theorem dX10_nearest_2 : decode cX10_nearest 2 = .ok (.putfield 110, 3) := by decide +kernel
theorem dX10_nearest_5 : decode cX10_nearest 5 = .ok (.aload_n 0, 1) := by decide +kernel
theorem dX10_nearest_6 : decode cX10_nearest 6 = .ok (.iload_n 1, 1) := by decide +kernel
theorem dX10_nearest_7 : decode cX10_nearest 7 = .ok (.invokevirtual 421, 3) := by decide +kernel
theorem dX10_nearest_10 : decode cX10_nearest 10 = .ok (.ifCond .ne 5, 3) := by decide +kernel
theorem dX10_nearest_13 : decode cX10_nearest 13 = .ok (.iconst 0, 1) := by decide +kernel
theorem dX10_nearest_14 : decode cX10_nearest 14 = .ok (.ireturn, 1) := by decide +kernel
theorem dX10_odds_0 : decode cX10_odds 0 = .ok (.aload_n 0, 1) := by decide +kernel
theorem dX10_odds_1 : decode cX10_odds 1 = .ok (.iconst 0, 1) := by decide +kernel
theorem dX10_odds_2 : decode cX10_odds 2 = .ok (.putfield 110, 3) := by decide +kernel
theorem dX10_odds_5 : decode cX10_odds 5 = .ok (.aload_n 0, 1) := by decide +kernel
theorem dX10_odds_6 : decode cX10_odds 6 = .ok (.iload_n 1, 1) := by decide +kernel
theorem dX10_odds_7 : decode cX10_odds 7 = .ok (.invokevirtual 360, 3) := by decide +kernel
theorem dX10_odds_10 : decode cX10_odds 10 = .ok (.ifCond .eq 36, 3) := by decide +kernel
theorem dX10_odds_46 : decode cX10_odds 46 = .ok (.iconst 0, 1) := by decide +kernel
theorem dX10_odds_47 : decode cX10_odds 47 = .ok (.ireturn, 1) := by decide +kernel
theorem dX10_fall_0 : decode cX10_fall 0 = .ok (.aload_n 0, 1) := by decide +kernel
theorem dX10_fall_1 : decode cX10_fall 1 = .ok (.iconst 0, 1) := by decide +kernel
theorem dX10_fall_2 : decode cX10_fall 2 = .ok (.putfield 110, 3) := by decide +kernel
theorem dX10_fall_5 : decode cX10_fall 5 = .ok (.iload_n 1, 1) := by decide +kernel
theorem dX10_fall_6 : decode cX10_fall 6 = .ok (.iconst 0, 1) := by decide +kernel
theorem dX10_fall_7 : decode cX10_fall 7 = .ok (.aload_n 0, 1) := by decide +kernel
theorem dX10_fall_8 : decode cX10_fall 8 = .ok (.getfield 198, 3) := by decide +kernel
theorem dX10_fall_11 : decode cX10_fall 11 = .ok (.iconst 1, 1) := by decide +kernel
theorem dX10_fall_12 : decode cX10_fall 12 = .ok (.isub, 1) := by decide +kernel
theorem dX10_fall_13 : decode cX10_fall 13 = .ok (.invokestatic 281, 3) := by decide +kernel
theorem dX10_fall_16 : decode cX10_fall 16 = .ok (.ifCond .eq 40, 3) := by decide +kernel
theorem dX10_fall_56 : decode cX10_fall 56 = .ok (.aload_n 0, 1) := by decide +kernel
theorem dX10_fall_57 : decode cX10_fall 57 = .ok (.iconst 1, 1) := by decide +kernel
theorem dX10_fall_58 : decode cX10_fall 58 = .ok (.invokevirtual 394, 3) := by decide +kernel
theorem dX10_fall_61 : decode cX10_fall 61 = .ok (.ireturn, 1) := by decide +kernel
theorem dX10_dig_0 : decode cX10_dig 0 = .ok (.aload_n 0, 1) := by decide +kernel
theorem dX10_dig_1 : decode cX10_dig 1 = .ok (.iconst 0, 1) := by decide +kernel
theorem dX10_dig_2 : decode cX10_dig 2 = .ok (.putfield 110, 3) := by decide +kernel
theorem dX10_dig_5 : decode cX10_dig 5 = .ok (.iload_n 1, 1) := by decide +kernel
theorem dX10_dig_6 : decode cX10_dig 6 = .ok (.iconst 0, 1) := by decide +kernel
theorem dX10_dig_7 : decode cX10_dig 7 = .ok (.aload_n 0, 1) := by decide +kernel
theorem dX10_dig_8 : decode cX10_dig 8 = .ok (.getfield 198, 3) := by decide +kernel
theorem dX10_dig_11 : decode cX10_dig 11 = .ok (.iconst 1, 1) := by decide +kernel
theorem dX10_dig_12 : decode cX10_dig 12 = .ok (.isub, 1) := by decide +kernel
theorem dX10_dig_13 : decode cX10_dig 13 = .ok (.invokestatic 281, 3) := by decide +kernel
theorem dX10_dig_16 : decode cX10_dig 16 = .ok (.ifCond .eq 12, 3) := by decide +kernel
theorem dX10_dig_28 : decode cX10_dig 28 = .ok (.aload_n 0, 1) := by decide +kernel
theorem dX10_dig_29 : decode cX10_dig 29 = .ok (.iconst 1, 1) := by decide +kernel
theorem dX10_dig_30 : decode cX10_dig 30 = .ok (.invokevirtual 394, 3) := by decide +kernel
theorem dX10_dig_33 : decode cX10_dig 33 = .ok (.ireturn, 1) := by decide +kernel
theorem dX10_slide_0 : decode cX10_slide 0 = .ok (.aload_n 0, 1) := by decide +kernel
theorem dX10_slide_1 : decode cX10_slide 1 = .ok (.iconst 0, 1) := by decide +kernel
theorem dX10_slide_2 : decode cX10_slide 2 = .ok (.putfield 110, 3) := by decide +kernel
theorem dX10_slide_5 : decode cX10_slide 5 = .ok (.iload_n 1, 1) := by decide +kernel
theorem dX10_slide_6 : decode cX10_slide 6 = .ok (.iconst 0, 1) := by decide +kernel
theorem dX10_slide_7 : decode cX10_slide 7 = .ok (.aload_n 0, 1) := by decide +kernel
theorem dX10_slide_8 : decode cX10_slide 8 = .ok (.getfield 198, 3) := by decide +kernel
theorem dX10_slide_11 : decode cX10_slide 11 = .ok (.iconst 1, 1) := by decide +kernel
theorem dX10_slide_12 : decode cX10_slide 12 = .ok (.isub, 1) := by decide +kernel
theorem dX10_slide_13 : decode cX10_slide 13 = .ok (.invokestatic 281, 3) := by decide +kernel
theorem dX10_slide_16 : decode cX10_slide 16 = .ok (.ifCond .eq 12, 3) := by decide +kernel
theorem dX10_slide_28 : decode cX10_slide 28 = .ok (.aload_n 0, 1) := by decide +kernel
theorem dX10_slide_29 : decode cX10_slide 29 = .ok (.iconst 1, 1) := by decide +kernel
theorem dX10_slide_30 : decode cX10_slide 30 = .ok (.invokevirtual 394, 3) := by decide +kernel
theorem dX10_slide_33 : decode cX10_slide 33 = .ok (.ireturn, 1) := by decide +kernel
theorem dX10_pit_0 : decode cX10_pit 0 = .ok (.aload_n 0, 1) := by decide +kernel
theorem dX10_pit_1 : decode cX10_pit 1 = .ok (.iconst 0, 1) := by decide +kernel
theorem dX10_pit_2 : decode cX10_pit 2 = .ok (.putfield 110, 3) := by decide +kernel
theorem dX10_pit_5 : decode cX10_pit 5 = .ok (.iload_n 1, 1) := by decide +kernel
theorem dX10_pit_6 : decode cX10_pit 6 = .ok (.iconst 0, 1) := by decide +kernel
theorem dX10_pit_7 : decode cX10_pit 7 = .ok (.aload_n 0, 1) := by decide +kernel
theorem dX10_pit_8 : decode cX10_pit 8 = .ok (.getfield 198, 3) := by decide +kernel
theorem dX10_pit_11 : decode cX10_pit 11 = .ok (.iconst 1, 1) := by decide +kernel
theorem dX10_pit_12 : decode cX10_pit 12 = .ok (.isub, 1) := by decide +kernel
theorem dX10_pit_13 : decode cX10_pit 13 = .ok (.invokestatic 281, 3) := by decide +kernel
theorem dX10_pit_16 : decode cX10_pit 16 = .ok (.ifCond .eq 14, 3) := by decide +kernel
theorem dX10_pit_30 : decode cX10_pit 30 = .ok (.aload_n 0, 1) := by decide +kernel
theorem dX10_pit_31 : decode cX10_pit 31 = .ok (.iconst 1, 1) := by decide +kernel
theorem dX10_pit_32 : decode cX10_pit 32 = .ok (.invokevirtual 394, 3) := by decide +kernel
theorem dX10_pit_35 : decode cX10_pit 35 = .ok (.ireturn, 1) := by decide +kernel
theorem dX10_note_0 : decode cX10_note 0 = .ok (.aload_n 0, 1) := by decide +kernel
theorem dX10_note_1 : decode cX10_note 1 = .ok (.iconst 0, 1) := by decide +kernel
theorem dX10_note_2 : decode cX10_note 2 = .ok (.putfield 110, 3) := by decide +kernel
theorem dX10_note_5 : decode cX10_note 5 = .ok (.aload_n 0, 1) := by decide +kernel
theorem dX10_note_6 : decode cX10_note 6 = .ok (.getfield 336, 3) := by decide +kernel
theorem dX10_note_9 : decode cX10_note 9 = .ok (.bipush 8, 2) := by decide +kernel
theorem dX10_note_11 : decode cX10_note 11 = .ok (.if_icmp .eq 38, 3) := by decide +kernel
theorem dX10_note_14 : decode cX10_note 14 = .ok (.iload_n 1, 1) := by decide +kernel
theorem dX10_note_15 : decode cX10_note 15 = .ok (.iconst 0, 1) := by decide +kernel
theorem dX10_note_16 : decode cX10_note 16 = .ok (.aload_n 0, 1) := by decide +kernel
theorem dX10_note_17 : decode cX10_note 17 = .ok (.getfield 198, 3) := by decide +kernel
theorem dX10_note_20 : decode cX10_note 20 = .ok (.iconst 1, 1) := by decide +kernel
theorem dX10_note_21 : decode cX10_note 21 = .ok (.isub, 1) := by decide +kernel
theorem dX10_note_22 : decode cX10_note 22 = .ok (.invokestatic 281, 3) := by decide +kernel
theorem dX10_note_25 : decode cX10_note 25 = .ok (.ifCond .eq 24, 3) := by decide +kernel
theorem dX10_note_49 : decode cX10_note 49 = .ok (.aload_n 0, 1) := by decide +kernel
theorem dX10_note_50 : decode cX10_note 50 = .ok (.iconst 2, 1) := by decide +kernel
theorem dX10_note_51 : decode cX10_note 51 = .ok (.invokevirtual 394, 3) := by decide +kernel
theorem dX10_note_54 : decode cX10_note 54 = .ok (.ireturn, 1) := by decide +kernel
theorem dX10_hours_0 : decode cX10_hours 0 = .ok (.aload_n 0, 1) := by decide +kernel
theorem dX10_hours_1 : decode cX10_hours 1 = .ok (.iconst 0, 1) := by decide +kernel
theorem dX10_hours_2 : decode cX10_hours 2 = .ok (.putfield 110, 3) := by decide +kernel
theorem dX10_hours_5 : decode cX10_hours 5 = .ok (.iload_n 1, 1) := by decide +kernel
theorem dX10_hours_6 : decode cX10_hours 6 = .ok (.iconst 1, 1) := by decide +kernel
theorem dX10_hours_7 : decode cX10_hours 7 = .ok (.bipush 24, 2) := by decide +kernel
theorem dX10_hours_9 : decode cX10_hours 9 = .ok (.invokestatic 281, 3) := by decide +kernel
theorem dX10_hours_12 : decode cX10_hours 12 = .ok (.ifCond .eq 17, 3) := by decide +kernel
theorem dX10_hours_29 : decode cX10_hours 29 = .ok (.aload_n 0, 1) := by decide +kernel
theorem dX10_hours_30 : decode cX10_hours 30 = .ok (.iconst 1, 1) := by decide +kernel
theorem dX10_hours_31 : decode cX10_hours 31 = .ok (.invokevirtual 394, 3) := by decide +kernel
theorem dX10_hours_34 : decode cX10_hours 34 = .ok (.ireturn, 1) := by decide +kernel
theorem dX10_hours_15 : decode cX10_hours 15 = .ok (.aload_n 0, 1) := by decide +kernel
theorem dX10_hours_16 : decode cX10_hours 16 = .ok (.getfield 9, 3) := by decide +kernel
theorem dX10_hours_19 : decode cX10_hours 19 = .ok (.iconst 0, 1) := by decide +kernel
theorem dX10_hours_20 : decode cX10_hours 20 = .ok (.iaload, 1) := by decide +kernel
theorem dX10_hours_21 : decode cX10_hours 21 = .ok (.iload_n 1, 1) := by decide +kernel
theorem dX10_hours_22 : decode cX10_hours 22 = .ok (.iadd, 1) := by decide +kernel
theorem dX10_hours_23 : decode cX10_hours 23 = .ok (.sipush 2000, 3) := by decide +kernel
theorem dX10_hours_26 : decode cX10_hours 26 = .ok (.if_icmp .le 9, 3) := by decide +kernel
theorem dX10_hours_35 : decode cX10_hours 35 = .ok (.aload_n 0, 1) := by decide +kernel
theorem dX10_hours_36 : decode cX10_hours 36 = .ok (.invokevirtual 397, 3) := by decide +kernel
theorem dX10_hours_39 : decode cX10_hours 39 = .ok (.aload_n 0, 1) := by decide +kernel
theorem dX10_hours_40 : decode cX10_hours 40 = .ok (.iconst 0, 1) := by decide +kernel
theorem dX10_hours_41 : decode cX10_hours 41 = .ok (.iload_n 1, 1) := by decide +kernel
theorem dX10_hours_42 : decode cX10_hours 42 = .ok (.invokevirtual 400, 3) := by decide +kernel
theorem dX10_hours_45 : decode cX10_hours 45 = .ok (.aload_n 0, 1) := by decide +kernel
theorem dX10_hours_46 : decode cX10_hours 46 = .ok (.getfield 9, 3) := by decide +kernel
theorem dX10_hours_49 : decode cX10_hours 49 = .ok (.iconst 0, 1) := by decide +kernel
theorem dX10_hours_50 : decode cX10_hours 50 = .ok (.iaload, 1) := by decide +kernel
theorem dX10_hours_51 : decode cX10_hours 51 = .ok (.ireturn, 1) := by decide +kernel
