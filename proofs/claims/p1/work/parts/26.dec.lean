-- decode rows of feed
theorem dX9_putBytes_0 : decode cX9_putBytes 0 = .ok (.bipush 24, 2) := by decide +kernel
theorem dX9_putBytes_2 : decode cX9_putBytes 2 = .ok (.istore_n 2, 1) := by decide +kernel
theorem dX9_putBytes_3 : decode cX9_putBytes 3 = .ok (.iload_n 2, 1) := by decide +kernel
theorem dX9_putBytes_4 : decode cX9_putBytes 4 = .ok (.ifCond .lt 44, 3) := by decide +kernel
theorem dX9_putBytes_7 : decode cX9_putBytes 7 = .ok (.aload_n 0, 1) := by decide +kernel
theorem dX9_putBytes_8 : decode cX9_putBytes 8 = .ok (.getfield 13, 3) := by decide +kernel
theorem dX9_putBytes_11 : decode cX9_putBytes 11 = .ok (.aload_n 0, 1) := by decide +kernel
theorem dX9_putBytes_12 : decode cX9_putBytes 12 = .ok (.getfield 9, 3) := by decide +kernel
theorem dX9_putBytes_15 : decode cX9_putBytes 15 = .ok (.arraylength, 1) := by decide +kernel
theorem dX9_putBytes_16 : decode cX9_putBytes 16 = .ok (.if_icmp .ge 32, 3) := by decide +kernel
theorem dX9_putBytes_19 : decode cX9_putBytes 19 = .ok (.aload_n 0, 1) := by decide +kernel
theorem dX9_putBytes_20 : decode cX9_putBytes 20 = .ok (.getfield 9, 3) := by decide +kernel
theorem dX9_putBytes_23 : decode cX9_putBytes 23 = .ok (.aload_n 0, 1) := by decide +kernel
theorem dX9_putBytes_24 : decode cX9_putBytes 24 = .ok (.getfield 13, 3) := by decide +kernel
theorem dX9_putBytes_27 : decode cX9_putBytes 27 = .ok (.iload_n 1, 1) := by decide +kernel
theorem dX9_putBytes_28 : decode cX9_putBytes 28 = .ok (.iload_n 2, 1) := by decide +kernel
theorem dX9_putBytes_29 : decode cX9_putBytes 29 = .ok (.iushr, 1) := by decide +kernel
theorem dX9_putBytes_30 : decode cX9_putBytes 30 = .ok (.i2b, 1) := by decide +kernel
theorem dX9_putBytes_31 : decode cX9_putBytes 31 = .ok (.bastore, 1) := by decide +kernel
theorem dX9_putBytes_32 : decode cX9_putBytes 32 = .ok (.aload_n 0, 1) := by decide +kernel
theorem dX9_putBytes_33 : decode cX9_putBytes 33 = .ok (.dup, 1) := by decide +kernel
theorem dX9_putBytes_34 : decode cX9_putBytes 34 = .ok (.getfield 13, 3) := by decide +kernel
theorem dX9_putBytes_37 : decode cX9_putBytes 37 = .ok (.iconst 1, 1) := by decide +kernel
theorem dX9_putBytes_38 : decode cX9_putBytes 38 = .ok (.iadd, 1) := by decide +kernel
theorem dX9_putBytes_39 : decode cX9_putBytes 39 = .ok (.putfield 13, 3) := by decide +kernel
theorem dX9_putBytes_42 : decode cX9_putBytes 42 = .ok (.iinc 2 (-8), 3) := by decide +kernel
theorem dX9_putBytes_45 : decode cX9_putBytes 45 = .ok (.goto (-42), 3) := by decide +kernel
theorem dX9_putBytes_48 : decode cX9_putBytes 48 = .ok (.return_, 1) := by decide +kernel
theorem dX9_feed_0 : decode cX9_feed 0 = .ok (.aload_n 0, 1) := by decide +kernel
theorem dX9_feed_1 : decode cX9_feed 1 = .ok (.getfield 13, 3) := by decide +kernel
theorem dX9_feed_4 : decode cX9_feed 4 = .ok (.bipush 20, 2) := by decide +kernel
theorem dX9_feed_6 : decode cX9_feed 6 = .ok (.iadd, 1) := by decide +kernel
theorem dX9_feed_7 : decode cX9_feed 7 = .ok (.sipush 900, 3) := by decide +kernel
theorem dX9_feed_10 : decode cX9_feed 10 = .ok (.if_icmp .le 5, 3) := by decide +kernel
theorem dX9_feed_15 : decode cX9_feed 15 = .ok (.aload_n 0, 1) := by decide +kernel
theorem dX9_feed_16 : decode cX9_feed 16 = .ok (.iload_n 1, 1) := by decide +kernel
theorem dX9_feed_17 : decode cX9_feed 17 = .ok (.invokevirtual 82, 3) := by decide +kernel
theorem dX9_feed_20 : decode cX9_feed 20 = .ok (.aload_n 0, 1) := by decide +kernel
theorem dX9_feed_21 : decode cX9_feed 21 = .ok (.iload_n 2, 1) := by decide +kernel
theorem dX9_feed_22 : decode cX9_feed 22 = .ok (.invokevirtual 82, 3) := by decide +kernel
theorem dX9_feed_25 : decode cX9_feed 25 = .ok (.aload_n 0, 1) := by decide +kernel
theorem dX9_feed_26 : decode cX9_feed 26 = .ok (.iload_n 3, 1) := by decide +kernel
theorem dX9_feed_27 : decode cX9_feed 27 = .ok (.invokevirtual 82, 3) := by decide +kernel
theorem dX9_feed_30 : decode cX9_feed 30 = .ok (.aload_n 0, 1) := by decide +kernel
theorem dX9_feed_31 : decode cX9_feed 31 = .ok (.iload 4, 2) := by decide +kernel
theorem dX9_feed_33 : decode cX9_feed 33 = .ok (.invokevirtual 82, 3) := by decide +kernel
theorem dX9_feed_36 : decode cX9_feed 36 = .ok (.aload_n 0, 1) := by decide +kernel
theorem dX9_feed_37 : decode cX9_feed 37 = .ok (.iload 5, 2) := by decide +kernel
theorem dX9_feed_39 : decode cX9_feed 39 = .ok (.invokevirtual 82, 3) := by decide +kernel
theorem dX9_feed_42 : decode cX9_feed 42 = .ok (.aload_n 0, 1) := by decide +kernel
theorem dX9_feed_43 : decode cX9_feed 43 = .ok (.getfield 13, 3) := by decide +kernel
theorem dX9_feed_46 : decode cX9_feed 46 = .ok (.ireturn, 1) := by decide +kernel
theorem dX3_sum_0 : decode cX3_sum 0 = .ok (.iconst 0, 1) := by decide +kernel
theorem dX3_sum_1 : decode cX3_sum 1 = .ok (.istore_n 2, 1) := by decide +kernel
theorem dX3_sum_2 : decode cX3_sum 2 = .ok (.iconst 0, 1) := by decide +kernel
theorem dX3_sum_3 : decode cX3_sum 3 = .ok (.istore_n 3, 1) := by decide +kernel
theorem dX3_sum_4 : decode cX3_sum 4 = .ok (.iload_n 3, 1) := by decide +kernel
theorem dX3_sum_5 : decode cX3_sum 5 = .ok (.aload_n 0, 1) := by decide +kernel
theorem dX3_sum_6 : decode cX3_sum 6 = .ok (.getfield 9, 3) := by decide +kernel
theorem dX3_sum_9 : decode cX3_sum 9 = .ok (.if_icmp .ge 20, 3) := by decide +kernel
theorem dX3_sum_29 : decode cX3_sum 29 = .ok (.iload_n 2, 1) := by decide +kernel
theorem dX3_sum_30 : decode cX3_sum 30 = .ok (.ireturn, 1) := by decide +kernel
theorem dX8_layers_0 : decode cX8_layers 0 = .ok (.iconst 0, 1) := by decide +kernel
theorem dX8_layers_1 : decode cX8_layers 1 = .ok (.istore_n 1, 1) := by decide +kernel
theorem dX8_layers_2 : decode cX8_layers 2 = .ok (.iconst 0, 1) := by decide +kernel
theorem dX8_layers_3 : decode cX8_layers 3 = .ok (.istore_n 2, 1) := by decide +kernel
theorem dX8_layers_4 : decode cX8_layers 4 = .ok (.iload_n 2, 1) := by decide +kernel
theorem dX8_layers_5 : decode cX8_layers 5 = .ok (.aload_n 0, 1) := by decide +kernel
theorem dX8_layers_6 : decode cX8_layers 6 = .ok (.getfield 32, 3) := by decide +kernel
theorem dX8_layers_9 : decode cX8_layers 9 = .ok (.arraylength, 1) := by decide +kernel
theorem dX8_layers_10 : decode cX8_layers 10 = .ok (.if_icmp .ge 21, 3) := by decide +kernel
theorem dX8_layers_13 : decode cX8_layers 13 = .ok (.iload_n 1, 1) := by decide +kernel
theorem dX8_layers_14 : decode cX8_layers 14 = .ok (.aload_n 0, 1) := by decide +kernel
theorem dX8_layers_15 : decode cX8_layers 15 = .ok (.getfield 32, 3) := by decide +kernel
theorem dX8_layers_18 : decode cX8_layers 18 = .ok (.iload_n 2, 1) := by decide +kernel
theorem dX8_layers_19 : decode cX8_layers 19 = .ok (.aaload, 1) := by decide +kernel
theorem dX8_layers_20 : decode cX8_layers 20 = .ok (.getfield 44, 3) := by decide +kernel
theorem dX8_layers_23 : decode cX8_layers 23 = .ok (.iadd, 1) := by decide +kernel
theorem dX8_layers_24 : decode cX8_layers 24 = .ok (.istore_n 1, 1) := by decide +kernel
theorem dX8_layers_25 : decode cX8_layers 25 = .ok (.iinc 2 1, 3) := by decide +kernel
theorem dX8_layers_28 : decode cX8_layers 28 = .ok (.goto (-24), 3) := by decide +kernel
theorem dX8_layers_31 : decode cX8_layers 31 = .ok (.iload_n 1, 1) := by decide +kernel
theorem dX8_layers_32 : decode cX8_layers 32 = .ok (.ireturn, 1) := by decide +kernel
theorem dX8_runoff_0 : decode cX8_runoff 0 = .ok (.iconst 0, 1) := by decide +kernel
theorem dX8_runoff_1 : decode cX8_runoff 1 = .ok (.istore_n 1, 1) := by decide +kernel
theorem dX8_runoff_2 : decode cX8_runoff 2 = .ok (.iconst 0, 1) := by decide +kernel
theorem dX8_runoff_3 : decode cX8_runoff 3 = .ok (.istore_n 2, 1) := by decide +kernel
theorem dX8_runoff_4 : decode cX8_runoff 4 = .ok (.iload_n 2, 1) := by decide +kernel
theorem dX8_runoff_5 : decode cX8_runoff 5 = .ok (.aload_n 0, 1) := by decide +kernel
theorem dX8_runoff_6 : decode cX8_runoff 6 = .ok (.getfield 32, 3) := by decide +kernel
theorem dX8_runoff_9 : decode cX8_runoff 9 = .ok (.arraylength, 1) := by decide +kernel
theorem dX8_runoff_10 : decode cX8_runoff 10 = .ok (.if_icmp .ge 21, 3) := by decide +kernel
theorem dX8_runoff_13 : decode cX8_runoff 13 = .ok (.iload_n 1, 1) := by decide +kernel
theorem dX8_runoff_14 : decode cX8_runoff 14 = .ok (.aload_n 0, 1) := by decide +kernel
theorem dX8_runoff_15 : decode cX8_runoff 15 = .ok (.getfield 32, 3) := by decide +kernel
theorem dX8_runoff_18 : decode cX8_runoff 18 = .ok (.iload_n 2, 1) := by decide +kernel
theorem dX8_runoff_19 : decode cX8_runoff 19 = .ok (.aaload, 1) := by decide +kernel
theorem dX8_runoff_20 : decode cX8_runoff 20 = .ok (.getfield 47, 3) := by decide +kernel
theorem dX8_runoff_23 : decode cX8_runoff 23 = .ok (.iadd, 1) := by decide +kernel
theorem dX8_runoff_24 : decode cX8_runoff 24 = .ok (.istore_n 1, 1) := by decide +kernel
theorem dX8_runoff_25 : decode cX8_runoff 25 = .ok (.iinc 2 1, 3) := by decide +kernel
theorem dX8_runoff_28 : decode cX8_runoff 28 = .ok (.goto (-24), 3) := by decide +kernel
theorem dX8_runoff_31 : decode cX8_runoff 31 = .ok (.iload_n 1, 1) := by decide +kernel
theorem dX8_runoff_32 : decode cX8_runoff 32 = .ok (.ireturn, 1) := by decide +kernel
theorem dX8_sum_0 : decode cX8_sum 0 = .ok (.iconst 0, 1) := by decide +kernel
theorem dX8_sum_1 : decode cX8_sum 1 = .ok (.istore_n 2, 1) := by decide +kernel
theorem dX8_sum_2 : decode cX8_sum 2 = .ok (.iconst 0, 1) := by decide +kernel
theorem dX8_sum_3 : decode cX8_sum 3 = .ok (.istore_n 3, 1) := by decide +kernel
theorem dX8_sum_4 : decode cX8_sum 4 = .ok (.iload_n 3, 1) := by decide +kernel
theorem dX8_sum_5 : decode cX8_sum 5 = .ok (.aload_n 0, 1) := by decide +kernel
theorem dX8_sum_6 : decode cX8_sum 6 = .ok (.getfield 32, 3) := by decide +kernel
theorem dX8_sum_9 : decode cX8_sum 9 = .ok (.arraylength, 1) := by decide +kernel
theorem dX8_sum_10 : decode cX8_sum 10 = .ok (.if_icmp .ge 22, 3) := by decide +kernel
theorem dX8_sum_13 : decode cX8_sum 13 = .ok (.iload_n 2, 1) := by decide +kernel
theorem dX8_sum_14 : decode cX8_sum 14 = .ok (.aload_n 0, 1) := by decide +kernel
theorem dX8_sum_15 : decode cX8_sum 15 = .ok (.getfield 32, 3) := by decide +kernel
theorem dX8_sum_18 : decode cX8_sum 18 = .ok (.iload_n 3, 1) := by decide +kernel
theorem dX8_sum_19 : decode cX8_sum 19 = .ok (.aaload, 1) := by decide +kernel
theorem dX8_sum_20 : decode cX8_sum 20 = .ok (.iload_n 1, 1) := by decide +kernel
theorem dX8_sum_21 : decode cX8_sum 21 = .ok (.invokevirtual 50, 3) := by decide +kernel
theorem dX8_sum_24 : decode cX8_sum 24 = .ok (.iadd, 1) := by decide +kernel
theorem dX8_sum_25 : decode cX8_sum 25 = .ok (.istore_n 2, 1) := by decide +kernel
theorem dX8_sum_26 : decode cX8_sum 26 = .ok (.iinc 3 1, 3) := by decide +kernel
theorem dX8_sum_29 : decode cX8_sum 29 = .ok (.goto (-25), 3) := by decide +kernel
theorem dX8_sum_32 : decode cX8_sum 32 = .ok (.iload_n 2, 1) := by decide +kernel
theorem dX8_sum_33 : decode cX8_sum 33 = .ok (.ireturn, 1) := by decide +kernel
