-- decode rows of rec0
theorem dX9_isSlope_0 : decode cX9_isSlope 0 = .ok (.iload_n 1, 1) := by decide +kernel
theorem dX9_isSlope_1 : decode cX9_isSlope 1 = .ok (.ifCond .lt 18, 3) := by decide +kernel
theorem dX9_isSlope_19 : decode cX9_isSlope 19 = .ok (.iconst 0, 1) := by decide +kernel
theorem dX9_isSlope_20 : decode cX9_isSlope 20 = .ok (.ireturn, 1) := by decide +kernel
theorem dX9_isSlope_4 : decode cX9_isSlope 4 = .ok (.iload_n 1, 1) := by decide +kernel
theorem dX9_isSlope_5 : decode cX9_isSlope 5 = .ok (.aload_n 0, 1) := by decide +kernel
theorem dX9_isSlope_6 : decode cX9_isSlope 6 = .ok (.getfield 30, 3) := by decide +kernel
theorem dX9_isSlope_9 : decode cX9_isSlope 9 = .ok (.getfield 115, 3) := by decide +kernel
theorem dX9_isSlope_12 : decode cX9_isSlope 12 = .ok (.if_icmp .ge 7, 3) := by decide +kernel
theorem dX9_isSlope_15 : decode cX9_isSlope 15 = .ok (.iconst 1, 1) := by decide +kernel
theorem dX9_isSlope_16 : decode cX9_isSlope 16 = .ok (.goto 4, 3) := by decide +kernel
theorem dX9_needSlope_0 : decode cX9_needSlope 0 = .ok (.aload_n 0, 1) := by decide +kernel
theorem dX9_needSlope_1 : decode cX9_needSlope 1 = .ok (.iload_n 1, 1) := by decide +kernel
theorem dX9_needSlope_2 : decode cX9_needSlope 2 = .ok (.invokevirtual 268, 3) := by decide +kernel
theorem dX9_needSlope_5 : decode cX9_needSlope 5 = .ok (.ifCond .ne 14, 3) := by decide +kernel
theorem dX9_needSlope_19 : decode cX9_needSlope 19 = .ok (.return_, 1) := by decide +kernel
theorem dX9_needSlope_8 : decode cX9_needSlope 8 = .ok (.new 165, 3) := by decide +kernel
theorem dX9_needSlope_11 : decode cX9_needSlope 11 = .ok (.dup, 1) := by decide +kernel
theorem dX9_needSlope_12 : decode cX9_needSlope 12 = .ok (.ldc_w 414, 3) := by decide +kernel
theorem dX9_needSlope_15 : decode cX9_needSlope 15 = .ok (.invokespecial 169, 3) := by decide +kernel
theorem dX9_needSlope_18 : decode cX9_needSlope 18 = .ok (.athrow, 1) := by decide +kernel
theorem dX9_packOf_0 : decode cX9_packOf 0 = .ok (.aload_n 0, 1) := by decide +kernel
theorem dX9_packOf_1 : decode cX9_packOf 1 = .ok (.iload_n 1, 1) := by decide +kernel
theorem dX9_packOf_2 : decode cX9_packOf 2 = .ok (.invokevirtual 300, 3) := by decide +kernel
theorem dX9_packOf_5 : decode cX9_packOf 5 = .ok (.aload_n 0, 1) := by decide +kernel
theorem dX9_packOf_6 : decode cX9_packOf 6 = .ok (.getfield 37, 3) := by decide +kernel
theorem dX9_packOf_9 : decode cX9_packOf 9 = .ok (.getfield 112, 3) := by decide +kernel
theorem dX9_packOf_12 : decode cX9_packOf 12 = .ok (.getfield 280, 3) := by decide +kernel
theorem dX9_packOf_15 : decode cX9_packOf 15 = .ok (.iload_n 1, 1) := by decide +kernel
theorem dX9_packOf_16 : decode cX9_packOf 16 = .ok (.aaload, 1) := by decide +kernel
theorem dX9_packOf_17 : decode cX9_packOf 17 = .ok (.areturn, 1) := by decide +kernel
theorem dX9_needLayer_0 : decode cX9_needLayer 0 = .ok (.iload_n 2, 1) := by decide +kernel
theorem dX9_needLayer_1 : decode cX9_needLayer 1 = .ok (.ifCond .lt 11, 3) := by decide +kernel
theorem dX9_needLayer_12 : decode cX9_needLayer 12 = .ok (.new 165, 3) := by decide +kernel
theorem dX9_needLayer_15 : decode cX9_needLayer 15 = .ok (.dup, 1) := by decide +kernel
theorem dX9_needLayer_16 : decode cX9_needLayer 16 = .ok (.ldc_w 416, 3) := by decide +kernel
theorem dX9_needLayer_19 : decode cX9_needLayer 19 = .ok (.invokespecial 169, 3) := by decide +kernel
theorem dX9_needLayer_22 : decode cX9_needLayer 22 = .ok (.athrow, 1) := by decide +kernel
theorem dX9_needLayer_4 : decode cX9_needLayer 4 = .ok (.iload_n 2, 1) := by decide +kernel
theorem dX9_needLayer_5 : decode cX9_needLayer 5 = .ok (.aload_n 1, 1) := by decide +kernel
theorem dX9_needLayer_6 : decode cX9_needLayer 6 = .ok (.getfield 193, 3) := by decide +kernel
theorem dX9_needLayer_9 : decode cX9_needLayer 9 = .ok (.if_icmp .lt 14, 3) := by decide +kernel
theorem dX9_needLayer_23 : decode cX9_needLayer 23 = .ok (.return_, 1) := by decide +kernel
theorem dX9_needPit_0 : decode cX9_needPit 0 = .ok (.iload_n 1, 1) := by decide +kernel
theorem dX9_needPit_1 : decode cX9_needPit 1 = .ok (.ifCond .lt 17, 3) := by decide +kernel
theorem dX9_needPit_18 : decode cX9_needPit 18 = .ok (.new 165, 3) := by decide +kernel
theorem dX9_needPit_21 : decode cX9_needPit 21 = .ok (.dup, 1) := by decide +kernel
theorem dX9_needPit_22 : decode cX9_needPit 22 = .ok (.ldc_w 418, 3) := by decide +kernel
theorem dX9_needPit_25 : decode cX9_needPit 25 = .ok (.invokespecial 169, 3) := by decide +kernel
theorem dX9_needPit_28 : decode cX9_needPit 28 = .ok (.athrow, 1) := by decide +kernel
theorem dX9_needPit_4 : decode cX9_needPit 4 = .ok (.iload_n 1, 1) := by decide +kernel
theorem dX9_needPit_5 : decode cX9_needPit 5 = .ok (.aload_n 0, 1) := by decide +kernel
theorem dX9_needPit_6 : decode cX9_needPit 6 = .ok (.getfield 37, 3) := by decide +kernel
theorem dX9_needPit_9 : decode cX9_needPit 9 = .ok (.getfield 112, 3) := by decide +kernel
theorem dX9_needPit_12 : decode cX9_needPit 12 = .ok (.getfield 150, 3) := by decide +kernel
theorem dX9_needPit_15 : decode cX9_needPit 15 = .ok (.if_icmp .lt 14, 3) := by decide +kernel
theorem dX9_needPit_29 : decode cX9_needPit 29 = .ok (.return_, 1) := by decide +kernel
theorem dX9_needWhat_0 : decode cX9_needWhat 0 = .ok (.iload_n 0, 1) := by decide +kernel
theorem dX9_needWhat_1 : decode cX9_needWhat 1 = .ok (.ifCond .lt 8, 3) := by decide +kernel
theorem dX9_needWhat_9 : decode cX9_needWhat 9 = .ok (.new 165, 3) := by decide +kernel
theorem dX9_needWhat_12 : decode cX9_needWhat 12 = .ok (.dup, 1) := by decide +kernel
theorem dX9_needWhat_13 : decode cX9_needWhat 13 = .ok (.ldc_w 420, 3) := by decide +kernel
theorem dX9_needWhat_16 : decode cX9_needWhat 16 = .ok (.invokespecial 169, 3) := by decide +kernel
theorem dX9_needWhat_19 : decode cX9_needWhat 19 = .ok (.athrow, 1) := by decide +kernel
theorem dX9_needWhat_4 : decode cX9_needWhat 4 = .ok (.iload_n 0, 1) := by decide +kernel
theorem dX9_needWhat_5 : decode cX9_needWhat 5 = .ok (.iload_n 1, 1) := by decide +kernel
theorem dX9_needWhat_6 : decode cX9_needWhat 6 = .ok (.if_icmp .le 14, 3) := by decide +kernel
theorem dX9_needWhat_20 : decode cX9_needWhat 20 = .ok (.return_, 1) := by decide +kernel
theorem dX9_needHours_0 : decode cX9_needHours 0 = .ok (.iload_n 0, 1) := by decide +kernel
theorem dX9_needHours_1 : decode cX9_needHours 1 = .ok (.iload_n 1, 1) := by decide +kernel
theorem dX9_needHours_2 : decode cX9_needHours 2 = .ok (.if_icmp .lt 8, 3) := by decide +kernel
theorem dX9_needHours_10 : decode cX9_needHours 10 = .ok (.new 86, 3) := by decide +kernel
theorem dX9_needHours_13 : decode cX9_needHours 13 = .ok (.dup, 1) := by decide +kernel
theorem dX9_needHours_14 : decode cX9_needHours 14 = .ok (.ldc_w 422, 3) := by decide +kernel
theorem dX9_needHours_17 : decode cX9_needHours 17 = .ok (.invokespecial 90, 3) := by decide +kernel
theorem dX9_needHours_20 : decode cX9_needHours 20 = .ok (.athrow, 1) := by decide +kernel
theorem dX9_needHours_5 : decode cX9_needHours 5 = .ok (.iload_n 0, 1) := by decide +kernel
theorem dX9_needHours_6 : decode cX9_needHours 6 = .ok (.iload_n 2, 1) := by decide +kernel
theorem dX9_needHours_7 : decode cX9_needHours 7 = .ok (.if_icmp .le 14, 3) := by decide +kernel
theorem dX9_needHours_21 : decode cX9_needHours 21 = .ok (.return_, 1) := by decide +kernel
theorem dX9_extraOf_0 : decode cX9_extraOf 0 = .ok (.iload_n 0, 1) := by decide +kernel
theorem dX9_extraOf_1 : decode cX9_extraOf 1 = .ok (.bipush 10, 2) := by decide +kernel
theorem dX9_extraOf_3 : decode cX9_extraOf 3 = .ok (.invokestatic 424, 3) := by decide +kernel
theorem dX9_extraOf_6 : decode cX9_extraOf 6 = .ok (.istore_n 1, 1) := by decide +kernel
theorem dX9_extraOf_7 : decode cX9_extraOf 7 = .ok (.iload_n 0, 1) := by decide +kernel
theorem dX9_extraOf_8 : decode cX9_extraOf 8 = .ok (.iload_n 1, 1) := by decide +kernel
theorem dX9_extraOf_9 : decode cX9_extraOf 9 = .ok (.isub, 1) := by decide +kernel
theorem dX9_extraOf_10 : decode cX9_extraOf 10 = .ok (.bipush 10, 2) := by decide +kernel
theorem dX9_extraOf_12 : decode cX9_extraOf 12 = .ok (.invokestatic 424, 3) := by decide +kernel
theorem dX9_extraOf_15 : decode cX9_extraOf 15 = .ok (.istore_n 2, 1) := by decide +kernel
theorem dX9_extraOf_16 : decode cX9_extraOf 16 = .ok (.iload_n 0, 1) := by decide +kernel
theorem dX9_extraOf_17 : decode cX9_extraOf 17 = .ok (.iload_n 1, 1) := by decide +kernel
theorem dX9_extraOf_18 : decode cX9_extraOf 18 = .ok (.isub, 1) := by decide +kernel
theorem dX9_extraOf_19 : decode cX9_extraOf 19 = .ok (.iload_n 2, 1) := by decide +kernel
theorem dX9_extraOf_20 : decode cX9_extraOf 20 = .ok (.isub, 1) := by decide +kernel
theorem dX9_extraOf_21 : decode cX9_extraOf 21 = .ok (.istore_n 3, 1) := by decide +kernel
theorem dX9_extraOf_22 : decode cX9_extraOf 22 = .ok (.iload_n 1, 1) := by decide +kernel
theorem dX9_extraOf_23 : decode cX9_extraOf 23 = .ok (.iconst 2, 1) := by decide +kernel
theorem dX9_extraOf_24 : decode cX9_extraOf 24 = .ok (.iload_n 2, 1) := by decide +kernel
theorem dX9_extraOf_25 : decode cX9_extraOf 25 = .ok (.imul, 1) := by decide +kernel
theorem dX9_extraOf_26 : decode cX9_extraOf 26 = .ok (.iadd, 1) := by decide +kernel
theorem dX9_extraOf_27 : decode cX9_extraOf 27 = .ok (.iconst 4, 1) := by decide +kernel
theorem dX9_extraOf_28 : decode cX9_extraOf 28 = .ok (.iload_n 3, 1) := by decide +kernel
theorem dX9_extraOf_29 : decode cX9_extraOf 29 = .ok (.imul, 1) := by decide +kernel
theorem dX9_extraOf_30 : decode cX9_extraOf 30 = .ok (.iadd, 1) := by decide +kernel
theorem dX9_extraOf_31 : decode cX9_extraOf 31 = .ok (.ireturn, 1) := by decide +kernel
theorem dX9_nextSeed_0 : decode cX9_nextSeed 0 = .ok (.iload_n 0, 1) := by decide +kernel
theorem dX9_nextSeed_1 : decode cX9_nextSeed 1 = .ok (.ldc_w 466, 3) := by decide +kernel
theorem dX9_nextSeed_4 : decode cX9_nextSeed 4 = .ok (.imul, 1) := by decide +kernel
theorem dX9_nextSeed_5 : decode cX9_nextSeed 5 = .ok (.sipush 12345, 3) := by decide +kernel
theorem dX9_nextSeed_8 : decode cX9_nextSeed 8 = .ok (.iadd, 1) := by decide +kernel
theorem dX9_nextSeed_9 : decode cX9_nextSeed 9 = .ok (.ireturn, 1) := by decide +kernel
