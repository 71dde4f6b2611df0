-- decode rows of mh
theorem dX10_thrown_0 : decode cX10_thrown 0 = .ok (.aload_n 0, 1) := by decide +kernel
theorem dX10_thrown_1 : decode cX10_thrown 1 = .ok (.getfield 110, 3) := by decide +kernel
theorem dX10_thrown_4 : decode cX10_thrown 4 = .ok (.ireturn, 1) := by decide +kernel
theorem dX10_within_0 : decode cX10_within 0 = .ok (.iload_n 0, 1) := by decide +kernel
theorem dX10_within_1 : decode cX10_within 1 = .ok (.iload_n 1, 1) := by decide +kernel
theorem dX10_within_2 : decode cX10_within 2 = .ok (.if_icmp .lt 12, 3) := by decide +kernel
theorem dX10_within_14 : decode cX10_within 14 = .ok (.iconst 0, 1) := by decide +kernel
theorem dX10_within_15 : decode cX10_within 15 = .ok (.ireturn, 1) := by decide +kernel
theorem dX10_within_5 : decode cX10_within 5 = .ok (.iload_n 0, 1) := by decide +kernel
theorem dX10_within_6 : decode cX10_within 6 = .ok (.iload_n 2, 1) := by decide +kernel
theorem dX10_within_7 : decode cX10_within 7 = .ok (.if_icmp .gt 7, 3) := by decide +kernel
theorem dX10_within_10 : decode cX10_within 10 = .ok (.iconst 1, 1) := by decide +kernel
theorem dX10_within_11 : decode cX10_within 11 = .ok (.goto 4, 3) := by decide +kernel
theorem dX10_right_0 : decode cX10_right 0 = .ok (.aload_n 0, 1) := by decide +kernel
theorem dX10_right_1 : decode cX10_right 1 = .ok (.getfield 110, 3) := by decide +kernel
theorem dX10_right_4 : decode cX10_right 4 = .ok (.ifCond .ne 12, 3) := by decide +kernel
theorem dX10_right_7 : decode cX10_right 7 = .ok (.iload_n 1, 1) := by decide +kernel
theorem dX10_right_8 : decode cX10_right 8 = .ok (.ifCond .ne 8, 3) := by decide +kernel
theorem dX10_right_16 : decode cX10_right 16 = .ok (.aload_n 0, 1) := by decide +kernel
theorem dX10_right_17 : decode cX10_right 17 = .ok (.getfield 110, 3) := by decide +kernel
theorem dX10_right_20 : decode cX10_right 20 = .ok (.ifCond .ne 7, 3) := by decide +kernel
theorem dX10_right_23 : decode cX10_right 23 = .ok (.iconst 1, 1) := by decide +kernel
theorem dX10_right_24 : decode cX10_right 24 = .ok (.goto 4, 3) := by decide +kernel
theorem dX10_right_28 : decode cX10_right 28 = .ok (.ireturn, 1) := by decide +kernel
theorem dX10_right_11 : decode cX10_right 11 = .ok (.aload_n 0, 1) := by decide +kernel
theorem dX10_right_12 : decode cX10_right 12 = .ok (.iload_n 2, 1) := by decide +kernel
theorem dX10_right_13 : decode cX10_right 13 = .ok (.putfield 110, 3) := by decide +kernel
theorem dX10_right_27 : decode cX10_right 27 = .ok (.iconst 0, 1) := by decide +kernel
theorem dX10_isSlope_0 : decode cX10_isSlope 0 = .ok (.aload_n 0, 1) := by decide +kernel
theorem dX10_isSlope_1 : decode cX10_isSlope 1 = .ok (.iload_n 1, 1) := by decide +kernel
theorem dX10_isSlope_2 : decode cX10_isSlope 2 = .ok (.iconst 0, 1) := by decide +kernel
theorem dX10_isSlope_3 : decode cX10_isSlope 3 = .ok (.aload_n 0, 1) := by decide +kernel
theorem dX10_isSlope_4 : decode cX10_isSlope 4 = .ok (.getfield 198, 3) := by decide +kernel
theorem dX10_isSlope_7 : decode cX10_isSlope 7 = .ok (.iconst 1, 1) := by decide +kernel
theorem dX10_isSlope_8 : decode cX10_isSlope 8 = .ok (.isub, 1) := by decide +kernel
theorem dX10_isSlope_9 : decode cX10_isSlope 9 = .ok (.invokestatic 281, 3) := by decide +kernel
theorem dX10_isSlope_12 : decode cX10_isSlope 12 = .ok (.iconst 1, 1) := by decide +kernel
theorem dX10_isSlope_13 : decode cX10_isSlope 13 = .ok (.invokevirtual 324, 3) := by decide +kernel
theorem dX10_isSlope_16 : decode cX10_isSlope 16 = .ok (.ireturn, 1) := by decide +kernel
theorem dX10_isLayer_0 : decode cX10_isLayer 0 = .ok (.aload_n 0, 1) := by decide +kernel
theorem dX10_isLayer_1 : decode cX10_isLayer 1 = .ok (.iload_n 1, 1) := by decide +kernel
theorem dX10_isLayer_2 : decode cX10_isLayer 2 = .ok (.invokevirtual 360, 3) := by decide +kernel
theorem dX10_isLayer_5 : decode cX10_isLayer 5 = .ok (.ifCond .eq 28, 3) := by decide +kernel
theorem dX10_isLayer_33 : decode cX10_isLayer 33 = .ok (.iconst 0, 1) := by decide +kernel
theorem dX10_isLayer_34 : decode cX10_isLayer 34 = .ok (.ireturn, 1) := by decide +kernel
theorem dX10_isPit_0 : decode cX10_isPit 0 = .ok (.aload_n 0, 1) := by decide +kernel
theorem dX10_isPit_1 : decode cX10_isPit 1 = .ok (.iload_n 1, 1) := by decide +kernel
theorem dX10_isPit_2 : decode cX10_isPit 2 = .ok (.iconst 0, 1) := by decide +kernel
theorem dX10_isPit_3 : decode cX10_isPit 3 = .ok (.aload_n 0, 1) := by decide +kernel
theorem dX10_isPit_4 : decode cX10_isPit 4 = .ok (.getfield 9, 3) := by decide +kernel
theorem dX10_isPit_7 : decode cX10_isPit 7 = .ok (.iconst 5, 1) := by decide +kernel
theorem dX10_isPit_8 : decode cX10_isPit 8 = .ok (.iaload, 1) := by decide +kernel
theorem dX10_isPit_9 : decode cX10_isPit 9 = .ok (.iconst 1, 1) := by decide +kernel
theorem dX10_isPit_10 : decode cX10_isPit 10 = .ok (.isub, 1) := by decide +kernel
theorem dX10_isPit_11 : decode cX10_isPit 11 = .ok (.invokestatic 281, 3) := by decide +kernel
theorem dX10_isPit_14 : decode cX10_isPit 14 = .ok (.iconst 1, 1) := by decide +kernel
theorem dX10_isPit_15 : decode cX10_isPit 15 = .ok (.invokevirtual 324, 3) := by decide +kernel
theorem dX10_isPit_18 : decode cX10_isPit 18 = .ok (.ireturn, 1) := by decide +kernel
theorem dX10_refuses_0 : decode cX10_refuses 0 = .ok (.aload_n 0, 1) := by decide +kernel
theorem dX10_refuses_1 : decode cX10_refuses 1 = .ok (.getfield 40, 3) := by decide +kernel
theorem dX10_refuses_4 : decode cX10_refuses 4 = .ok (.iload_n 1, 1) := by decide +kernel
theorem dX10_refuses_5 : decode cX10_refuses 5 = .ok (.dup2, 1) := by decide +kernel
theorem dX10_refuses_6 : decode cX10_refuses 6 = .ok (.iaload, 1) := by decide +kernel
theorem dX10_refuses_7 : decode cX10_refuses 7 = .ok (.iconst 1, 1) := by decide +kernel
theorem dX10_refuses_8 : decode cX10_refuses 8 = .ok (.iadd, 1) := by decide +kernel
theorem dX10_refuses_9 : decode cX10_refuses 9 = .ok (.iastore, 1) := by decide +kernel
theorem dX10_refuses_10 : decode cX10_refuses 10 = .ok (.iconst (-1), 1) := by decide +kernel
theorem dX10_refuses_11 : decode cX10_refuses 11 = .ok (.ireturn, 1) := by decide +kernel
