-- decode rows of refs
theorem dX10_right_0 : decode cX10_right 0 = .ok (.aload_n 0, 1) := by decide +kernel
theorem dX10_right_1 : decode cX10_right 1 = .ok (.getfield 110, 3) := by decide +kernel
theorem dX10_right_4 : decode cX10_right 4 = .ok (.ifCond .ne 12, 3) := by decide +kernel
theorem dX10_right_16 : decode cX10_right 16 = .ok (.aload_n 0, 1) := by decide +kernel
theorem dX10_right_17 : decode cX10_right 17 = .ok (.getfield 110, 3) := by decide +kernel
theorem dX10_right_20 : decode cX10_right 20 = .ok (.ifCond .ne 7, 3) := by decide +kernel
theorem dX10_right_27 : decode cX10_right 27 = .ok (.iconst 0, 1) := by decide +kernel
theorem dX10_right_28 : decode cX10_right 28 = .ok (.ireturn, 1) := by decide +kernel
theorem dX10_right_23 : decode cX10_right 23 = .ok (.iconst 1, 1) := by decide +kernel
theorem dX10_right_24 : decode cX10_right 24 = .ok (.goto 4, 3) := by decide +kernel
theorem dX10_right_7 : decode cX10_right 7 = .ok (.iload_n 1, 1) := by decide +kernel
theorem dX10_right_8 : decode cX10_right 8 = .ok (.ifCond .ne 8, 3) := by decide +kernel
theorem dX10_right_11 : decode cX10_right 11 = .ok (.aload_n 0, 1) := by decide +kernel
theorem dX10_right_12 : decode cX10_right 12 = .ok (.iload_n 2, 1) := by decide +kernel
theorem dX10_right_13 : decode cX10_right 13 = .ok (.putfield 110, 3) := by decide +kernel
theorem dX10_isSlope_0 : decode cX10_isSlope 0 = .ok (.aload_n 0, 1) := by decide +kernel
theorem dX10_isSlope_1 : decode cX10_isSlope 1 = .ok (.iload_n 1, 1) := by decide +kernel
theorem dX10_isSlope_2 : decode cX10_isSlope 2 = .ok (.iconst 0, 1) := by decide +kernel
theorem dX10_isSlope_3 : decode cX10_isSlope 3 = .ok (.aload_n 0, 1) := by decide +kernel
theorem dX10_isSlope_4 : decode cX10_isSlope 4 = .ok (.getfield 198, 3) := by decide +kernel
theorem dX10_isSlope_7 : decode cX10_isSlope 7 = .ok (.iconst 1, 1) := by decide +kernel
theorem dX10_isSlope_8 : decode cX10_isSlope 8 = .ok (.isub, 1) := by decide +kernel
theorem dX10_isSlope_9 : decode cX10_isSlope 9 = .ok (.invokestatic 281, 3) := by decide +kernel
theorem dX10_isSlope_12 : decode cX10_isSlope 12 = .ok (.iconst 1, 1) := by decide +kernel
theorem dX10_isSlope_13 : decode cX10_isSlope 13 = .ok (.invokevirtual 324, 3) := by decide +kernel
theorem dX10_isSlope_16 : decode cX10_isSlope 16 = .ok (.ireturn, 1) := by decide +kernel
theorem dX10_isLayer_0 : decode cX10_isLayer 0 = .ok (.aload_n 0, 1) := by decide +kernel
theorem dX10_isLayer_1 : decode cX10_isLayer 1 = .ok (.iload_n 1, 1) := by decide +kernel
theorem dX10_isLayer_2 : decode cX10_isLayer 2 = .ok (.invokevirtual 360, 3) := by decide +kernel
theorem dX10_isLayer_5 : decode cX10_isLayer 5 = .ok (.ifCond .eq 28, 3) := by decide +kernel
theorem dX10_isLayer_8 : decode cX10_isLayer 8 = .ok (.aload_n 0, 1) := by decide +kernel
theorem dX10_isLayer_9 : decode cX10_isLayer 9 = .ok (.iload_n 2, 1) := by decide +kernel
theorem dX10_isLayer_10 : decode cX10_isLayer 10 = .ok (.iconst 0, 1) := by decide +kernel
theorem dX10_isLayer_11 : decode cX10_isLayer 11 = .ok (.aload_n 0, 1) := by decide +kernel
theorem dX10_isLayer_12 : decode cX10_isLayer 12 = .ok (.iconst 0, 1) := by decide +kernel
theorem dX10_isLayer_13 : decode cX10_isLayer 13 = .ok (.iload_n 1, 1) := by decide +kernel
theorem dX10_isLayer_14 : decode cX10_isLayer 14 = .ok (.invokevirtual 121, 3) := by decide +kernel
theorem dX10_isLayer_17 : decode cX10_isLayer 17 = .ok (.iconst 1, 1) := by decide +kernel
theorem dX10_isLayer_18 : decode cX10_isLayer 18 = .ok (.isub, 1) := by decide +kernel
theorem dX10_isLayer_19 : decode cX10_isLayer 19 = .ok (.invokestatic 281, 3) := by decide +kernel
theorem dX10_isLayer_22 : decode cX10_isLayer 22 = .ok (.iconst 1, 1) := by decide +kernel
theorem dX10_isLayer_23 : decode cX10_isLayer 23 = .ok (.invokevirtual 324, 3) := by decide +kernel
theorem dX10_isLayer_26 : decode cX10_isLayer 26 = .ok (.ifCond .eq 7, 3) := by decide +kernel
theorem dX10_isLayer_29 : decode cX10_isLayer 29 = .ok (.iconst 1, 1) := by decide +kernel
theorem dX10_isLayer_30 : decode cX10_isLayer 30 = .ok (.goto 4, 3) := by decide +kernel
theorem dX10_isLayer_34 : decode cX10_isLayer 34 = .ok (.ireturn, 1) := by decide +kernel
theorem dX10_isLayer_33 : decode cX10_isLayer 33 = .ok (.iconst 0, 1) := by decide +kernel
theorem dX10_isPit_0 : decode cX10_isPit 0 = .ok (.aload_n 0, 1) := by decide +kernel
theorem dX10_isPit_1 : decode cX10_isPit 1 = .ok (.iload_n 1, 1) := by decide +kernel
theorem dX10_isPit_2 : decode cX10_isPit 2 = .ok (.iconst 0, 1) := by decide +kernel
theorem dX10_isPit_3 : decode cX10_isPit 3 = .ok (.aload_n 0, 1) := by decide +kernel
theorem dX10_isPit_4 : decode cX10_isPit 4 = .ok (.getfield 9, 3) := by decide +kernel
theorem dX10_isPit_7 : decode cX10_isPit 7 = .ok (.iconst 5, 1) := by decide +kernel
theorem dX10_isPit_8 : decode cX10_isPit 8 = .ok (.iaload, 1) := by decide +kernel
theorem dX10_isPit_9 : decode cX10_isPit 9 = .ok (.iconst 1, 1) := by decide +kernel
theorem dX10_isPit_10 : decode cX10_isPit 10 = .ok (.isub, 1) := by decide +kernel
theorem dX10_isPit_11 : decode cX10_isPit 11 = .ok (.invokestatic 281, 3) := by decide +kernel
theorem dX10_isPit_14 : decode cX10_isPit 14 = .ok (.iconst 1, 1) := by decide +kernel
theorem dX10_isPit_15 : decode cX10_isPit 15 = .ok (.invokevirtual 324, 3) := by decide +kernel
theorem dX10_isPit_18 : decode cX10_isPit 18 = .ok (.ireturn, 1) := by decide +kernel
theorem dX10_keptAt_0 : decode cX10_keptAt 0 = .ok (.sipush 700, 3) := by decide +kernel
theorem dX10_keptAt_3 : decode cX10_keptAt 3 = .ok (.sipush 350, 3) := by decide +kernel
theorem dX10_keptAt_6 : decode cX10_keptAt 6 = .ok (.iload_n 0, 1) := by decide +kernel
theorem dX10_keptAt_7 : decode cX10_keptAt 7 = .ok (.iload_n 1, 1) := by decide +kernel
theorem dX10_keptAt_8 : decode cX10_keptAt 8 = .ok (.iadd, 1) := by decide +kernel
theorem dX10_keptAt_9 : decode cX10_keptAt 9 = .ok (.bipush 40, 2) := by decide +kernel
theorem dX10_keptAt_11 : decode cX10_keptAt 11 = .ok (.irem, 1) := by decide +kernel
theorem dX10_keptAt_12 : decode cX10_keptAt 12 = .ok (.imul, 1) := by decide +kernel
theorem dX10_keptAt_13 : decode cX10_keptAt 13 = .ok (.iadd, 1) := by decide +kernel
theorem dX10_keptAt_14 : decode cX10_keptAt 14 = .ok (.ireturn, 1) := by decide +kernel
theorem dX10_copies_3 : decode cX10_copies 3 = .ok (.iload 4, 2) := by decide +kernel
theorem dX10_copies_5 : decode cX10_copies 5 = .ok (.iload_n 3, 1) := by decide +kernel
theorem dX10_copies_6 : decode cX10_copies 6 = .ok (.if_icmp .ge 27, 3) := by decide +kernel
theorem dX10_copies_33 : decode cX10_copies 33 = .ok (.return_, 1) := by decide +kernel
theorem dX10_copies_9 : decode cX10_copies 9 = .ok (.aload_n 0, 1) := by decide +kernel
theorem dX10_copies_10 : decode cX10_copies 10 = .ok (.getfield 9, 3) := by decide +kernel
theorem dX10_copies_13 : decode cX10_copies 13 = .ok (.iload_n 2, 1) := by decide +kernel
theorem dX10_copies_14 : decode cX10_copies 14 = .ok (.iload 4, 2) := by decide +kernel
theorem dX10_copies_16 : decode cX10_copies 16 = .ok (.iadd, 1) := by decide +kernel
theorem dX10_copies_17 : decode cX10_copies 17 = .ok (.aload_n 0, 1) := by decide +kernel
theorem dX10_copies_18 : decode cX10_copies 18 = .ok (.getfield 9, 3) := by decide +kernel
theorem dX10_copies_21 : decode cX10_copies 21 = .ok (.iload_n 1, 1) := by decide +kernel
theorem dX10_copies_22 : decode cX10_copies 22 = .ok (.iload 4, 2) := by decide +kernel
theorem dX10_copies_24 : decode cX10_copies 24 = .ok (.iadd, 1) := by decide +kernel
theorem dX10_copies_25 : decode cX10_copies 25 = .ok (.iaload, 1) := by decide +kernel
theorem dX10_copies_26 : decode cX10_copies 26 = .ok (.iastore, 1) := by decide +kernel
theorem dX10_copies_27 : decode cX10_copies 27 = .ok (.iinc 4 1, 3) := by decide +kernel
theorem dX10_copies_30 : decode cX10_copies 30 = .ok (.goto (-27), 3) := by decide +kernel
theorem dX10_copies_0 : decode cX10_copies 0 = .ok (.iconst 0, 1) := by decide +kernel
theorem dX10_copies_1 : decode cX10_copies 1 = .ok (.istore 4, 2) := by decide +kernel
theorem dX10_keeps_0 : decode cX10_keeps 0 = .ok (.aload_n 0, 1) := by decide +kernel
theorem dX10_keeps_1 : decode cX10_keeps 1 = .ok (.getfield 342, 3) := by decide +kernel
theorem dX10_keeps_4 : decode cX10_keeps 4 = .ok (.bipush 40, 2) := by decide +kernel
theorem dX10_keeps_6 : decode cX10_keeps 6 = .ok (.if_icmp .ne 26, 3) := by decide +kernel
theorem dX10_keeps_32 : decode cX10_keeps 32 = .ok (.aload_n 0, 1) := by decide +kernel
theorem dX10_keeps_33 : decode cX10_keeps 33 = .ok (.iconst 0, 1) := by decide +kernel
theorem dX10_keeps_34 : decode cX10_keeps 34 = .ok (.aload_n 0, 1) := by decide +kernel
theorem dX10_keeps_35 : decode cX10_keeps 35 = .ok (.getfield 339, 3) := by decide +kernel
theorem dX10_keeps_38 : decode cX10_keeps 38 = .ok (.aload_n 0, 1) := by decide +kernel
theorem dX10_keeps_39 : decode cX10_keeps 39 = .ok (.getfield 342, 3) := by decide +kernel
theorem dX10_keeps_42 : decode cX10_keeps 42 = .ok (.invokestatic 388, 3) := by decide +kernel
theorem dX10_keeps_45 : decode cX10_keeps 45 = .ok (.sipush 350, 3) := by decide +kernel
theorem dX10_keeps_48 : decode cX10_keeps 48 = .ok (.invokevirtual 391, 3) := by decide +kernel
theorem dX10_keeps_51 : decode cX10_keeps 51 = .ok (.aload_n 0, 1) := by decide +kernel
theorem dX10_keeps_52 : decode cX10_keeps 52 = .ok (.dup, 1) := by decide +kernel
theorem dX10_keeps_53 : decode cX10_keeps 53 = .ok (.getfield 342, 3) := by decide +kernel
theorem dX10_keeps_56 : decode cX10_keeps 56 = .ok (.iconst 1, 1) := by decide +kernel
theorem dX10_keeps_57 : decode cX10_keeps 57 = .ok (.iadd, 1) := by decide +kernel
theorem dX10_keeps_58 : decode cX10_keeps 58 = .ok (.putfield 342, 3) := by decide +kernel
theorem dX10_keeps_61 : decode cX10_keeps 61 = .ok (.return_, 1) := by decide +kernel
theorem dX10_keeps_9 : decode cX10_keeps 9 = .ok (.aload_n 0, 1) := by decide +kernel
theorem dX10_keeps_10 : decode cX10_keeps 10 = .ok (.aload_n 0, 1) := by decide +kernel
theorem dX10_keeps_11 : decode cX10_keeps 11 = .ok (.getfield 339, 3) := by decide +kernel
theorem dX10_keeps_14 : decode cX10_keeps 14 = .ok (.iconst 1, 1) := by decide +kernel
theorem dX10_keeps_15 : decode cX10_keeps 15 = .ok (.iadd, 1) := by decide +kernel
theorem dX10_keeps_16 : decode cX10_keeps 16 = .ok (.bipush 40, 2) := by decide +kernel
theorem dX10_keeps_18 : decode cX10_keeps 18 = .ok (.irem, 1) := by decide +kernel
theorem dX10_keeps_19 : decode cX10_keeps 19 = .ok (.putfield 339, 3) := by decide +kernel
theorem dX10_keeps_22 : decode cX10_keeps 22 = .ok (.aload_n 0, 1) := by decide +kernel
theorem dX10_keeps_23 : decode cX10_keeps 23 = .ok (.dup, 1) := by decide +kernel
theorem dX10_keeps_24 : decode cX10_keeps 24 = .ok (.getfield 342, 3) := by decide +kernel
theorem dX10_keeps_27 : decode cX10_keeps 27 = .ok (.iconst 1, 1) := by decide +kernel
theorem dX10_keeps_28 : decode cX10_keeps 28 = .ok (.isub, 1) := by decide +kernel
theorem dX10_keeps_29 : decode cX10_keeps 29 = .ok (.putfield 342, 3) := by decide +kernel
theorem dX10_tries_0 : decode cX10_tries 0 = .ok (.aload_n 0, 1) := by decide +kernel
theorem dX10_tries_1 : decode cX10_tries 1 = .ok (.iconst 0, 1) := by decide +kernel
theorem dX10_tries_2 : decode cX10_tries 2 = .ok (.sipush 350, 3) := by decide +kernel
theorem dX10_tries_5 : decode cX10_tries 5 = .ok (.sipush 350, 3) := by decide +kernel
theorem dX10_tries_8 : decode cX10_tries 8 = .ok (.invokevirtual 391, 3) := by decide +kernel
theorem dX10_tries_11 : decode cX10_tries 11 = .ok (.return_, 1) := by decide +kernel
theorem dX10_refuses_0 : decode cX10_refuses 0 = .ok (.aload_n 0, 1) := by decide +kernel
theorem dX10_refuses_1 : decode cX10_refuses 1 = .ok (.getfield 40, 3) := by decide +kernel
theorem dX10_refuses_4 : decode cX10_refuses 4 = .ok (.iload_n 1, 1) := by decide +kernel
theorem dX10_refuses_5 : decode cX10_refuses 5 = .ok (.dup2, 1) := by decide +kernel
theorem dX10_refuses_6 : decode cX10_refuses 6 = .ok (.iaload, 1) := by decide +kernel
theorem dX10_refuses_7 : decode cX10_refuses 7 = .ok (.iconst 1, 1) := by decide +kernel
theorem dX10_refuses_8 : decode cX10_refuses 8 = .ok (.iadd, 1) := by decide +kernel
theorem dX10_refuses_9 : decode cX10_refuses 9 = .ok (.iastore, 1) := by decide +kernel
theorem dX10_refuses_10 : decode cX10_refuses 10 = .ok (.iconst (-1), 1) := by decide +kernel
theorem dX10_refuses_11 : decode cX10_refuses 11 = .ok (.ireturn, 1) := by decide +kernel
theorem dX10_digs_0 : decode cX10_digs 0 = .ok (.aload_n 0, 1) := by decide +kernel
theorem dX10_digs_1 : decode cX10_digs 1 = .ok (.iload_n 1, 1) := by decide +kernel
theorem dX10_digs_2 : decode cX10_digs 2 = .ok (.iload_n 2, 1) := by decide +kernel
theorem dX10_digs_3 : decode cX10_digs 3 = .ok (.invokevirtual 121, 3) := by decide +kernel
theorem dX10_digs_6 : decode cX10_digs 6 = .ok (.iconst 1, 1) := by decide +kernel
theorem dX10_digs_7 : decode cX10_digs 7 = .ok (.isub, 1) := by decide +kernel
theorem dX10_digs_8 : decode cX10_digs 8 = .ok (.istore_n 3, 1) := by decide +kernel
theorem dX10_digs_9 : decode cX10_digs 9 = .ok (.aload_n 0, 1) := by decide +kernel
theorem dX10_digs_10 : decode cX10_digs 10 = .ok (.getfield 9, 3) := by decide +kernel
theorem dX10_digs_13 : decode cX10_digs 13 = .ok (.iload_n 1, 1) := by decide +kernel
theorem dX10_digs_14 : decode cX10_digs 14 = .ok (.iconst 2, 1) := by decide +kernel
theorem dX10_digs_15 : decode cX10_digs 15 = .ok (.iadd, 1) := by decide +kernel
theorem dX10_digs_16 : decode cX10_digs 16 = .ok (.dup2, 1) := by decide +kernel
theorem dX10_digs_17 : decode cX10_digs 17 = .ok (.iaload, 1) := by decide +kernel
theorem dX10_digs_18 : decode cX10_digs 18 = .ok (.aload_n 0, 1) := by decide +kernel
theorem dX10_digs_19 : decode cX10_digs 19 = .ok (.iload_n 1, 1) := by decide +kernel
theorem dX10_digs_20 : decode cX10_digs 20 = .ok (.iload_n 2, 1) := by decide +kernel
theorem dX10_digs_21 : decode cX10_digs 21 = .ok (.iload_n 3, 1) := by decide +kernel
theorem dX10_digs_22 : decode cX10_digs 22 = .ok (.invokevirtual 125, 3) := by decide +kernel
theorem dX10_digs_25 : decode cX10_digs 25 = .ok (.iadd, 1) := by decide +kernel
theorem dX10_digs_26 : decode cX10_digs 26 = .ok (.iastore, 1) := by decide +kernel
theorem dX10_digs_27 : decode cX10_digs 27 = .ok (.aload_n 0, 1) := by decide +kernel
theorem dX10_digs_28 : decode cX10_digs 28 = .ok (.iload_n 1, 1) := by decide +kernel
theorem dX10_digs_29 : decode cX10_digs 29 = .ok (.iload_n 2, 1) := by decide +kernel
theorem dX10_digs_30 : decode cX10_digs 30 = .ok (.iload_n 3, 1) := by decide +kernel
theorem dX10_digs_31 : decode cX10_digs 31 = .ok (.invokevirtual 135, 3) := by decide +kernel
theorem dX10_digs_34 : decode cX10_digs 34 = .ok (.return_, 1) := by decide +kernel
theorem dX10_slides_0 : decode cX10_slides 0 = .ok (.aload_n 0, 1) := by decide +kernel
theorem dX10_slides_1 : decode cX10_slides 1 = .ok (.iload_n 1, 1) := by decide +kernel
theorem dX10_slides_2 : decode cX10_slides 2 = .ok (.iload_n 2, 1) := by decide +kernel
theorem dX10_slides_3 : decode cX10_slides 3 = .ok (.invokevirtual 363, 3) := by decide +kernel
theorem dX10_slides_6 : decode cX10_slides 6 = .ok (.istore_n 3, 1) := by decide +kernel
theorem dX10_slides_7 : decode cX10_slides 7 = .ok (.aload_n 0, 1) := by decide +kernel
theorem dX10_slides_8 : decode cX10_slides 8 = .ok (.iload_n 1, 1) := by decide +kernel
theorem dX10_slides_9 : decode cX10_slides 9 = .ok (.iload_n 2, 1) := by decide +kernel
theorem dX10_slides_10 : decode cX10_slides 10 = .ok (.invokevirtual 121, 3) := by decide +kernel
theorem dX10_slides_13 : decode cX10_slides 13 = .ok (.iconst 1, 1) := by decide +kernel
theorem dX10_slides_14 : decode cX10_slides 14 = .ok (.isub, 1) := by decide +kernel
theorem dX10_slides_15 : decode cX10_slides 15 = .ok (.iload_n 3, 1) := by decide +kernel
theorem dX10_slides_16 : decode cX10_slides 16 = .ok (.isub, 1) := by decide +kernel
theorem dX10_slides_17 : decode cX10_slides 17 = .ok (.istore 4, 2) := by decide +kernel
theorem dX10_slides_19 : decode cX10_slides 19 = .ok (.aload_n 0, 1) := by decide +kernel
theorem dX10_slides_20 : decode cX10_slides 20 = .ok (.getfield 9, 3) := by decide +kernel
theorem dX10_slides_23 : decode cX10_slides 23 = .ok (.iload_n 1, 1) := by decide +kernel
theorem dX10_slides_24 : decode cX10_slides 24 = .ok (.iconst 3, 1) := by decide +kernel
theorem dX10_slides_25 : decode cX10_slides 25 = .ok (.iadd, 1) := by decide +kernel
theorem dX10_slides_26 : decode cX10_slides 26 = .ok (.dup2, 1) := by decide +kernel
theorem dX10_slides_27 : decode cX10_slides 27 = .ok (.iaload, 1) := by decide +kernel
theorem dX10_slides_28 : decode cX10_slides 28 = .ok (.aload_n 0, 1) := by decide +kernel
theorem dX10_slides_29 : decode cX10_slides 29 = .ok (.iload_n 1, 1) := by decide +kernel
theorem dX10_slides_30 : decode cX10_slides 30 = .ok (.iload_n 2, 1) := by decide +kernel
theorem dX10_slides_31 : decode cX10_slides 31 = .ok (.iload_n 3, 1) := by decide +kernel
theorem dX10_slides_32 : decode cX10_slides 32 = .ok (.invokevirtual 180, 3) := by decide +kernel
theorem dX10_slides_35 : decode cX10_slides 35 = .ok (.iadd, 1) := by decide +kernel
theorem dX10_slides_36 : decode cX10_slides 36 = .ok (.iastore, 1) := by decide +kernel
theorem dX10_slides_37 : decode cX10_slides 37 = .ok (.aload_n 0, 1) := by decide +kernel
theorem dX10_slides_38 : decode cX10_slides 38 = .ok (.getfield 9, 3) := by decide +kernel
theorem dX10_slides_41 : decode cX10_slides 41 = .ok (.iload_n 1, 1) := by decide +kernel
theorem dX10_slides_42 : decode cX10_slides 42 = .ok (.iconst 4, 1) := by decide +kernel
theorem dX10_slides_43 : decode cX10_slides 43 = .ok (.iadd, 1) := by decide +kernel
theorem dX10_slides_44 : decode cX10_slides 44 = .ok (.dup2, 1) := by decide +kernel
theorem dX10_slides_45 : decode cX10_slides 45 = .ok (.iaload, 1) := by decide +kernel
theorem dX10_slides_46 : decode cX10_slides 46 = .ok (.iconst 1, 1) := by decide +kernel
theorem dX10_slides_47 : decode cX10_slides 47 = .ok (.iadd, 1) := by decide +kernel
theorem dX10_slides_48 : decode cX10_slides 48 = .ok (.iastore, 1) := by decide +kernel
theorem dX10_slides_49 : decode cX10_slides 49 = .ok (.aload_n 0, 1) := by decide +kernel
theorem dX10_slides_50 : decode cX10_slides 50 = .ok (.iload_n 1, 1) := by decide +kernel
theorem dX10_slides_51 : decode cX10_slides 51 = .ok (.iload_n 2, 1) := by decide +kernel
theorem dX10_slides_52 : decode cX10_slides 52 = .ok (.iload_n 3, 1) := by decide +kernel
theorem dX10_slides_53 : decode cX10_slides 53 = .ok (.iconst 1, 1) := by decide +kernel
theorem dX10_slides_54 : decode cX10_slides 54 = .ok (.iadd, 1) := by decide +kernel
theorem dX10_slides_55 : decode cX10_slides 55 = .ok (.invokevirtual 135, 3) := by decide +kernel
theorem dX10_slides_58 : decode cX10_slides 58 = .ok (.iload 4, 2) := by decide +kernel
theorem dX10_slides_60 : decode cX10_slides 60 = .ok (.ireturn, 1) := by decide +kernel
