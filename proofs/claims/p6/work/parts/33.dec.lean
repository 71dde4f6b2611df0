-- decode rows of copies
theorem dX4_copyFrom_0 : decode cX4_copyFrom 0 = .ok (.aload_n 0, 1) := by decide +kernel
theorem dX4_copyFrom_1 : decode cX4_copyFrom 1 = .ok (.aload_n 1, 1) := by decide +kernel
theorem dX4_copyFrom_2 : decode cX4_copyFrom 2 = .ok (.getfield 7, 3) := by decide +kernel
theorem dX4_copyFrom_5 : decode cX4_copyFrom 5 = .ok (.putfield 7, 3) := by decide +kernel
theorem dX4_copyFrom_8 : decode cX4_copyFrom 8 = .ok (.aload_n 0, 1) := by decide +kernel
theorem dX4_copyFrom_9 : decode cX4_copyFrom 9 = .ok (.aload_n 1, 1) := by decide +kernel
theorem dX4_copyFrom_10 : decode cX4_copyFrom 10 = .ok (.getfield 13, 3) := by decide +kernel
theorem dX4_copyFrom_13 : decode cX4_copyFrom 13 = .ok (.putfield 13, 3) := by decide +kernel
theorem dX4_copyFrom_16 : decode cX4_copyFrom 16 = .ok (.aload_n 0, 1) := by decide +kernel
theorem dX4_copyFrom_17 : decode cX4_copyFrom 17 = .ok (.getfield 19, 3) := by decide +kernel
theorem dX4_copyFrom_20 : decode cX4_copyFrom 20 = .ok (.aload_n 1, 1) := by decide +kernel
theorem dX4_copyFrom_21 : decode cX4_copyFrom 21 = .ok (.getfield 19, 3) := by decide +kernel
theorem dX4_copyFrom_24 : decode cX4_copyFrom 24 = .ok (.invokevirtual 23, 3) := by decide +kernel
theorem dX4_copyFrom_27 : decode cX4_copyFrom 27 = .ok (.return_, 1) := by decide +kernel
theorem dX2_copyFrom_0 : decode cX2_copyFrom 0 = .ok (.aload_n 0, 1) := by decide +kernel
theorem dX2_copyFrom_1 : decode cX2_copyFrom 1 = .ok (.aload_n 1, 1) := by decide +kernel
theorem dX2_copyFrom_2 : decode cX2_copyFrom 2 = .ok (.getfield 9, 3) := by decide +kernel
theorem dX2_copyFrom_5 : decode cX2_copyFrom 5 = .ok (.putfield 9, 3) := by decide +kernel
theorem dX2_copyFrom_8 : decode cX2_copyFrom 8 = .ok (.aload_n 1, 1) := by decide +kernel
theorem dX2_copyFrom_9 : decode cX2_copyFrom 9 = .ok (.getfield 15, 3) := by decide +kernel
theorem dX2_copyFrom_12 : decode cX2_copyFrom 12 = .ok (.iconst 0, 1) := by decide +kernel
theorem dX2_copyFrom_13 : decode cX2_copyFrom 13 = .ok (.aload_n 0, 1) := by decide +kernel
theorem dX2_copyFrom_14 : decode cX2_copyFrom 14 = .ok (.getfield 15, 3) := by decide +kernel
theorem dX2_copyFrom_17 : decode cX2_copyFrom 17 = .ok (.iconst 0, 1) := by decide +kernel
theorem dX2_copyFrom_18 : decode cX2_copyFrom 18 = .ok (.aload_n 0, 1) := by decide +kernel
theorem dX2_copyFrom_19 : decode cX2_copyFrom 19 = .ok (.getfield 15, 3) := by decide +kernel
theorem dX2_copyFrom_22 : decode cX2_copyFrom 22 = .ok (.arraylength, 1) := by decide +kernel
theorem dX2_copyFrom_23 : decode cX2_copyFrom 23 = .ok (.invokestatic 25, 3) := by decide +kernel
theorem dX2_copyFrom_26 : decode cX2_copyFrom 26 = .ok (.aload_n 1, 1) := by decide +kernel
theorem dX2_copyFrom_27 : decode cX2_copyFrom 27 = .ok (.getfield 19, 3) := by decide +kernel
theorem dX2_copyFrom_30 : decode cX2_copyFrom 30 = .ok (.iconst 0, 1) := by decide +kernel
theorem dX2_copyFrom_31 : decode cX2_copyFrom 31 = .ok (.aload_n 0, 1) := by decide +kernel
theorem dX2_copyFrom_32 : decode cX2_copyFrom 32 = .ok (.getfield 19, 3) := by decide +kernel
theorem dX2_copyFrom_35 : decode cX2_copyFrom 35 = .ok (.iconst 0, 1) := by decide +kernel
theorem dX2_copyFrom_36 : decode cX2_copyFrom 36 = .ok (.aload_n 0, 1) := by decide +kernel
theorem dX2_copyFrom_37 : decode cX2_copyFrom 37 = .ok (.getfield 19, 3) := by decide +kernel
theorem dX2_copyFrom_40 : decode cX2_copyFrom 40 = .ok (.arraylength, 1) := by decide +kernel
theorem dX2_copyFrom_41 : decode cX2_copyFrom 41 = .ok (.invokestatic 25, 3) := by decide +kernel
theorem dX2_copyFrom_44 : decode cX2_copyFrom 44 = .ok (.aload_n 1, 1) := by decide +kernel
theorem dX2_copyFrom_45 : decode cX2_copyFrom 45 = .ok (.getfield 22, 3) := by decide +kernel
theorem dX2_copyFrom_48 : decode cX2_copyFrom 48 = .ok (.iconst 0, 1) := by decide +kernel
theorem dX2_copyFrom_49 : decode cX2_copyFrom 49 = .ok (.aload_n 0, 1) := by decide +kernel
theorem dX2_copyFrom_50 : decode cX2_copyFrom 50 = .ok (.getfield 22, 3) := by decide +kernel
theorem dX2_copyFrom_53 : decode cX2_copyFrom 53 = .ok (.iconst 0, 1) := by decide +kernel
theorem dX2_copyFrom_54 : decode cX2_copyFrom 54 = .ok (.aload_n 0, 1) := by decide +kernel
theorem dX2_copyFrom_55 : decode cX2_copyFrom 55 = .ok (.getfield 22, 3) := by decide +kernel
theorem dX2_copyFrom_58 : decode cX2_copyFrom 58 = .ok (.arraylength, 1) := by decide +kernel
theorem dX2_copyFrom_59 : decode cX2_copyFrom 59 = .ok (.invokestatic 25, 3) := by decide +kernel
theorem dX2_copyFrom_62 : decode cX2_copyFrom 62 = .ok (.return_, 1) := by decide +kernel
theorem dX2_add_0 : decode cX2_add 0 = .ok (.aload_n 0, 1) := by decide +kernel
theorem dX2_add_1 : decode cX2_add 1 = .ok (.getfield 9, 3) := by decide +kernel
theorem dX2_add_4 : decode cX2_add 4 = .ok (.bipush 8, 2) := by decide +kernel
theorem dX2_add_6 : decode cX2_add 6 = .ok (.if_icmp .ge 43, 3) := by decide +kernel
theorem dX2_add_49 : decode cX2_add 49 = .ok (.return_, 1) := by decide +kernel
theorem dX2_add_9 : decode cX2_add 9 = .ok (.aload_n 0, 1) := by decide +kernel
theorem dX2_add_10 : decode cX2_add 10 = .ok (.getfield 15, 3) := by decide +kernel
theorem dX2_add_13 : decode cX2_add 13 = .ok (.aload_n 0, 1) := by decide +kernel
theorem dX2_add_14 : decode cX2_add 14 = .ok (.getfield 9, 3) := by decide +kernel
theorem dX2_add_17 : decode cX2_add 17 = .ok (.iload_n 1, 1) := by decide +kernel
theorem dX2_add_18 : decode cX2_add 18 = .ok (.iastore, 1) := by decide +kernel
theorem dX2_add_19 : decode cX2_add 19 = .ok (.aload_n 0, 1) := by decide +kernel
theorem dX2_add_20 : decode cX2_add 20 = .ok (.getfield 19, 3) := by decide +kernel
theorem dX2_add_23 : decode cX2_add 23 = .ok (.aload_n 0, 1) := by decide +kernel
theorem dX2_add_24 : decode cX2_add 24 = .ok (.getfield 9, 3) := by decide +kernel
theorem dX2_add_27 : decode cX2_add 27 = .ok (.iload_n 2, 1) := by decide +kernel
theorem dX2_add_28 : decode cX2_add 28 = .ok (.iastore, 1) := by decide +kernel
theorem dX2_add_29 : decode cX2_add 29 = .ok (.aload_n 0, 1) := by decide +kernel
theorem dX2_add_30 : decode cX2_add 30 = .ok (.getfield 22, 3) := by decide +kernel
theorem dX2_add_33 : decode cX2_add 33 = .ok (.aload_n 0, 1) := by decide +kernel
theorem dX2_add_34 : decode cX2_add 34 = .ok (.getfield 9, 3) := by decide +kernel
theorem dX2_add_37 : decode cX2_add 37 = .ok (.iload_n 3, 1) := by decide +kernel
theorem dX2_add_38 : decode cX2_add 38 = .ok (.iastore, 1) := by decide +kernel
theorem dX2_add_39 : decode cX2_add 39 = .ok (.aload_n 0, 1) := by decide +kernel
theorem dX2_add_40 : decode cX2_add 40 = .ok (.dup, 1) := by decide +kernel
theorem dX2_add_41 : decode cX2_add 41 = .ok (.getfield 9, 3) := by decide +kernel
theorem dX2_add_44 : decode cX2_add 44 = .ok (.iconst 1, 1) := by decide +kernel
theorem dX2_add_45 : decode cX2_add 45 = .ok (.iadd, 1) := by decide +kernel
theorem dX2_add_46 : decode cX2_add 46 = .ok (.putfield 9, 3) := by decide +kernel
theorem dX2_slopes_4 : decode cX2_slopes 4 = .ok (.iload_n 2, 1) := by decide +kernel
theorem dX2_slopes_5 : decode cX2_slopes 5 = .ok (.aload_n 0, 1) := by decide +kernel
theorem dX2_slopes_6 : decode cX2_slopes 6 = .ok (.getfield 9, 3) := by decide +kernel
theorem dX2_slopes_9 : decode cX2_slopes 9 = .ok (.if_icmp .ge 20, 3) := by decide +kernel
theorem dX2_slopes_29 : decode cX2_slopes 29 = .ok (.iload_n 1, 1) := by decide +kernel
theorem dX2_slopes_30 : decode cX2_slopes 30 = .ok (.ireturn, 1) := by decide +kernel
theorem dX2_slopes_12 : decode cX2_slopes 12 = .ok (.iload_n 1, 1) := by decide +kernel
theorem dX2_slopes_13 : decode cX2_slopes 13 = .ok (.iconst 1, 1) := by decide +kernel
theorem dX2_slopes_14 : decode cX2_slopes 14 = .ok (.aload_n 0, 1) := by decide +kernel
theorem dX2_slopes_15 : decode cX2_slopes 15 = .ok (.getfield 15, 3) := by decide +kernel
theorem dX2_slopes_18 : decode cX2_slopes 18 = .ok (.iload_n 2, 1) := by decide +kernel
theorem dX2_slopes_19 : decode cX2_slopes 19 = .ok (.iaload, 1) := by decide +kernel
theorem dX2_slopes_20 : decode cX2_slopes 20 = .ok (.ishl, 1) := by decide +kernel
theorem dX2_slopes_21 : decode cX2_slopes 21 = .ok (.ior, 1) := by decide +kernel
theorem dX2_slopes_22 : decode cX2_slopes 22 = .ok (.istore_n 1, 1) := by decide +kernel
theorem dX2_slopes_23 : decode cX2_slopes 23 = .ok (.iinc 2 1, 3) := by decide +kernel
theorem dX2_slopes_26 : decode cX2_slopes 26 = .ok (.goto (-22), 3) := by decide +kernel
theorem dX2_slopes_0 : decode cX2_slopes 0 = .ok (.iconst 0, 1) := by decide +kernel
theorem dX2_slopes_1 : decode cX2_slopes 1 = .ok (.istore_n 1, 1) := by decide +kernel
theorem dX2_slopes_2 : decode cX2_slopes 2 = .ok (.iconst 0, 1) := by decide +kernel
theorem dX2_slopes_3 : decode cX2_slopes 3 = .ok (.istore_n 2, 1) := by decide +kernel
theorem dX2_lastHour_4 : decode cX2_lastHour 4 = .ok (.iload_n 2, 1) := by decide +kernel
theorem dX2_lastHour_5 : decode cX2_lastHour 5 = .ok (.aload_n 0, 1) := by decide +kernel
theorem dX2_lastHour_6 : decode cX2_lastHour 6 = .ok (.getfield 9, 3) := by decide +kernel
theorem dX2_lastHour_9 : decode cX2_lastHour 9 = .ok (.if_icmp .ge 20, 3) := by decide +kernel
theorem dX2_lastHour_29 : decode cX2_lastHour 29 = .ok (.iload_n 1, 1) := by decide +kernel
theorem dX2_lastHour_30 : decode cX2_lastHour 30 = .ok (.ireturn, 1) := by decide +kernel
theorem dX2_lastHour_12 : decode cX2_lastHour 12 = .ok (.iload_n 1, 1) := by decide +kernel
theorem dX2_lastHour_13 : decode cX2_lastHour 13 = .ok (.aload_n 0, 1) := by decide +kernel
theorem dX2_lastHour_14 : decode cX2_lastHour 14 = .ok (.getfield 19, 3) := by decide +kernel
theorem dX2_lastHour_17 : decode cX2_lastHour 17 = .ok (.iload_n 2, 1) := by decide +kernel
theorem dX2_lastHour_18 : decode cX2_lastHour 18 = .ok (.iaload, 1) := by decide +kernel
theorem dX2_lastHour_19 : decode cX2_lastHour 19 = .ok (.invokestatic 31, 3) := by decide +kernel
theorem dX2_lastHour_22 : decode cX2_lastHour 22 = .ok (.istore_n 1, 1) := by decide +kernel
theorem dX2_lastHour_23 : decode cX2_lastHour 23 = .ok (.iinc 2 1, 3) := by decide +kernel
theorem dX2_lastHour_26 : decode cX2_lastHour 26 = .ok (.goto (-22), 3) := by decide +kernel
theorem dX2_lastHour_0 : decode cX2_lastHour 0 = .ok (.iconst (-1), 1) := by decide +kernel
theorem dX2_lastHour_1 : decode cX2_lastHour 1 = .ok (.istore_n 1, 1) := by decide +kernel
theorem dX2_lastHour_2 : decode cX2_lastHour 2 = .ok (.iconst 0, 1) := by decide +kernel
theorem dX2_lastHour_3 : decode cX2_lastHour 3 = .ok (.istore_n 2, 1) := by decide +kernel
theorem dX6_copyFrom_0 : decode cX6_copyFrom 0 = .ok (.aload_n 0, 1) := by decide +kernel
theorem dX6_copyFrom_1 : decode cX6_copyFrom 1 = .ok (.getfield 12, 3) := by decide +kernel
theorem dX6_copyFrom_4 : decode cX6_copyFrom 4 = .ok (.aload_n 1, 1) := by decide +kernel
theorem dX6_copyFrom_5 : decode cX6_copyFrom 5 = .ok (.getfield 12, 3) := by decide +kernel
theorem dX6_copyFrom_8 : decode cX6_copyFrom 8 = .ok (.invokevirtual 44, 3) := by decide +kernel
theorem dX6_copyFrom_11 : decode cX6_copyFrom 11 = .ok (.aload_n 0, 1) := by decide +kernel
theorem dX6_copyFrom_12 : decode cX6_copyFrom 12 = .ok (.aload_n 1, 1) := by decide +kernel
theorem dX6_copyFrom_13 : decode cX6_copyFrom 13 = .ok (.getfield 22, 3) := by decide +kernel
theorem dX6_copyFrom_16 : decode cX6_copyFrom 16 = .ok (.putfield 22, 3) := by decide +kernel
theorem dX6_copyFrom_19 : decode cX6_copyFrom 19 = .ok (.iconst 0, 1) := by decide +kernel
theorem dX6_copyFrom_20 : decode cX6_copyFrom 20 = .ok (.istore_n 2, 1) := by decide +kernel
theorem dX6_copyFrom_61 : decode cX6_copyFrom 61 = .ok (.iload_n 2, 1) := by decide +kernel
theorem dX6_copyFrom_62 : decode cX6_copyFrom 62 = .ok (.aload_n 0, 1) := by decide +kernel
theorem dX6_copyFrom_63 : decode cX6_copyFrom 63 = .ok (.getfield 28, 3) := by decide +kernel
theorem dX6_copyFrom_66 : decode cX6_copyFrom 66 = .ok (.arraylength, 1) := by decide +kernel
theorem dX6_copyFrom_67 : decode cX6_copyFrom 67 = .ok (.if_icmp .ge 24, 3) := by decide +kernel
theorem dX6_copyFrom_91 : decode cX6_copyFrom 91 = .ok (.aload_n 0, 1) := by decide +kernel
theorem dX6_copyFrom_92 : decode cX6_copyFrom 92 = .ok (.getfield 35, 3) := by decide +kernel
theorem dX6_copyFrom_95 : decode cX6_copyFrom 95 = .ok (.aload_n 1, 1) := by decide +kernel
theorem dX6_copyFrom_96 : decode cX6_copyFrom 96 = .ok (.getfield 35, 3) := by decide +kernel
theorem dX6_copyFrom_99 : decode cX6_copyFrom 99 = .ok (.invokevirtual 54, 3) := by decide +kernel
theorem dX6_copyFrom_102 : decode cX6_copyFrom 102 = .ok (.aload_n 1, 1) := by decide +kernel
theorem dX6_copyFrom_103 : decode cX6_copyFrom 103 = .ok (.getfield 39, 3) := by decide +kernel
theorem dX6_copyFrom_106 : decode cX6_copyFrom 106 = .ok (.iconst 0, 1) := by decide +kernel
theorem dX6_copyFrom_107 : decode cX6_copyFrom 107 = .ok (.aload_n 0, 1) := by decide +kernel
theorem dX6_copyFrom_108 : decode cX6_copyFrom 108 = .ok (.getfield 39, 3) := by decide +kernel
theorem dX6_copyFrom_111 : decode cX6_copyFrom 111 = .ok (.iconst 0, 1) := by decide +kernel
theorem dX6_copyFrom_112 : decode cX6_copyFrom 112 = .ok (.aload_n 0, 1) := by decide +kernel
theorem dX6_copyFrom_113 : decode cX6_copyFrom 113 = .ok (.getfield 39, 3) := by decide +kernel
theorem dX6_copyFrom_116 : decode cX6_copyFrom 116 = .ok (.arraylength, 1) := by decide +kernel
theorem dX6_copyFrom_117 : decode cX6_copyFrom 117 = .ok (.invokestatic 57, 3) := by decide +kernel
theorem dX6_copyFrom_120 : decode cX6_copyFrom 120 = .ok (.return_, 1) := by decide +kernel
theorem dX6_copyFrom_70 : decode cX6_copyFrom 70 = .ok (.aload_n 0, 1) := by decide +kernel
theorem dX6_copyFrom_71 : decode cX6_copyFrom 71 = .ok (.getfield 28, 3) := by decide +kernel
theorem dX6_copyFrom_74 : decode cX6_copyFrom 74 = .ok (.iload_n 2, 1) := by decide +kernel
theorem dX6_copyFrom_75 : decode cX6_copyFrom 75 = .ok (.aaload, 1) := by decide +kernel
theorem dX6_copyFrom_76 : decode cX6_copyFrom 76 = .ok (.aload_n 1, 1) := by decide +kernel
theorem dX6_copyFrom_77 : decode cX6_copyFrom 77 = .ok (.getfield 28, 3) := by decide +kernel
theorem dX6_copyFrom_80 : decode cX6_copyFrom 80 = .ok (.iload_n 2, 1) := by decide +kernel
theorem dX6_copyFrom_81 : decode cX6_copyFrom 81 = .ok (.aaload, 1) := by decide +kernel
theorem dX6_copyFrom_82 : decode cX6_copyFrom 82 = .ok (.invokevirtual 51, 3) := by decide +kernel
theorem dX6_copyFrom_85 : decode cX6_copyFrom 85 = .ok (.iinc 2 1, 3) := by decide +kernel
theorem dX6_copyFrom_88 : decode cX6_copyFrom 88 = .ok (.goto (-27), 3) := by decide +kernel
theorem dX6_copyFrom_21 : decode cX6_copyFrom 21 = .ok (.iload_n 2, 1) := by decide +kernel
theorem dX6_copyFrom_22 : decode cX6_copyFrom 22 = .ok (.aload_n 0, 1) := by decide +kernel
theorem dX6_copyFrom_23 : decode cX6_copyFrom 23 = .ok (.getfield 22, 3) := by decide +kernel
theorem dX6_copyFrom_26 : decode cX6_copyFrom 26 = .ok (.if_icmp .ge 33, 3) := by decide +kernel
theorem dX6_copyFrom_59 : decode cX6_copyFrom 59 = .ok (.iconst 0, 1) := by decide +kernel
theorem dX6_copyFrom_60 : decode cX6_copyFrom 60 = .ok (.istore_n 2, 1) := by decide +kernel
theorem dX6_copyFrom_29 : decode cX6_copyFrom 29 = .ok (.iload_n 2, 1) := by decide +kernel
theorem dX6_copyFrom_30 : decode cX6_copyFrom 30 = .ok (.aload_n 0, 1) := by decide +kernel
theorem dX6_copyFrom_31 : decode cX6_copyFrom 31 = .ok (.getfield 18, 3) := by decide +kernel
theorem dX6_copyFrom_34 : decode cX6_copyFrom 34 = .ok (.arraylength, 1) := by decide +kernel
theorem dX6_copyFrom_35 : decode cX6_copyFrom 35 = .ok (.if_icmp .ge 24, 3) := by decide +kernel
theorem dX6_copyFrom_38 : decode cX6_copyFrom 38 = .ok (.aload_n 0, 1) := by decide +kernel
theorem dX6_copyFrom_39 : decode cX6_copyFrom 39 = .ok (.getfield 18, 3) := by decide +kernel
theorem dX6_copyFrom_42 : decode cX6_copyFrom 42 = .ok (.iload_n 2, 1) := by decide +kernel
theorem dX6_copyFrom_43 : decode cX6_copyFrom 43 = .ok (.aaload, 1) := by decide +kernel
theorem dX6_copyFrom_44 : decode cX6_copyFrom 44 = .ok (.aload_n 1, 1) := by decide +kernel
theorem dX6_copyFrom_45 : decode cX6_copyFrom 45 = .ok (.getfield 18, 3) := by decide +kernel
theorem dX6_copyFrom_48 : decode cX6_copyFrom 48 = .ok (.iload_n 2, 1) := by decide +kernel
theorem dX6_copyFrom_49 : decode cX6_copyFrom 49 = .ok (.aaload, 1) := by decide +kernel
theorem dX6_copyFrom_50 : decode cX6_copyFrom 50 = .ok (.invokevirtual 44, 3) := by decide +kernel
theorem dX6_copyFrom_53 : decode cX6_copyFrom 53 = .ok (.iinc 2 1, 3) := by decide +kernel
theorem dX6_copyFrom_56 : decode cX6_copyFrom 56 = .ok (.goto (-35), 3) := by decide +kernel
theorem dX6_keepPit_0 : decode cX6_keepPit 0 = .ok (.aload_n 0, 1) := by decide +kernel
theorem dX6_keepPit_1 : decode cX6_keepPit 1 = .ok (.getfield 12, 3) := by decide +kernel
theorem dX6_keepPit_4 : decode cX6_keepPit 4 = .ok (.getfield 66, 3) := by decide +kernel
theorem dX6_keepPit_7 : decode cX6_keepPit 7 = .ok (.bipush 6, 2) := by decide +kernel
theorem dX6_keepPit_9 : decode cX6_keepPit 9 = .ok (.if_icmp .ge 61, 3) := by decide +kernel
theorem dX6_keepPit_70 : decode cX6_keepPit 70 = .ok (.return_, 1) := by decide +kernel
theorem dX6_keepPit_12 : decode cX6_keepPit 12 = .ok (.aload_n 0, 1) := by decide +kernel
theorem dX6_keepPit_13 : decode cX6_keepPit 13 = .ok (.getfield 28, 3) := by decide +kernel
theorem dX6_keepPit_16 : decode cX6_keepPit 16 = .ok (.aload_n 0, 1) := by decide +kernel
theorem dX6_keepPit_17 : decode cX6_keepPit 17 = .ok (.getfield 12, 3) := by decide +kernel
theorem dX6_keepPit_20 : decode cX6_keepPit 20 = .ok (.getfield 66, 3) := by decide +kernel
theorem dX6_keepPit_23 : decode cX6_keepPit 23 = .ok (.aaload, 1) := by decide +kernel
theorem dX6_keepPit_24 : decode cX6_keepPit 24 = .ok (.astore_n 2, 1) := by decide +kernel
theorem dX6_keepPit_25 : decode cX6_keepPit 25 = .ok (.aload_n 2, 1) := by decide +kernel
theorem dX6_keepPit_26 : decode cX6_keepPit 26 = .ok (.iload_n 1, 1) := by decide +kernel
theorem dX6_keepPit_27 : decode cX6_keepPit 27 = .ok (.putfield 68, 3) := by decide +kernel
theorem dX6_keepPit_30 : decode cX6_keepPit 30 = .ok (.aload_n 2, 1) := by decide +kernel
theorem dX6_keepPit_31 : decode cX6_keepPit 31 = .ok (.aload_n 0, 1) := by decide +kernel
theorem dX6_keepPit_32 : decode cX6_keepPit 32 = .ok (.getfield 12, 3) := by decide +kernel
theorem dX6_keepPit_35 : decode cX6_keepPit 35 = .ok (.getfield 71, 3) := by decide +kernel
theorem dX6_keepPit_38 : decode cX6_keepPit 38 = .ok (.putfield 74, 3) := by decide +kernel
theorem dX6_keepPit_41 : decode cX6_keepPit 41 = .ok (.aload_n 2, 1) := by decide +kernel
theorem dX6_keepPit_42 : decode cX6_keepPit 42 = .ok (.getfield 75, 3) := by decide +kernel
theorem dX6_keepPit_45 : decode cX6_keepPit 45 = .ok (.aload_n 0, 1) := by decide +kernel
theorem dX6_keepPit_46 : decode cX6_keepPit 46 = .ok (.getfield 12, 3) := by decide +kernel
theorem dX6_keepPit_49 : decode cX6_keepPit 49 = .ok (.getfield 79, 3) := by decide +kernel
theorem dX6_keepPit_52 : decode cX6_keepPit 52 = .ok (.iload_n 1, 1) := by decide +kernel
theorem dX6_keepPit_53 : decode cX6_keepPit 53 = .ok (.aaload, 1) := by decide +kernel
theorem dX6_keepPit_54 : decode cX6_keepPit 54 = .ok (.invokevirtual 83, 3) := by decide +kernel
theorem dX6_keepPit_57 : decode cX6_keepPit 57 = .ok (.aload_n 0, 1) := by decide +kernel
theorem dX6_keepPit_58 : decode cX6_keepPit 58 = .ok (.getfield 12, 3) := by decide +kernel
theorem dX6_keepPit_61 : decode cX6_keepPit 61 = .ok (.dup, 1) := by decide +kernel
theorem dX6_keepPit_62 : decode cX6_keepPit 62 = .ok (.getfield 66, 3) := by decide +kernel
theorem dX6_keepPit_65 : decode cX6_keepPit 65 = .ok (.iconst 1, 1) := by decide +kernel
theorem dX6_keepPit_66 : decode cX6_keepPit 66 = .ok (.iadd, 1) := by decide +kernel
theorem dX6_keepPit_67 : decode cX6_keepPit 67 = .ok (.putfield 66, 3) := by decide +kernel
