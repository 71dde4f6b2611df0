-- decode rows of worldm
theorem dX8_copyFrom_0 : decode cX8_copyFrom 0 = .ok (.aload_n 0, 1) := by decide +kernel
theorem dX8_copyFrom_1 : decode cX8_copyFrom 1 = .ok (.aload_n 1, 1) := by decide +kernel
theorem dX8_copyFrom_2 : decode cX8_copyFrom 2 = .ok (.getfield 9, 3) := by decide +kernel
theorem dX8_copyFrom_5 : decode cX8_copyFrom 5 = .ok (.putfield 9, 3) := by decide +kernel
theorem dX8_copyFrom_8 : decode cX8_copyFrom 8 = .ok (.aload_n 0, 1) := by decide +kernel
theorem dX8_copyFrom_9 : decode cX8_copyFrom 9 = .ok (.aload_n 1, 1) := by decide +kernel
theorem dX8_copyFrom_10 : decode cX8_copyFrom 10 = .ok (.getfield 15, 3) := by decide +kernel
theorem dX8_copyFrom_13 : decode cX8_copyFrom 13 = .ok (.putfield 15, 3) := by decide +kernel
theorem dX8_copyFrom_16 : decode cX8_copyFrom 16 = .ok (.aload_n 0, 1) := by decide +kernel
theorem dX8_copyFrom_17 : decode cX8_copyFrom 17 = .ok (.aload_n 1, 1) := by decide +kernel
theorem dX8_copyFrom_18 : decode cX8_copyFrom 18 = .ok (.getfield 18, 3) := by decide +kernel
theorem dX8_copyFrom_21 : decode cX8_copyFrom 21 = .ok (.putfield 18, 3) := by decide +kernel
theorem dX8_copyFrom_24 : decode cX8_copyFrom 24 = .ok (.aload_n 0, 1) := by decide +kernel
theorem dX8_copyFrom_25 : decode cX8_copyFrom 25 = .ok (.aload_n 1, 1) := by decide +kernel
theorem dX8_copyFrom_26 : decode cX8_copyFrom 26 = .ok (.getfield 21, 3) := by decide +kernel
theorem dX8_copyFrom_29 : decode cX8_copyFrom 29 = .ok (.putfield 21, 3) := by decide +kernel
theorem dX8_copyFrom_32 : decode cX8_copyFrom 32 = .ok (.aload_n 0, 1) := by decide +kernel
theorem dX8_copyFrom_33 : decode cX8_copyFrom 33 = .ok (.aload_n 1, 1) := by decide +kernel
theorem dX8_copyFrom_34 : decode cX8_copyFrom 34 = .ok (.getfield 24, 3) := by decide +kernel
theorem dX8_copyFrom_37 : decode cX8_copyFrom 37 = .ok (.putfield 24, 3) := by decide +kernel
theorem dX8_copyFrom_40 : decode cX8_copyFrom 40 = .ok (.aload_n 0, 1) := by decide +kernel
theorem dX8_copyFrom_41 : decode cX8_copyFrom 41 = .ok (.aload_n 1, 1) := by decide +kernel
theorem dX8_copyFrom_42 : decode cX8_copyFrom 42 = .ok (.getfield 27, 3) := by decide +kernel
theorem dX8_copyFrom_45 : decode cX8_copyFrom 45 = .ok (.putfield 27, 3) := by decide +kernel
theorem dX8_copyFrom_48 : decode cX8_copyFrom 48 = .ok (.iconst 0, 1) := by decide +kernel
theorem dX8_copyFrom_49 : decode cX8_copyFrom 49 = .ok (.istore_n 2, 1) := by decide +kernel
theorem dX8_copyFrom_50 : decode cX8_copyFrom 50 = .ok (.iload_n 2, 1) := by decide +kernel
theorem dX8_copyFrom_51 : decode cX8_copyFrom 51 = .ok (.aload_n 0, 1) := by decide +kernel
theorem dX8_copyFrom_52 : decode cX8_copyFrom 52 = .ok (.getfield 32, 3) := by decide +kernel
theorem dX8_copyFrom_55 : decode cX8_copyFrom 55 = .ok (.arraylength, 1) := by decide +kernel
theorem dX8_copyFrom_56 : decode cX8_copyFrom 56 = .ok (.if_icmp .ge 24, 3) := by decide +kernel
theorem dX8_copyFrom_59 : decode cX8_copyFrom 59 = .ok (.aload_n 0, 1) := by decide +kernel
theorem dX8_copyFrom_60 : decode cX8_copyFrom 60 = .ok (.getfield 32, 3) := by decide +kernel
theorem dX8_copyFrom_63 : decode cX8_copyFrom 63 = .ok (.iload_n 2, 1) := by decide +kernel
theorem dX8_copyFrom_64 : decode cX8_copyFrom 64 = .ok (.aaload, 1) := by decide +kernel
theorem dX8_copyFrom_65 : decode cX8_copyFrom 65 = .ok (.aload_n 1, 1) := by decide +kernel
theorem dX8_copyFrom_66 : decode cX8_copyFrom 66 = .ok (.getfield 32, 3) := by decide +kernel
theorem dX8_copyFrom_69 : decode cX8_copyFrom 69 = .ok (.iload_n 2, 1) := by decide +kernel
theorem dX8_copyFrom_70 : decode cX8_copyFrom 70 = .ok (.aaload, 1) := by decide +kernel
theorem dX8_copyFrom_71 : decode cX8_copyFrom 71 = .ok (.invokevirtual 40, 3) := by decide +kernel
theorem dX8_copyFrom_74 : decode cX8_copyFrom 74 = .ok (.iinc 2 1, 3) := by decide +kernel
theorem dX8_copyFrom_77 : decode cX8_copyFrom 77 = .ok (.goto (-27), 3) := by decide +kernel
theorem dX8_copyFrom_80 : decode cX8_copyFrom 80 = .ok (.return_, 1) := by decide +kernel
theorem dX8_clear_0 : decode cX8_clear 0 = .ok (.aload_n 0, 1) := by decide +kernel
theorem dX8_clear_1 : decode cX8_clear 1 = .ok (.iconst 0, 1) := by decide +kernel
theorem dX8_clear_2 : decode cX8_clear 2 = .ok (.putfield 9, 3) := by decide +kernel
theorem dX8_clear_5 : decode cX8_clear 5 = .ok (.aload_n 0, 1) := by decide +kernel
theorem dX8_clear_6 : decode cX8_clear 6 = .ok (.iconst 0, 1) := by decide +kernel
theorem dX8_clear_7 : decode cX8_clear 7 = .ok (.putfield 15, 3) := by decide +kernel
theorem dX8_clear_10 : decode cX8_clear 10 = .ok (.aload_n 0, 1) := by decide +kernel
theorem dX8_clear_11 : decode cX8_clear 11 = .ok (.iconst 0, 1) := by decide +kernel
theorem dX8_clear_12 : decode cX8_clear 12 = .ok (.putfield 18, 3) := by decide +kernel
theorem dX8_clear_15 : decode cX8_clear 15 = .ok (.aload_n 0, 1) := by decide +kernel
theorem dX8_clear_16 : decode cX8_clear 16 = .ok (.iconst 0, 1) := by decide +kernel
theorem dX8_clear_17 : decode cX8_clear 17 = .ok (.putfield 21, 3) := by decide +kernel
theorem dX8_clear_20 : decode cX8_clear 20 = .ok (.aload_n 0, 1) := by decide +kernel
theorem dX8_clear_21 : decode cX8_clear 21 = .ok (.iconst 0, 1) := by decide +kernel
theorem dX8_clear_22 : decode cX8_clear 22 = .ok (.putfield 24, 3) := by decide +kernel
theorem dX8_clear_25 : decode cX8_clear 25 = .ok (.aload_n 0, 1) := by decide +kernel
theorem dX8_clear_26 : decode cX8_clear 26 = .ok (.iconst 0, 1) := by decide +kernel
theorem dX8_clear_27 : decode cX8_clear 27 = .ok (.putfield 27, 3) := by decide +kernel
theorem dX8_clear_30 : decode cX8_clear 30 = .ok (.iconst 0, 1) := by decide +kernel
theorem dX8_clear_31 : decode cX8_clear 31 = .ok (.istore_n 1, 1) := by decide +kernel
theorem dX8_clear_32 : decode cX8_clear 32 = .ok (.iload_n 1, 1) := by decide +kernel
theorem dX8_clear_33 : decode cX8_clear 33 = .ok (.aload_n 0, 1) := by decide +kernel
theorem dX8_clear_34 : decode cX8_clear 34 = .ok (.getfield 32, 3) := by decide +kernel
theorem dX8_clear_37 : decode cX8_clear 37 = .ok (.arraylength, 1) := by decide +kernel
theorem dX8_clear_38 : decode cX8_clear 38 = .ok (.if_icmp .ge 18, 3) := by decide +kernel
theorem dX8_clear_41 : decode cX8_clear 41 = .ok (.aload_n 0, 1) := by decide +kernel
theorem dX8_clear_42 : decode cX8_clear 42 = .ok (.getfield 32, 3) := by decide +kernel
theorem dX8_clear_45 : decode cX8_clear 45 = .ok (.iload_n 1, 1) := by decide +kernel
theorem dX8_clear_46 : decode cX8_clear 46 = .ok (.aaload, 1) := by decide +kernel
theorem dX8_clear_47 : decode cX8_clear 47 = .ok (.invokevirtual 37, 3) := by decide +kernel
theorem dX8_clear_50 : decode cX8_clear 50 = .ok (.iinc 1 1, 3) := by decide +kernel
theorem dX8_clear_53 : decode cX8_clear 53 = .ok (.goto (-21), 3) := by decide +kernel
theorem dX8_clear_56 : decode cX8_clear 56 = .ok (.return_, 1) := by decide +kernel
theorem dX8_fallOn_0 : decode cX8_fallOn 0 = .ok (.aload_n 0, 1) := by decide +kernel
theorem dX8_fallOn_1 : decode cX8_fallOn 1 = .ok (.getfield 32, 3) := by decide +kernel
theorem dX8_fallOn_4 : decode cX8_fallOn 4 = .ok (.iload_n 1, 1) := by decide +kernel
theorem dX8_fallOn_5 : decode cX8_fallOn 5 = .ok (.aaload, 1) := by decide +kernel
theorem dX8_fallOn_6 : decode cX8_fallOn 6 = .ok (.astore 5, 2) := by decide +kernel
theorem dX8_fallOn_8 : decode cX8_fallOn 8 = .ok (.iload_n 2, 1) := by decide +kernel
theorem dX8_fallOn_9 : decode cX8_fallOn 9 = .ok (.iconst 2, 1) := by decide +kernel
theorem dX8_fallOn_10 : decode cX8_fallOn 10 = .ok (.if_icmp .ne 15, 3) := by decide +kernel
theorem dX8_fallOn_25 : decode cX8_fallOn 25 = .ok (.iload_n 2, 1) := by decide +kernel
theorem dX8_fallOn_26 : decode cX8_fallOn 26 = .ok (.iconst 3, 1) := by decide +kernel
theorem dX8_fallOn_27 : decode cX8_fallOn 27 = .ok (.if_icmp .ne 12, 3) := by decide +kernel
theorem dX8_fallOn_39 : decode cX8_fallOn 39 = .ok (.iconst 0, 1) := by decide +kernel
theorem dX8_fallOn_40 : decode cX8_fallOn 40 = .ok (.istore 6, 2) := by decide +kernel
theorem dX8_fallOn_42 : decode cX8_fallOn 42 = .ok (.iload 6, 2) := by decide +kernel
theorem dX8_fallOn_44 : decode cX8_fallOn 44 = .ok (.ifCond .ne 9, 3) := by decide +kernel
theorem dX8_fallOn_47 : decode cX8_fallOn 47 = .ok (.iload_n 2, 1) := by decide +kernel
theorem dX8_fallOn_48 : decode cX8_fallOn 48 = .ok (.iconst 1, 1) := by decide +kernel
theorem dX8_fallOn_49 : decode cX8_fallOn 49 = .ok (.if_icmp .eq 4, 3) := by decide +kernel
theorem dX8_fallOn_53 : decode cX8_fallOn 53 = .ok (.aload 5, 2) := by decide +kernel
theorem dX8_fallOn_55 : decode cX8_fallOn 55 = .ok (.getfield 44, 3) := by decide +kernel
theorem dX8_fallOn_58 : decode cX8_fallOn 58 = .ok (.bipush 12, 2) := by decide +kernel
theorem dX8_fallOn_60 : decode cX8_fallOn 60 = .ok (.if_icmp .ne 8, 3) := by decide +kernel
theorem dX8_fallOn_68 : decode cX8_fallOn 68 = .ok (.iload 6, 2) := by decide +kernel
theorem dX8_fallOn_70 : decode cX8_fallOn 70 = .ok (.ifCond .eq 7, 3) := by decide +kernel
theorem dX8_fallOn_77 : decode cX8_fallOn 77 = .ok (.iload_n 3, 1) := by decide +kernel
theorem dX8_fallOn_78 : decode cX8_fallOn 78 = .ok (.istore 7, 2) := by decide +kernel
theorem dX8_fallOn_80 : decode cX8_fallOn 80 = .ok (.aload 5, 2) := by decide +kernel
theorem dX8_fallOn_82 : decode cX8_fallOn 82 = .ok (.iload 6, 2) := by decide +kernel
theorem dX8_fallOn_84 : decode cX8_fallOn 84 = .ok (.ifCond .eq 7, 3) := by decide +kernel
theorem dX8_fallOn_91 : decode cX8_fallOn 91 = .ok (.iconst 0, 1) := by decide +kernel
theorem dX8_fallOn_92 : decode cX8_fallOn 92 = .ok (.iload 7, 2) := by decide +kernel
theorem dX8_fallOn_94 : decode cX8_fallOn 94 = .ok (.iconst 0, 1) := by decide +kernel
theorem dX8_fallOn_95 : decode cX8_fallOn 95 = .ok (.bipush 10, 2) := by decide +kernel
theorem dX8_fallOn_97 : decode cX8_fallOn 97 = .ok (.iload 7, 2) := by decide +kernel
theorem dX8_fallOn_99 : decode cX8_fallOn 99 = .ok (.imul, 1) := by decide +kernel
theorem dX8_fallOn_100 : decode cX8_fallOn 100 = .ok (.iload 4, 2) := by decide +kernel
theorem dX8_fallOn_102 : decode cX8_fallOn 102 = .ok (.iconst 0, 1) := by decide +kernel
theorem dX8_fallOn_103 : decode cX8_fallOn 103 = .ok (.invokestatic 107, 3) := by decide +kernel
theorem dX8_fallOn_106 : decode cX8_fallOn 106 = .ok (.aload_n 0, 1) := by decide +kernel
theorem dX8_fallOn_107 : decode cX8_fallOn 107 = .ok (.getfield 15, 3) := by decide +kernel
theorem dX8_fallOn_110 : decode cX8_fallOn 110 = .ok (.invokevirtual 113, 3) := by decide +kernel
theorem dX8_fallOn_113 : decode cX8_fallOn 113 = .ok (.aload_n 0, 1) := by decide +kernel
theorem dX8_fallOn_114 : decode cX8_fallOn 114 = .ok (.dup, 1) := by decide +kernel
theorem dX8_fallOn_115 : decode cX8_fallOn 115 = .ok (.getfield 15, 3) := by decide +kernel
theorem dX8_fallOn_118 : decode cX8_fallOn 118 = .ok (.iconst 1, 1) := by decide +kernel
theorem dX8_fallOn_119 : decode cX8_fallOn 119 = .ok (.iadd, 1) := by decide +kernel
theorem dX8_fallOn_120 : decode cX8_fallOn 120 = .ok (.putfield 15, 3) := by decide +kernel
theorem dX8_fallOn_123 : decode cX8_fallOn 123 = .ok (.return_, 1) := by decide +kernel
theorem dX8_fallOn_63 : decode cX8_fallOn 63 = .ok (.aload 5, 2) := by decide +kernel
theorem dX8_fallOn_65 : decode cX8_fallOn 65 = .ok (.invokevirtual 104, 3) := by decide +kernel
theorem dX8_fallOn_52 : decode cX8_fallOn 52 = .ok (.return_, 1) := by decide +kernel
theorem dX8_fallOn_30 : decode cX8_fallOn 30 = .ok (.iload 4, 2) := by decide +kernel
theorem dX8_fallOn_32 : decode cX8_fallOn 32 = .ok (.ifCond .ge 7, 3) := by decide +kernel
theorem dX8_fallOn_35 : decode cX8_fallOn 35 = .ok (.iconst 1, 1) := by decide +kernel
theorem dX8_fallOn_36 : decode cX8_fallOn 36 = .ok (.goto 4, 3) := by decide +kernel
theorem dX8_fallOn_73 : decode cX8_fallOn 73 = .ok (.iconst 1, 1) := by decide +kernel
theorem dX8_fallOn_74 : decode cX8_fallOn 74 = .ok (.goto 4, 3) := by decide +kernel
theorem dX8_fallOn_87 : decode cX8_fallOn 87 = .ok (.iconst 4, 1) := by decide +kernel
theorem dX8_fallOn_88 : decode cX8_fallOn 88 = .ok (.goto 4, 3) := by decide +kernel
theorem dX8_fallOn_13 : decode cX8_fallOn 13 = .ok (.aload 5, 2) := by decide +kernel
theorem dX8_fallOn_15 : decode cX8_fallOn 15 = .ok (.aload 5, 2) := by decide +kernel
theorem dX8_fallOn_17 : decode cX8_fallOn 17 = .ok (.getfield 44, 3) := by decide +kernel
theorem dX8_fallOn_20 : decode cX8_fallOn 20 = .ok (.iload_n 3, 1) := by decide +kernel
theorem dX8_fallOn_21 : decode cX8_fallOn 21 = .ok (.invokevirtual 100, 3) := by decide +kernel
theorem dX8_fallOn_24 : decode cX8_fallOn 24 = .ok (.return_, 1) := by decide +kernel
theorem dX8_digOn_0 : decode cX8_digOn 0 = .ok (.aload_n 0, 1) := by decide +kernel
theorem dX8_digOn_1 : decode cX8_digOn 1 = .ok (.getfield 32, 3) := by decide +kernel
theorem dX8_digOn_4 : decode cX8_digOn 4 = .ok (.iload_n 1, 1) := by decide +kernel
theorem dX8_digOn_5 : decode cX8_digOn 5 = .ok (.aaload, 1) := by decide +kernel
theorem dX8_digOn_6 : decode cX8_digOn 6 = .ok (.astore_n 2, 1) := by decide +kernel
theorem dX8_digOn_7 : decode cX8_digOn 7 = .ok (.aload_n 2, 1) := by decide +kernel
theorem dX8_digOn_8 : decode cX8_digOn 8 = .ok (.getfield 44, 3) := by decide +kernel
theorem dX8_digOn_11 : decode cX8_digOn 11 = .ok (.ifCond .ne 5, 3) := by decide +kernel
theorem dX8_digOn_16 : decode cX8_digOn 16 = .ok (.aload_n 2, 1) := by decide +kernel
theorem dX8_digOn_17 : decode cX8_digOn 17 = .ok (.dup, 1) := by decide +kernel
theorem dX8_digOn_18 : decode cX8_digOn 18 = .ok (.getfield 44, 3) := by decide +kernel
theorem dX8_digOn_21 : decode cX8_digOn 21 = .ok (.iconst 1, 1) := by decide +kernel
theorem dX8_digOn_22 : decode cX8_digOn 22 = .ok (.isub, 1) := by decide +kernel
theorem dX8_digOn_23 : decode cX8_digOn 23 = .ok (.putfield 44, 3) := by decide +kernel
theorem dX8_digOn_26 : decode cX8_digOn 26 = .ok (.aload_n 0, 1) := by decide +kernel
theorem dX8_digOn_27 : decode cX8_digOn 27 = .ok (.dup, 1) := by decide +kernel
theorem dX8_digOn_28 : decode cX8_digOn 28 = .ok (.getfield 18, 3) := by decide +kernel
theorem dX8_digOn_31 : decode cX8_digOn 31 = .ok (.aload_n 2, 1) := by decide +kernel
theorem dX8_digOn_32 : decode cX8_digOn 32 = .ok (.aload_n 2, 1) := by decide +kernel
theorem dX8_digOn_33 : decode cX8_digOn 33 = .ok (.getfield 44, 3) := by decide +kernel
theorem dX8_digOn_36 : decode cX8_digOn 36 = .ok (.invokevirtual 117, 3) := by decide +kernel
theorem dX8_digOn_39 : decode cX8_digOn 39 = .ok (.iadd, 1) := by decide +kernel
theorem dX8_digOn_40 : decode cX8_digOn 40 = .ok (.putfield 18, 3) := by decide +kernel
theorem dX8_digOn_43 : decode cX8_digOn 43 = .ok (.aload_n 2, 1) := by decide +kernel
theorem dX8_digOn_44 : decode cX8_digOn 44 = .ok (.getfield 120, 3) := by decide +kernel
theorem dX8_digOn_47 : decode cX8_digOn 47 = .ok (.bipush 72, 2) := by decide +kernel
theorem dX8_digOn_49 : decode cX8_digOn 49 = .ok (.aload_n 2, 1) := by decide +kernel
theorem dX8_digOn_50 : decode cX8_digOn 50 = .ok (.getfield 44, 3) := by decide +kernel
theorem dX8_digOn_53 : decode cX8_digOn 53 = .ok (.iadd, 1) := by decide +kernel
theorem dX8_digOn_54 : decode cX8_digOn 54 = .ok (.iaload, 1) := by decide +kernel
theorem dX8_digOn_55 : decode cX8_digOn 55 = .ok (.ireturn, 1) := by decide +kernel
theorem dX8_digOn_14 : decode cX8_digOn 14 = .ok (.iconst (-1), 1) := by decide +kernel
theorem dX8_digOn_15 : decode cX8_digOn 15 = .ok (.ireturn, 1) := by decide +kernel
theorem dX8_slideOn_0 : decode cX8_slideOn 0 = .ok (.aload_n 0, 1) := by decide +kernel
theorem dX8_slideOn_1 : decode cX8_slideOn 1 = .ok (.getfield 32, 3) := by decide +kernel
theorem dX8_slideOn_4 : decode cX8_slideOn 4 = .ok (.iload_n 1, 1) := by decide +kernel
theorem dX8_slideOn_5 : decode cX8_slideOn 5 = .ok (.aaload, 1) := by decide +kernel
theorem dX8_slideOn_6 : decode cX8_slideOn 6 = .ok (.astore_n 3, 1) := by decide +kernel
theorem dX8_slideOn_7 : decode cX8_slideOn 7 = .ok (.aload_n 3, 1) := by decide +kernel
theorem dX8_slideOn_8 : decode cX8_slideOn 8 = .ok (.aload_n 2, 1) := by decide +kernel
theorem dX8_slideOn_9 : decode cX8_slideOn 9 = .ok (.getfield 123, 3) := by decide +kernel
theorem dX8_slideOn_12 : decode cX8_slideOn 12 = .ok (.iload_n 1, 1) := by decide +kernel
theorem dX8_slideOn_13 : decode cX8_slideOn 13 = .ok (.iaload, 1) := by decide +kernel
theorem dX8_slideOn_14 : decode cX8_slideOn 14 = .ok (.aload_n 2, 1) := by decide +kernel
theorem dX8_slideOn_15 : decode cX8_slideOn 15 = .ok (.invokevirtual 126, 3) := by decide +kernel
theorem dX8_slideOn_18 : decode cX8_slideOn 18 = .ok (.istore 4, 2) := by decide +kernel
theorem dX8_slideOn_20 : decode cX8_slideOn 20 = .ok (.aload_n 3, 1) := by decide +kernel
theorem dX8_slideOn_21 : decode cX8_slideOn 21 = .ok (.getfield 44, 3) := by decide +kernel
theorem dX8_slideOn_24 : decode cX8_slideOn 24 = .ok (.iconst 1, 1) := by decide +kernel
theorem dX8_slideOn_25 : decode cX8_slideOn 25 = .ok (.isub, 1) := by decide +kernel
theorem dX8_slideOn_26 : decode cX8_slideOn 26 = .ok (.iload 4, 2) := by decide +kernel
theorem dX8_slideOn_28 : decode cX8_slideOn 28 = .ok (.isub, 1) := by decide +kernel
theorem dX8_slideOn_29 : decode cX8_slideOn 29 = .ok (.istore 5, 2) := by decide +kernel
theorem dX8_slideOn_31 : decode cX8_slideOn 31 = .ok (.aload_n 0, 1) := by decide +kernel
theorem dX8_slideOn_32 : decode cX8_slideOn 32 = .ok (.dup, 1) := by decide +kernel
theorem dX8_slideOn_33 : decode cX8_slideOn 33 = .ok (.getfield 21, 3) := by decide +kernel
theorem dX8_slideOn_36 : decode cX8_slideOn 36 = .ok (.aload_n 3, 1) := by decide +kernel
theorem dX8_slideOn_37 : decode cX8_slideOn 37 = .ok (.iload 4, 2) := by decide +kernel
theorem dX8_slideOn_39 : decode cX8_slideOn 39 = .ok (.invokevirtual 130, 3) := by decide +kernel
theorem dX8_slideOn_42 : decode cX8_slideOn 42 = .ok (.iadd, 1) := by decide +kernel
theorem dX8_slideOn_43 : decode cX8_slideOn 43 = .ok (.putfield 21, 3) := by decide +kernel
theorem dX8_slideOn_46 : decode cX8_slideOn 46 = .ok (.aload_n 0, 1) := by decide +kernel
theorem dX8_slideOn_47 : decode cX8_slideOn 47 = .ok (.dup, 1) := by decide +kernel
theorem dX8_slideOn_48 : decode cX8_slideOn 48 = .ok (.getfield 24, 3) := by decide +kernel
theorem dX8_slideOn_51 : decode cX8_slideOn 51 = .ok (.iconst 1, 1) := by decide +kernel
theorem dX8_slideOn_52 : decode cX8_slideOn 52 = .ok (.iadd, 1) := by decide +kernel
theorem dX8_slideOn_53 : decode cX8_slideOn 53 = .ok (.putfield 24, 3) := by decide +kernel
theorem dX8_slideOn_56 : decode cX8_slideOn 56 = .ok (.aload_n 3, 1) := by decide +kernel
theorem dX8_slideOn_57 : decode cX8_slideOn 57 = .ok (.iload 4, 2) := by decide +kernel
theorem dX8_slideOn_59 : decode cX8_slideOn 59 = .ok (.iconst 1, 1) := by decide +kernel
theorem dX8_slideOn_60 : decode cX8_slideOn 60 = .ok (.iadd, 1) := by decide +kernel
theorem dX8_slideOn_61 : decode cX8_slideOn 61 = .ok (.putfield 44, 3) := by decide +kernel
theorem dX8_slideOn_64 : decode cX8_slideOn 64 = .ok (.iload 5, 2) := by decide +kernel
theorem dX8_slideOn_66 : decode cX8_slideOn 66 = .ok (.ireturn, 1) := by decide +kernel
theorem dX8_hour_41 : decode cX8_hour 41 = .ok (.iload 7, 2) := by decide +kernel
theorem dX8_hour_43 : decode cX8_hour 43 = .ok (.aload_n 1, 1) := by decide +kernel
theorem dX8_hour_44 : decode cX8_hour 44 = .ok (.getfield 69, 3) := by decide +kernel
theorem dX8_hour_47 : decode cX8_hour 47 = .ok (.if_icmp .ge 94, 3) := by decide +kernel
theorem dX8_hour_141 : decode cX8_hour 141 = .ok (.aload_n 0, 1) := by decide +kernel
theorem dX8_hour_142 : decode cX8_hour 142 = .ok (.dup, 1) := by decide +kernel
theorem dX8_hour_143 : decode cX8_hour 143 = .ok (.getfield 9, 3) := by decide +kernel
theorem dX8_hour_146 : decode cX8_hour 146 = .ok (.iconst 1, 1) := by decide +kernel
theorem dX8_hour_147 : decode cX8_hour 147 = .ok (.iadd, 1) := by decide +kernel
theorem dX8_hour_148 : decode cX8_hour 148 = .ok (.putfield 9, 3) := by decide +kernel
theorem dX8_hour_151 : decode cX8_hour 151 = .ok (.return_, 1) := by decide +kernel
theorem dX8_hour_50 : decode cX8_hour 50 = .ok (.iload_n 2, 1) := by decide +kernel
theorem dX8_hour_51 : decode cX8_hour 51 = .ok (.iload 7, 2) := by decide +kernel
theorem dX8_hour_53 : decode cX8_hour 53 = .ok (.ishr, 1) := by decide +kernel
theorem dX8_hour_54 : decode cX8_hour 54 = .ok (.iconst 1, 1) := by decide +kernel
theorem dX8_hour_55 : decode cX8_hour 55 = .ok (.iand, 1) := by decide +kernel
theorem dX8_hour_56 : decode cX8_hour 56 = .ok (.iconst 1, 1) := by decide +kernel
theorem dX8_hour_57 : decode cX8_hour 57 = .ok (.if_icmp .ne 78, 3) := by decide +kernel
theorem dX8_hour_135 : decode cX8_hour 135 = .ok (.iinc 7 1, 3) := by decide +kernel
theorem dX8_hour_138 : decode cX8_hour 138 = .ok (.goto (-97), 3) := by decide +kernel
theorem dX8_hour_60 : decode cX8_hour 60 = .ok (.aload_n 0, 1) := by decide +kernel
theorem dX8_hour_61 : decode cX8_hour 61 = .ok (.getfield 32, 3) := by decide +kernel
theorem dX8_hour_64 : decode cX8_hour 64 = .ok (.iload 7, 2) := by decide +kernel
theorem dX8_hour_66 : decode cX8_hour 66 = .ok (.aaload, 1) := by decide +kernel
theorem dX8_hour_67 : decode cX8_hour 67 = .ok (.astore 8, 2) := by decide +kernel
theorem dX8_hour_69 : decode cX8_hour 69 = .ok (.aload_n 0, 1) := by decide +kernel
theorem dX8_hour_70 : decode cX8_hour 70 = .ok (.iload 7, 2) := by decide +kernel
theorem dX8_hour_72 : decode cX8_hour 72 = .ok (.iload 5, 2) := by decide +kernel
theorem dX8_hour_74 : decode cX8_hour 74 = .ok (.iload 6, 2) := by decide +kernel
theorem dX8_hour_76 : decode cX8_hour 76 = .ok (.iload 4, 2) := by decide +kernel
theorem dX8_hour_78 : decode cX8_hour 78 = .ok (.invokevirtual 72, 3) := by decide +kernel
theorem dX8_hour_81 : decode cX8_hour 81 = .ok (.iload 4, 2) := by decide +kernel
theorem dX8_hour_83 : decode cX8_hour 83 = .ok (.ifCond .le 21, 3) := by decide +kernel
theorem dX8_hour_104 : decode cX8_hour 104 = .ok (.aload 8, 2) := by decide +kernel
theorem dX8_hour_106 : decode cX8_hour 106 = .ok (.iload 4, 2) := by decide +kernel
theorem dX8_hour_108 : decode cX8_hour 108 = .ok (.invokevirtual 84, 3) := by decide +kernel
theorem dX8_hour_111 : decode cX8_hour 111 = .ok (.aload 8, 2) := by decide +kernel
theorem dX8_hour_113 : decode cX8_hour 113 = .ok (.invokevirtual 87, 3) := by decide +kernel
theorem dX8_hour_116 : decode cX8_hour 116 = .ok (.aload 8, 2) := by decide +kernel
theorem dX8_hour_118 : decode cX8_hour 118 = .ok (.aload_n 1, 1) := by decide +kernel
theorem dX8_hour_119 : decode cX8_hour 119 = .ok (.invokevirtual 90, 3) := by decide +kernel
theorem dX8_hour_122 : decode cX8_hour 122 = .ok (.aload 8, 2) := by decide +kernel
theorem dX8_hour_124 : decode cX8_hour 124 = .ok (.aload_n 1, 1) := by decide +kernel
theorem dX8_hour_125 : decode cX8_hour 125 = .ok (.invokevirtual 94, 3) := by decide +kernel
theorem dX8_hour_128 : decode cX8_hour 128 = .ok (.aload 8, 2) := by decide +kernel
theorem dX8_hour_130 : decode cX8_hour 130 = .ok (.iload 4, 2) := by decide +kernel
theorem dX8_hour_132 : decode cX8_hour 132 = .ok (.invokevirtual 97, 3) := by decide +kernel
theorem dX8_hour_86 : decode cX8_hour 86 = .ok (.aload 8, 2) := by decide +kernel
theorem dX8_hour_88 : decode cX8_hour 88 = .ok (.iload 4, 2) := by decide +kernel
theorem dX8_hour_90 : decode cX8_hour 90 = .ok (.aload_n 1, 1) := by decide +kernel
theorem dX8_hour_91 : decode cX8_hour 91 = .ok (.getfield 76, 3) := by decide +kernel
theorem dX8_hour_94 : decode cX8_hour 94 = .ok (.iload 7, 2) := by decide +kernel
theorem dX8_hour_96 : decode cX8_hour 96 = .ok (.iaload, 1) := by decide +kernel
theorem dX8_hour_97 : decode cX8_hour 97 = .ok (.imul, 1) := by decide +kernel
theorem dX8_hour_98 : decode cX8_hour 98 = .ok (.invokevirtual 80, 3) := by decide +kernel
theorem dX8_hour_101 : decode cX8_hour 101 = .ok (.goto 10, 3) := by decide +kernel
theorem dX8_hour_0 : decode cX8_hour 0 = .ok (.aload_n 1, 1) := by decide +kernel
theorem dX8_hour_1 : decode cX8_hour 1 = .ok (.aload_n 0, 1) := by decide +kernel
theorem dX8_hour_2 : decode cX8_hour 2 = .ok (.getfield 9, 3) := by decide +kernel
theorem dX8_hour_5 : decode cX8_hour 5 = .ok (.invokevirtual 58, 3) := by decide +kernel
theorem dX8_hour_8 : decode cX8_hour 8 = .ok (.istore 4, 2) := by decide +kernel
theorem dX8_hour_10 : decode cX8_hour 10 = .ok (.iload_n 3, 1) := by decide +kernel
theorem dX8_hour_11 : decode cX8_hour 11 = .ok (.ifCond .eq 14, 3) := by decide +kernel
theorem dX8_hour_25 : decode cX8_hour 25 = .ok (.iconst 0, 1) := by decide +kernel
theorem dX8_hour_26 : decode cX8_hour 26 = .ok (.istore 5, 2) := by decide +kernel
theorem dX8_hour_28 : decode cX8_hour 28 = .ok (.aload_n 1, 1) := by decide +kernel
theorem dX8_hour_29 : decode cX8_hour 29 = .ok (.aload_n 0, 1) := by decide +kernel
theorem dX8_hour_30 : decode cX8_hour 30 = .ok (.getfield 9, 3) := by decide +kernel
theorem dX8_hour_33 : decode cX8_hour 33 = .ok (.invokevirtual 66, 3) := by decide +kernel
theorem dX8_hour_36 : decode cX8_hour 36 = .ok (.istore 6, 2) := by decide +kernel
theorem dX8_hour_38 : decode cX8_hour 38 = .ok (.iconst 0, 1) := by decide +kernel
theorem dX8_hour_39 : decode cX8_hour 39 = .ok (.istore 7, 2) := by decide +kernel
theorem dX8_hour_14 : decode cX8_hour 14 = .ok (.aload_n 1, 1) := by decide +kernel
theorem dX8_hour_15 : decode cX8_hour 15 = .ok (.aload_n 0, 1) := by decide +kernel
theorem dX8_hour_16 : decode cX8_hour 16 = .ok (.getfield 9, 3) := by decide +kernel
theorem dX8_hour_19 : decode cX8_hour 19 = .ok (.invokevirtual 63, 3) := by decide +kernel
theorem dX8_hour_22 : decode cX8_hour 22 = .ok (.goto 4, 3) := by decide +kernel
