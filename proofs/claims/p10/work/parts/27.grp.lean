section
-- 27.dec.lean.txt
-- decode rows of worldm
theorem dX8_copyFrom_0 : decode cX8_copyFrom 0 = .ok (.aload_n 0, 1) := by decide +kernel
theorem dX8_copyFrom_1 : decode cX8_copyFrom 1 = .ok (.aload_n 1, 1) := by decide +kernel
theorem dX8_copyFrom_2 : decode cX8_copyFrom 2 = .ok (.getfield 9, 3) := by decide +kernel
theorem dX8_copyFrom_5 : decode cX8_copyFrom 5 = .ok (.putfield 9, 3) := by decide +kernel
theorem dX8_copyFrom_8 : decode cX8_copyFrom 8 = .ok (.aload_n 0, 1) := by decide +kernel
theorem dX8_copyFrom_9 : decode cX8_copyFrom 9 = .ok (.aload_n 1, 1) := by decide +kernel
theorem dX8_copyFrom_10 : decode cX8_copyFrom 10 = .ok (.getfield 15, 3) := by decide +kernel
theorem dX8_copyFrom_13 : decode cX8_copyFrom 13 = .ok (.putfield 15, 3) := by decide +kernel
theorem dX8_copyFrom_16 : decode cX8_copyFrom 16 = .ok (.aload_n 0, 1) := by decide +kernel
theorem dX8_copyFrom_17 : decode cX8_copyFrom 17 = .ok (.aload_n 1, 1) := by decide +kernel
theorem dX8_copyFrom_18 : decode cX8_copyFrom 18 = .ok (.getfield 18, 3) := by decide +kernel
theorem dX8_copyFrom_21 : decode cX8_copyFrom 21 = .ok (.putfield 18, 3) := by decide +kernel
theorem dX8_copyFrom_24 : decode cX8_copyFrom 24 = .ok (.aload_n 0, 1) := by decide +kernel
theorem dX8_copyFrom_25 : decode cX8_copyFrom 25 = .ok (.aload_n 1, 1) := by decide +kernel
theorem dX8_copyFrom_26 : decode cX8_copyFrom 26 = .ok (.getfield 21, 3) := by decide +kernel
theorem dX8_copyFrom_29 : decode cX8_copyFrom 29 = .ok (.putfield 21, 3) := by decide +kernel
theorem dX8_copyFrom_32 : decode cX8_copyFrom 32 = .ok (.aload_n 0, 1) := by decide +kernel
theorem dX8_copyFrom_33 : decode cX8_copyFrom 33 = .ok (.aload_n 1, 1) := by decide +kernel
theorem dX8_copyFrom_34 : decode cX8_copyFrom 34 = .ok (.getfield 24, 3) := by decide +kernel
theorem dX8_copyFrom_37 : decode cX8_copyFrom 37 = .ok (.putfield 24, 3) := by decide +kernel
theorem dX8_copyFrom_40 : decode cX8_copyFrom 40 = .ok (.aload_n 0, 1) := by decide +kernel
theorem dX8_copyFrom_41 : decode cX8_copyFrom 41 = .ok (.aload_n 1, 1) := by decide +kernel
theorem dX8_copyFrom_42 : decode cX8_copyFrom 42 = .ok (.getfield 27, 3) := by decide +kernel
theorem dX8_copyFrom_45 : decode cX8_copyFrom 45 = .ok (.putfield 27, 3) := by decide +kernel
theorem dX8_copyFrom_48 : decode cX8_copyFrom 48 = .ok (.iconst 0, 1) := by decide +kernel
theorem dX8_copyFrom_49 : decode cX8_copyFrom 49 = .ok (.istore_n 2, 1) := by decide +kernel
theorem dX8_copyFrom_50 : decode cX8_copyFrom 50 = .ok (.iload_n 2, 1) := by decide +kernel
theorem dX8_copyFrom_51 : decode cX8_copyFrom 51 = .ok (.aload_n 0, 1) := by decide +kernel
theorem dX8_copyFrom_52 : decode cX8_copyFrom 52 = .ok (.getfield 32, 3) := by decide +kernel
theorem dX8_copyFrom_55 : decode cX8_copyFrom 55 = .ok (.arraylength, 1) := by decide +kernel
theorem dX8_copyFrom_56 : decode cX8_copyFrom 56 = .ok (.if_icmp .ge 24, 3) := by decide +kernel
theorem dX8_copyFrom_59 : decode cX8_copyFrom 59 = .ok (.aload_n 0, 1) := by decide +kernel
theorem dX8_copyFrom_60 : decode cX8_copyFrom 60 = .ok (.getfield 32, 3) := by decide +kernel
theorem dX8_copyFrom_63 : decode cX8_copyFrom 63 = .ok (.iload_n 2, 1) := by decide +kernel
theorem dX8_copyFrom_64 : decode cX8_copyFrom 64 = .ok (.aaload, 1) := by decide +kernel
theorem dX8_copyFrom_65 : decode cX8_copyFrom 65 = .ok (.aload_n 1, 1) := by decide +kernel
theorem dX8_copyFrom_66 : decode cX8_copyFrom 66 = .ok (.getfield 32, 3) := by decide +kernel
theorem dX8_copyFrom_69 : decode cX8_copyFrom 69 = .ok (.iload_n 2, 1) := by decide +kernel
theorem dX8_copyFrom_70 : decode cX8_copyFrom 70 = .ok (.aaload, 1) := by decide +kernel
theorem dX8_copyFrom_71 : decode cX8_copyFrom 71 = .ok (.invokevirtual 40, 3) := by decide +kernel
theorem dX8_copyFrom_74 : decode cX8_copyFrom 74 = .ok (.iinc 2 1, 3) := by decide +kernel
theorem dX8_copyFrom_77 : decode cX8_copyFrom 77 = .ok (.goto (-27), 3) := by decide +kernel
theorem dX8_copyFrom_80 : decode cX8_copyFrom 80 = .ok (.return_, 1) := by decide +kernel
theorem dX8_clear_0 : decode cX8_clear 0 = .ok (.aload_n 0, 1) := by decide +kernel
theorem dX8_clear_1 : decode cX8_clear 1 = .ok (.iconst 0, 1) := by decide +kernel
theorem dX8_clear_2 : decode cX8_clear 2 = .ok (.putfield 9, 3) := by decide +kernel
theorem dX8_clear_5 : decode cX8_clear 5 = .ok (.aload_n 0, 1) := by decide +kernel
theorem dX8_clear_6 : decode cX8_clear 6 = .ok (.iconst 0, 1) := by decide +kernel
theorem dX8_clear_7 : decode cX8_clear 7 = .ok (.putfield 15, 3) := by decide +kernel
theorem dX8_clear_10 : decode cX8_clear 10 = .ok (.aload_n 0, 1) := by decide +kernel
theorem dX8_clear_11 : decode cX8_clear 11 = .ok (.iconst 0, 1) := by decide +kernel
theorem dX8_clear_12 : decode cX8_clear 12 = .ok (.putfield 18, 3) := by decide +kernel
theorem dX8_clear_15 : decode cX8_clear 15 = .ok (.aload_n 0, 1) := by decide +kernel
theorem dX8_clear_16 : decode cX8_clear 16 = .ok (.iconst 0, 1) := by decide +kernel
theorem dX8_clear_17 : decode cX8_clear 17 = .ok (.putfield 21, 3) := by decide +kernel
theorem dX8_clear_20 : decode cX8_clear 20 = .ok (.aload_n 0, 1) := by decide +kernel
theorem dX8_clear_21 : decode cX8_clear 21 = .ok (.iconst 0, 1) := by decide +kernel
theorem dX8_clear_22 : decode cX8_clear 22 = .ok (.putfield 24, 3) := by decide +kernel
theorem dX8_clear_25 : decode cX8_clear 25 = .ok (.aload_n 0, 1) := by decide +kernel
theorem dX8_clear_26 : decode cX8_clear 26 = .ok (.iconst 0, 1) := by decide +kernel
theorem dX8_clear_27 : decode cX8_clear 27 = .ok (.putfield 27, 3) := by decide +kernel
theorem dX8_clear_30 : decode cX8_clear 30 = .ok (.iconst 0, 1) := by decide +kernel
theorem dX8_clear_31 : decode cX8_clear 31 = .ok (.istore_n 1, 1) := by decide +kernel
theorem dX8_clear_32 : decode cX8_clear 32 = .ok (.iload_n 1, 1) := by decide +kernel
theorem dX8_clear_33 : decode cX8_clear 33 = .ok (.aload_n 0, 1) := by decide +kernel
theorem dX8_clear_34 : decode cX8_clear 34 = .ok (.getfield 32, 3) := by decide +kernel
theorem dX8_clear_37 : decode cX8_clear 37 = .ok (.arraylength, 1) := by decide +kernel
theorem dX8_clear_38 : decode cX8_clear 38 = .ok (.if_icmp .ge 18, 3) := by decide +kernel
theorem dX8_clear_41 : decode cX8_clear 41 = .ok (.aload_n 0, 1) := by decide +kernel
theorem dX8_clear_42 : decode cX8_clear 42 = .ok (.getfield 32, 3) := by decide +kernel
theorem dX8_clear_45 : decode cX8_clear 45 = .ok (.iload_n 1, 1) := by decide +kernel
theorem dX8_clear_46 : decode cX8_clear 46 = .ok (.aaload, 1) := by decide +kernel
theorem dX8_clear_47 : decode cX8_clear 47 = .ok (.invokevirtual 37, 3) := by decide +kernel
theorem dX8_clear_50 : decode cX8_clear 50 = .ok (.iinc 1 1, 3) := by decide +kernel
theorem dX8_clear_53 : decode cX8_clear 53 = .ok (.goto (-21), 3) := by decide +kernel
theorem dX8_clear_56 : decode cX8_clear 56 = .ok (.return_, 1) := by decide +kernel
theorem dX8_fallOn_0 : decode cX8_fallOn 0 = .ok (.aload_n 0, 1) := by decide +kernel
theorem dX8_fallOn_1 : decode cX8_fallOn 1 = .ok (.getfield 32, 3) := by decide +kernel
theorem dX8_fallOn_4 : decode cX8_fallOn 4 = .ok (.iload_n 1, 1) := by decide +kernel
theorem dX8_fallOn_5 : decode cX8_fallOn 5 = .ok (.aaload, 1) := by decide +kernel
theorem dX8_fallOn_6 : decode cX8_fallOn 6 = .ok (.astore 5, 2) := by decide +kernel
theorem dX8_fallOn_8 : decode cX8_fallOn 8 = .ok (.iload_n 2, 1) := by decide +kernel
theorem dX8_fallOn_9 : decode cX8_fallOn 9 = .ok (.iconst 2, 1) := by decide +kernel
theorem dX8_fallOn_10 : decode cX8_fallOn 10 = .ok (.if_icmp .ne 15, 3) := by decide +kernel
theorem dX8_fallOn_25 : decode cX8_fallOn 25 = .ok (.iload_n 2, 1) := by decide +kernel
theorem dX8_fallOn_26 : decode cX8_fallOn 26 = .ok (.iconst 3, 1) := by decide +kernel
theorem dX8_fallOn_27 : decode cX8_fallOn 27 = .ok (.if_icmp .ne 12, 3) := by decide +kernel
theorem dX8_fallOn_39 : decode cX8_fallOn 39 = .ok (.iconst 0, 1) := by decide +kernel
theorem dX8_fallOn_40 : decode cX8_fallOn 40 = .ok (.istore 6, 2) := by decide +kernel
theorem dX8_fallOn_42 : decode cX8_fallOn 42 = .ok (.iload 6, 2) := by decide +kernel
theorem dX8_fallOn_44 : decode cX8_fallOn 44 = .ok (.ifCond .ne 9, 3) := by decide +kernel
theorem dX8_fallOn_47 : decode cX8_fallOn 47 = .ok (.iload_n 2, 1) := by decide +kernel
theorem dX8_fallOn_48 : decode cX8_fallOn 48 = .ok (.iconst 1, 1) := by decide +kernel
theorem dX8_fallOn_49 : decode cX8_fallOn 49 = .ok (.if_icmp .eq 4, 3) := by decide +kernel
theorem dX8_fallOn_53 : decode cX8_fallOn 53 = .ok (.aload 5, 2) := by decide +kernel
theorem dX8_fallOn_55 : decode cX8_fallOn 55 = .ok (.getfield 44, 3) := by decide +kernel
theorem dX8_fallOn_58 : decode cX8_fallOn 58 = .ok (.bipush 12, 2) := by decide +kernel
theorem dX8_fallOn_60 : decode cX8_fallOn 60 = .ok (.if_icmp .ne 8, 3) := by decide +kernel
theorem dX8_fallOn_68 : decode cX8_fallOn 68 = .ok (.iload 6, 2) := by decide +kernel
theorem dX8_fallOn_70 : decode cX8_fallOn 70 = .ok (.ifCond .eq 7, 3) := by decide +kernel
theorem dX8_fallOn_77 : decode cX8_fallOn 77 = .ok (.iload_n 3, 1) := by decide +kernel
theorem dX8_fallOn_78 : decode cX8_fallOn 78 = .ok (.istore 7, 2) := by decide +kernel
theorem dX8_fallOn_80 : decode cX8_fallOn 80 = .ok (.aload 5, 2) := by decide +kernel
theorem dX8_fallOn_82 : decode cX8_fallOn 82 = .ok (.iload 6, 2) := by decide +kernel
theorem dX8_fallOn_84 : decode cX8_fallOn 84 = .ok (.ifCond .eq 7, 3) := by decide +kernel
theorem dX8_fallOn_91 : decode cX8_fallOn 91 = .ok (.iconst 0, 1) := by decide +kernel
theorem dX8_fallOn_92 : decode cX8_fallOn 92 = .ok (.iload 7, 2) := by decide +kernel
theorem dX8_fallOn_94 : decode cX8_fallOn 94 = .ok (.iconst 0, 1) := by decide +kernel
theorem dX8_fallOn_95 : decode cX8_fallOn 95 = .ok (.bipush 10, 2) := by decide +kernel
theorem dX8_fallOn_97 : decode cX8_fallOn 97 = .ok (.iload 7, 2) := by decide +kernel
theorem dX8_fallOn_99 : decode cX8_fallOn 99 = .ok (.imul, 1) := by decide +kernel
theorem dX8_fallOn_100 : decode cX8_fallOn 100 = .ok (.iload 4, 2) := by decide +kernel
theorem dX8_fallOn_102 : decode cX8_fallOn 102 = .ok (.iconst 0, 1) := by decide +kernel
theorem dX8_fallOn_103 : decode cX8_fallOn 103 = .ok (.invokestatic 107, 3) := by decide +kernel
theorem dX8_fallOn_106 : decode cX8_fallOn 106 = .ok (.aload_n 0, 1) := by decide +kernel
theorem dX8_fallOn_107 : decode cX8_fallOn 107 = .ok (.getfield 15, 3) := by decide +kernel
theorem dX8_fallOn_110 : decode cX8_fallOn 110 = .ok (.invokevirtual 113, 3) := by decide +kernel
theorem dX8_fallOn_113 : decode cX8_fallOn 113 = .ok (.aload_n 0, 1) := by decide +kernel
theorem dX8_fallOn_114 : decode cX8_fallOn 114 = .ok (.dup, 1) := by decide +kernel
theorem dX8_fallOn_115 : decode cX8_fallOn 115 = .ok (.getfield 15, 3) := by decide +kernel
theorem dX8_fallOn_118 : decode cX8_fallOn 118 = .ok (.iconst 1, 1) := by decide +kernel
theorem dX8_fallOn_119 : decode cX8_fallOn 119 = .ok (.iadd, 1) := by decide +kernel
theorem dX8_fallOn_120 : decode cX8_fallOn 120 = .ok (.putfield 15, 3) := by decide +kernel
theorem dX8_fallOn_123 : decode cX8_fallOn 123 = .ok (.return_, 1) := by decide +kernel
theorem dX8_fallOn_63 : decode cX8_fallOn 63 = .ok (.aload 5, 2) := by decide +kernel
theorem dX8_fallOn_65 : decode cX8_fallOn 65 = .ok (.invokevirtual 104, 3) := by decide +kernel
theorem dX8_fallOn_52 : decode cX8_fallOn 52 = .ok (.return_, 1) := by decide +kernel
theorem dX8_fallOn_30 : decode cX8_fallOn 30 = .ok (.iload 4, 2) := by decide +kernel
theorem dX8_fallOn_32 : decode cX8_fallOn 32 = .ok (.ifCond .ge 7, 3) := by decide +kernel
theorem dX8_fallOn_35 : decode cX8_fallOn 35 = .ok (.iconst 1, 1) := by decide +kernel
theorem dX8_fallOn_36 : decode cX8_fallOn 36 = .ok (.goto 4, 3) := by decide +kernel
theorem dX8_fallOn_73 : decode cX8_fallOn 73 = .ok (.iconst 1, 1) := by decide +kernel
theorem dX8_fallOn_74 : decode cX8_fallOn 74 = .ok (.goto 4, 3) := by decide +kernel
theorem dX8_fallOn_87 : decode cX8_fallOn 87 = .ok (.iconst 4, 1) := by decide +kernel
theorem dX8_fallOn_88 : decode cX8_fallOn 88 = .ok (.goto 4, 3) := by decide +kernel
theorem dX8_fallOn_13 : decode cX8_fallOn 13 = .ok (.aload 5, 2) := by decide +kernel
theorem dX8_fallOn_15 : decode cX8_fallOn 15 = .ok (.aload 5, 2) := by decide +kernel
theorem dX8_fallOn_17 : decode cX8_fallOn 17 = .ok (.getfield 44, 3) := by decide +kernel
theorem dX8_fallOn_20 : decode cX8_fallOn 20 = .ok (.iload_n 3, 1) := by decide +kernel
theorem dX8_fallOn_21 : decode cX8_fallOn 21 = .ok (.invokevirtual 100, 3) := by decide +kernel
theorem dX8_fallOn_24 : decode cX8_fallOn 24 = .ok (.return_, 1) := by decide +kernel
theorem dX8_digOn_0 : decode cX8_digOn 0 = .ok (.aload_n 0, 1) := by decide +kernel
theorem dX8_digOn_1 : decode cX8_digOn 1 = .ok (.getfield 32, 3) := by decide +kernel
theorem dX8_digOn_4 : decode cX8_digOn 4 = .ok (.iload_n 1, 1) := by decide +kernel
theorem dX8_digOn_5 : decode cX8_digOn 5 = .ok (.aaload, 1) := by decide +kernel
theorem dX8_digOn_6 : decode cX8_digOn 6 = .ok (.astore_n 2, 1) := by decide +kernel
theorem dX8_digOn_7 : decode cX8_digOn 7 = .ok (.aload_n 2, 1) := by decide +kernel
theorem dX8_digOn_8 : decode cX8_digOn 8 = .ok (.getfield 44, 3) := by decide +kernel
theorem dX8_digOn_11 : decode cX8_digOn 11 = .ok (.ifCond .ne 5, 3) := by decide +kernel
theorem dX8_digOn_16 : decode cX8_digOn 16 = .ok (.aload_n 2, 1) := by decide +kernel
theorem dX8_digOn_17 : decode cX8_digOn 17 = .ok (.dup, 1) := by decide +kernel
theorem dX8_digOn_18 : decode cX8_digOn 18 = .ok (.getfield 44, 3) := by decide +kernel
theorem dX8_digOn_21 : decode cX8_digOn 21 = .ok (.iconst 1, 1) := by decide +kernel
theorem dX8_digOn_22 : decode cX8_digOn 22 = .ok (.isub, 1) := by decide +kernel
theorem dX8_digOn_23 : decode cX8_digOn 23 = .ok (.putfield 44, 3) := by decide +kernel
theorem dX8_digOn_26 : decode cX8_digOn 26 = .ok (.aload_n 0, 1) := by decide +kernel
theorem dX8_digOn_27 : decode cX8_digOn 27 = .ok (.dup, 1) := by decide +kernel
theorem dX8_digOn_28 : decode cX8_digOn 28 = .ok (.getfield 18, 3) := by decide +kernel
theorem dX8_digOn_31 : decode cX8_digOn 31 = .ok (.aload_n 2, 1) := by decide +kernel
theorem dX8_digOn_32 : decode cX8_digOn 32 = .ok (.aload_n 2, 1) := by decide +kernel
theorem dX8_digOn_33 : decode cX8_digOn 33 = .ok (.getfield 44, 3) := by decide +kernel
theorem dX8_digOn_36 : decode cX8_digOn 36 = .ok (.invokevirtual 117, 3) := by decide +kernel
theorem dX8_digOn_39 : decode cX8_digOn 39 = .ok (.iadd, 1) := by decide +kernel
theorem dX8_digOn_40 : decode cX8_digOn 40 = .ok (.putfield 18, 3) := by decide +kernel
theorem dX8_digOn_43 : decode cX8_digOn 43 = .ok (.aload_n 2, 1) := by decide +kernel
theorem dX8_digOn_44 : decode cX8_digOn 44 = .ok (.getfield 120, 3) := by decide +kernel
theorem dX8_digOn_47 : decode cX8_digOn 47 = .ok (.bipush 72, 2) := by decide +kernel
theorem dX8_digOn_49 : decode cX8_digOn 49 = .ok (.aload_n 2, 1) := by decide +kernel
theorem dX8_digOn_50 : decode cX8_digOn 50 = .ok (.getfield 44, 3) := by decide +kernel
theorem dX8_digOn_53 : decode cX8_digOn 53 = .ok (.iadd, 1) := by decide +kernel
theorem dX8_digOn_54 : decode cX8_digOn 54 = .ok (.iaload, 1) := by decide +kernel
theorem dX8_digOn_55 : decode cX8_digOn 55 = .ok (.ireturn, 1) := by decide +kernel
theorem dX8_digOn_14 : decode cX8_digOn 14 = .ok (.iconst (-1), 1) := by decide +kernel
theorem dX8_digOn_15 : decode cX8_digOn 15 = .ok (.ireturn, 1) := by decide +kernel
theorem dX8_slideOn_0 : decode cX8_slideOn 0 = .ok (.aload_n 0, 1) := by decide +kernel
theorem dX8_slideOn_1 : decode cX8_slideOn 1 = .ok (.getfield 32, 3) := by decide +kernel
theorem dX8_slideOn_4 : decode cX8_slideOn 4 = .ok (.iload_n 1, 1) := by decide +kernel
theorem dX8_slideOn_5 : decode cX8_slideOn 5 = .ok (.aaload, 1) := by decide +kernel
theorem dX8_slideOn_6 : decode cX8_slideOn 6 = .ok (.astore_n 3, 1) := by decide +kernel
theorem dX8_slideOn_7 : decode cX8_slideOn 7 = .ok (.aload_n 3, 1) := by decide +kernel
theorem dX8_slideOn_8 : decode cX8_slideOn 8 = .ok (.aload_n 2, 1) := by decide +kernel
theorem dX8_slideOn_9 : decode cX8_slideOn 9 = .ok (.getfield 123, 3) := by decide +kernel
theorem dX8_slideOn_12 : decode cX8_slideOn 12 = .ok (.iload_n 1, 1) := by decide +kernel
theorem dX8_slideOn_13 : decode cX8_slideOn 13 = .ok (.iaload, 1) := by decide +kernel
theorem dX8_slideOn_14 : decode cX8_slideOn 14 = .ok (.aload_n 2, 1) := by decide +kernel
theorem dX8_slideOn_15 : decode cX8_slideOn 15 = .ok (.invokevirtual 126, 3) := by decide +kernel
theorem dX8_slideOn_18 : decode cX8_slideOn 18 = .ok (.istore 4, 2) := by decide +kernel
theorem dX8_slideOn_20 : decode cX8_slideOn 20 = .ok (.aload_n 3, 1) := by decide +kernel
theorem dX8_slideOn_21 : decode cX8_slideOn 21 = .ok (.getfield 44, 3) := by decide +kernel
theorem dX8_slideOn_24 : decode cX8_slideOn 24 = .ok (.iconst 1, 1) := by decide +kernel
theorem dX8_slideOn_25 : decode cX8_slideOn 25 = .ok (.isub, 1) := by decide +kernel
theorem dX8_slideOn_26 : decode cX8_slideOn 26 = .ok (.iload 4, 2) := by decide +kernel
theorem dX8_slideOn_28 : decode cX8_slideOn 28 = .ok (.isub, 1) := by decide +kernel
theorem dX8_slideOn_29 : decode cX8_slideOn 29 = .ok (.istore 5, 2) := by decide +kernel
theorem dX8_slideOn_31 : decode cX8_slideOn 31 = .ok (.aload_n 0, 1) := by decide +kernel
theorem dX8_slideOn_32 : decode cX8_slideOn 32 = .ok (.dup, 1) := by decide +kernel
theorem dX8_slideOn_33 : decode cX8_slideOn 33 = .ok (.getfield 21, 3) := by decide +kernel
theorem dX8_slideOn_36 : decode cX8_slideOn 36 = .ok (.aload_n 3, 1) := by decide +kernel
theorem dX8_slideOn_37 : decode cX8_slideOn 37 = .ok (.iload 4, 2) := by decide +kernel
theorem dX8_slideOn_39 : decode cX8_slideOn 39 = .ok (.invokevirtual 130, 3) := by decide +kernel
theorem dX8_slideOn_42 : decode cX8_slideOn 42 = .ok (.iadd, 1) := by decide +kernel
theorem dX8_slideOn_43 : decode cX8_slideOn 43 = .ok (.putfield 21, 3) := by decide +kernel
theorem dX8_slideOn_46 : decode cX8_slideOn 46 = .ok (.aload_n 0, 1) := by decide +kernel
theorem dX8_slideOn_47 : decode cX8_slideOn 47 = .ok (.dup, 1) := by decide +kernel
theorem dX8_slideOn_48 : decode cX8_slideOn 48 = .ok (.getfield 24, 3) := by decide +kernel
theorem dX8_slideOn_51 : decode cX8_slideOn 51 = .ok (.iconst 1, 1) := by decide +kernel
theorem dX8_slideOn_52 : decode cX8_slideOn 52 = .ok (.iadd, 1) := by decide +kernel
theorem dX8_slideOn_53 : decode cX8_slideOn 53 = .ok (.putfield 24, 3) := by decide +kernel
theorem dX8_slideOn_56 : decode cX8_slideOn 56 = .ok (.aload_n 3, 1) := by decide +kernel
theorem dX8_slideOn_57 : decode cX8_slideOn 57 = .ok (.iload 4, 2) := by decide +kernel
theorem dX8_slideOn_59 : decode cX8_slideOn 59 = .ok (.iconst 1, 1) := by decide +kernel
theorem dX8_slideOn_60 : decode cX8_slideOn 60 = .ok (.iadd, 1) := by decide +kernel
theorem dX8_slideOn_61 : decode cX8_slideOn 61 = .ok (.putfield 44, 3) := by decide +kernel
theorem dX8_slideOn_64 : decode cX8_slideOn 64 = .ok (.iload 5, 2) := by decide +kernel
theorem dX8_slideOn_66 : decode cX8_slideOn 66 = .ok (.ireturn, 1) := by decide +kernel
theorem dX8_hour_41 : decode cX8_hour 41 = .ok (.iload 7, 2) := by decide +kernel
theorem dX8_hour_43 : decode cX8_hour 43 = .ok (.aload_n 1, 1) := by decide +kernel
theorem dX8_hour_44 : decode cX8_hour 44 = .ok (.getfield 69, 3) := by decide +kernel
theorem dX8_hour_47 : decode cX8_hour 47 = .ok (.if_icmp .ge 94, 3) := by decide +kernel
theorem dX8_hour_141 : decode cX8_hour 141 = .ok (.aload_n 0, 1) := by decide +kernel
theorem dX8_hour_142 : decode cX8_hour 142 = .ok (.dup, 1) := by decide +kernel
theorem dX8_hour_143 : decode cX8_hour 143 = .ok (.getfield 9, 3) := by decide +kernel
theorem dX8_hour_146 : decode cX8_hour 146 = .ok (.iconst 1, 1) := by decide +kernel
theorem dX8_hour_147 : decode cX8_hour 147 = .ok (.iadd, 1) := by decide +kernel
theorem dX8_hour_148 : decode cX8_hour 148 = .ok (.putfield 9, 3) := by decide +kernel
theorem dX8_hour_151 : decode cX8_hour 151 = .ok (.return_, 1) := by decide +kernel
theorem dX8_hour_50 : decode cX8_hour 50 = .ok (.iload_n 2, 1) := by decide +kernel
theorem dX8_hour_51 : decode cX8_hour 51 = .ok (.iload 7, 2) := by decide +kernel
theorem dX8_hour_53 : decode cX8_hour 53 = .ok (.ishr, 1) := by decide +kernel
theorem dX8_hour_54 : decode cX8_hour 54 = .ok (.iconst 1, 1) := by decide +kernel
theorem dX8_hour_55 : decode cX8_hour 55 = .ok (.iand, 1) := by decide +kernel
theorem dX8_hour_56 : decode cX8_hour 56 = .ok (.iconst 1, 1) := by decide +kernel
theorem dX8_hour_57 : decode cX8_hour 57 = .ok (.if_icmp .ne 78, 3) := by decide +kernel
theorem dX8_hour_135 : decode cX8_hour 135 = .ok (.iinc 7 1, 3) := by decide +kernel
theorem dX8_hour_138 : decode cX8_hour 138 = .ok (.goto (-97), 3) := by decide +kernel
theorem dX8_hour_60 : decode cX8_hour 60 = .ok (.aload_n 0, 1) := by decide +kernel
theorem dX8_hour_61 : decode cX8_hour 61 = .ok (.getfield 32, 3) := by decide +kernel
theorem dX8_hour_64 : decode cX8_hour 64 = .ok (.iload 7, 2) := by decide +kernel
theorem dX8_hour_66 : decode cX8_hour 66 = .ok (.aaload, 1) := by decide +kernel
theorem dX8_hour_67 : decode cX8_hour 67 = .ok (.astore 8, 2) := by decide +kernel
theorem dX8_hour_69 : decode cX8_hour 69 = .ok (.aload_n 0, 1) := by decide +kernel
theorem dX8_hour_70 : decode cX8_hour 70 = .ok (.iload 7, 2) := by decide +kernel
theorem dX8_hour_72 : decode cX8_hour 72 = .ok (.iload 5, 2) := by decide +kernel
theorem dX8_hour_74 : decode cX8_hour 74 = .ok (.iload 6, 2) := by decide +kernel
theorem dX8_hour_76 : decode cX8_hour 76 = .ok (.iload 4, 2) := by decide +kernel
theorem dX8_hour_78 : decode cX8_hour 78 = .ok (.invokevirtual 72, 3) := by decide +kernel
theorem dX8_hour_81 : decode cX8_hour 81 = .ok (.iload 4, 2) := by decide +kernel
theorem dX8_hour_83 : decode cX8_hour 83 = .ok (.ifCond .le 21, 3) := by decide +kernel
theorem dX8_hour_104 : decode cX8_hour 104 = .ok (.aload 8, 2) := by decide +kernel
theorem dX8_hour_106 : decode cX8_hour 106 = .ok (.iload 4, 2) := by decide +kernel
theorem dX8_hour_108 : decode cX8_hour 108 = .ok (.invokevirtual 84, 3) := by decide +kernel
theorem dX8_hour_111 : decode cX8_hour 111 = .ok (.aload 8, 2) := by decide +kernel
theorem dX8_hour_113 : decode cX8_hour 113 = .ok (.invokevirtual 87, 3) := by decide +kernel
theorem dX8_hour_116 : decode cX8_hour 116 = .ok (.aload 8, 2) := by decide +kernel
theorem dX8_hour_118 : decode cX8_hour 118 = .ok (.aload_n 1, 1) := by decide +kernel
theorem dX8_hour_119 : decode cX8_hour 119 = .ok (.invokevirtual 90, 3) := by decide +kernel
theorem dX8_hour_122 : decode cX8_hour 122 = .ok (.aload 8, 2) := by decide +kernel
theorem dX8_hour_124 : decode cX8_hour 124 = .ok (.aload_n 1, 1) := by decide +kernel
theorem dX8_hour_125 : decode cX8_hour 125 = .ok (.invokevirtual 94, 3) := by decide +kernel
theorem dX8_hour_128 : decode cX8_hour 128 = .ok (.aload 8, 2) := by decide +kernel
theorem dX8_hour_130 : decode cX8_hour 130 = .ok (.iload 4, 2) := by decide +kernel
theorem dX8_hour_132 : decode cX8_hour 132 = .ok (.invokevirtual 97, 3) := by decide +kernel
theorem dX8_hour_86 : decode cX8_hour 86 = .ok (.aload 8, 2) := by decide +kernel
theorem dX8_hour_88 : decode cX8_hour 88 = .ok (.iload 4, 2) := by decide +kernel
theorem dX8_hour_90 : decode cX8_hour 90 = .ok (.aload_n 1, 1) := by decide +kernel
theorem dX8_hour_91 : decode cX8_hour 91 = .ok (.getfield 76, 3) := by decide +kernel
theorem dX8_hour_94 : decode cX8_hour 94 = .ok (.iload 7, 2) := by decide +kernel
theorem dX8_hour_96 : decode cX8_hour 96 = .ok (.iaload, 1) := by decide +kernel
theorem dX8_hour_97 : decode cX8_hour 97 = .ok (.imul, 1) := by decide +kernel
theorem dX8_hour_98 : decode cX8_hour 98 = .ok (.invokevirtual 80, 3) := by decide +kernel
theorem dX8_hour_101 : decode cX8_hour 101 = .ok (.goto 10, 3) := by decide +kernel
theorem dX8_hour_0 : decode cX8_hour 0 = .ok (.aload_n 1, 1) := by decide +kernel
theorem dX8_hour_1 : decode cX8_hour 1 = .ok (.aload_n 0, 1) := by decide +kernel
theorem dX8_hour_2 : decode cX8_hour 2 = .ok (.getfield 9, 3) := by decide +kernel
theorem dX8_hour_5 : decode cX8_hour 5 = .ok (.invokevirtual 58, 3) := by decide +kernel
theorem dX8_hour_8 : decode cX8_hour 8 = .ok (.istore 4, 2) := by decide +kernel
theorem dX8_hour_10 : decode cX8_hour 10 = .ok (.iload_n 3, 1) := by decide +kernel
theorem dX8_hour_11 : decode cX8_hour 11 = .ok (.ifCond .eq 14, 3) := by decide +kernel
theorem dX8_hour_25 : decode cX8_hour 25 = .ok (.iconst 0, 1) := by decide +kernel
theorem dX8_hour_26 : decode cX8_hour 26 = .ok (.istore 5, 2) := by decide +kernel
theorem dX8_hour_28 : decode cX8_hour 28 = .ok (.aload_n 1, 1) := by decide +kernel
theorem dX8_hour_29 : decode cX8_hour 29 = .ok (.aload_n 0, 1) := by decide +kernel
theorem dX8_hour_30 : decode cX8_hour 30 = .ok (.getfield 9, 3) := by decide +kernel
theorem dX8_hour_33 : decode cX8_hour 33 = .ok (.invokevirtual 66, 3) := by decide +kernel
theorem dX8_hour_36 : decode cX8_hour 36 = .ok (.istore 6, 2) := by decide +kernel
theorem dX8_hour_38 : decode cX8_hour 38 = .ok (.iconst 0, 1) := by decide +kernel
theorem dX8_hour_39 : decode cX8_hour 39 = .ok (.istore 7, 2) := by decide +kernel
theorem dX8_hour_14 : decode cX8_hour 14 = .ok (.aload_n 1, 1) := by decide +kernel
theorem dX8_hour_15 : decode cX8_hour 15 = .ok (.aload_n 0, 1) := by decide +kernel
theorem dX8_hour_16 : decode cX8_hour 16 = .ok (.getfield 9, 3) := by decide +kernel
theorem dX8_hour_19 : decode cX8_hour 19 = .ok (.invokevirtual 63, 3) := by decide +kernel
theorem dX8_hour_22 : decode cX8_hour 22 = .ok (.goto 4, 3) := by decide +kernel
end
section
-- 28.worldm.lean.txt
set_option maxRecDepth 100000 in
set_option maxHeartbeats 4000000 in
theorem c_X8_copyFrom (l : Launch) (D : va_G) (A : Nat → Prop) (cs : Nat → ClassId) (tt : Nat) (N : Nat) (ad : Nat → Nat) (g : Nat → va_E) (a : Nat) (hN : a + 10 ≤ N) (hw : okWorld cs ad g a) (b : Nat) (hNb : b + 10 ≤ N) (hwb : okWorld cs ad g b) (hab : a + 10 ≤ b ∨ b + 10 ≤ a) : zM l yX8_copyFrom cX8_copyFrom 3 none ({ frames := 2, cells := 0, slots := 0, locals := 120 } : Room) D A cs tt N ad g [.ref (ad a), .ref (ad b)] (rV0 N ad fun g' => (∃ (t z o : Nat → Int) (r : Nat → Nat → Int), (∀ k, k < 4 → 0 ≤ z k ∧ z k ≤ 12) ∧ (0 ≤ t 5 ∧ t 5 ≤ 6) ∧ isWorld cs ad g b t z o r ∧ isWorld cs ad g' a t z o r) ∧ ∀ j, j < a ∨ a + 10 ≤ j → g' j = g j) := by
  obtain ⟨ut, uz, uo, ur, uz4, ut5, u1, ⟨uu, u2, u3⟩, u4⟩ := id hw
  have hay1 : zAt ad (a) (ad a) := rfl
  have hay2 : zAt ad (a + 1) (ad (a + 1)) := rfl
  obtain ⟨vt, vz, vo, vr, vz4, vt5, v1, ⟨vu, v2, v3⟩, v4⟩ := id hwb
  have hay3 : zAt ad (b) (ad b) := rfl
  have hay4 : zAt ad (b + 1) (ad (b + 1)) := rfl
  refine z_of (by decide) (Nat.le_of_ble_eq_true rfl) ?_
  intro p e s m below meth c C hr hlk hnm
  refine z_lv (lv' := [(0, .ref (ad a)), (1, .ref (ad b))]) [0, 1] rfl ?_
  refine z_aload_n C 0 dX8_copyFrom_0 rfl ?_
  refine z_aload_n C 1 dX8_copyFrom_1 rfl ?_
  refine z_get (v := .int (zI (vt 0))) C (by omega) hay3 v1 rfl inA_X8 0 (by decide) q_173 rfl rfl dX8_copyFrom_2 ?_
  refine z_put (fs' := [.int (zI (vt 0)), .int (zI (ut 1)), .int (zI (ut 2)), .int (zI (ut 3)), .int (zI (ut 4)), .int (zI (ut 5)), .ref (ad (a + 1))]) C (lt_A0 hN rfl) hay1 u1 tyX8 tyX8_ok nmX8 rfl inA_X8 0 (by decide) q_173 rfl rfl rfl rfl (Nat.le_of_ble_eq_true rfl) rfl dX8_copyFrom_5 (fun gy5 egy6 => ?_)
  have hgy7 := up_s egy6
  refine z_aload_n C 0 dX8_copyFrom_8 rfl ?_
  refine z_aload_n C 1 dX8_copyFrom_9 rfl ?_
  have hgy8 := up_n egy6 v1 (by omega)
  refine z_get (v := .int (zI (vt 1))) C (by omega) hay3 hgy8 rfl inA_X8 1 (by decide) q_176 rfl rfl dX8_copyFrom_10 ?_
  refine z_put (fs' := [.int (zI (vt 0)), .int (zI (vt 1)), .int (zI (ut 2)), .int (zI (ut 3)), .int (zI (ut 4)), .int (zI (ut 5)), .ref (ad (a + 1))]) C (lt_A0 hN rfl) hay1 hgy7 tyX8 tyX8_ok nmX8 rfl inA_X8 1 (by decide) q_176 rfl rfl rfl rfl (Nat.le_of_ble_eq_true rfl) rfl dX8_copyFrom_13 (fun gy9 egy10 => ?_)
  have hgy11 := up_s egy10
  refine z_aload_n C 0 dX8_copyFrom_16 rfl ?_
  refine z_aload_n C 1 dX8_copyFrom_17 rfl ?_
  have hgy12 := up_n egy10 hgy8 (by omega)
  refine z_get (v := .int (zI (vt 2))) C (by omega) hay3 hgy12 rfl inA_X8 2 (by decide) q_179 rfl rfl dX8_copyFrom_18 ?_
  refine z_put (fs' := [.int (zI (vt 0)), .int (zI (vt 1)), .int (zI (vt 2)), .int (zI (ut 3)), .int (zI (ut 4)), .int (zI (ut 5)), .ref (ad (a + 1))]) C (lt_A0 hN rfl) hay1 hgy11 tyX8 tyX8_ok nmX8 rfl inA_X8 2 (by decide) q_179 rfl rfl rfl rfl (Nat.le_of_ble_eq_true rfl) rfl dX8_copyFrom_21 (fun gy13 egy14 => ?_)
  have hgy15 := up_s egy14
  refine z_aload_n C 0 dX8_copyFrom_24 rfl ?_
  refine z_aload_n C 1 dX8_copyFrom_25 rfl ?_
  have hgy16 := up_n egy14 hgy12 (by omega)
  refine z_get (v := .int (zI (vt 3))) C (by omega) hay3 hgy16 rfl inA_X8 3 (by decide) q_181 rfl rfl dX8_copyFrom_26 ?_
  refine z_put (fs' := [.int (zI (vt 0)), .int (zI (vt 1)), .int (zI (vt 2)), .int (zI (vt 3)), .int (zI (ut 4)), .int (zI (ut 5)), .ref (ad (a + 1))]) C (lt_A0 hN rfl) hay1 hgy15 tyX8 tyX8_ok nmX8 rfl inA_X8 3 (by decide) q_181 rfl rfl rfl rfl (Nat.le_of_ble_eq_true rfl) rfl dX8_copyFrom_29 (fun gy17 egy18 => ?_)
  have hgy19 := up_s egy18
  refine z_aload_n C 0 dX8_copyFrom_32 rfl ?_
  refine z_aload_n C 1 dX8_copyFrom_33 rfl ?_
  have hgy20 := up_n egy18 hgy16 (by omega)
  refine z_get (v := .int (zI (vt 4))) C (by omega) hay3 hgy20 rfl inA_X8 4 (by decide) q_183 rfl rfl dX8_copyFrom_34 ?_
  refine z_put (fs' := [.int (zI (vt 0)), .int (zI (vt 1)), .int (zI (vt 2)), .int (zI (vt 3)), .int (zI (vt 4)), .int (zI (ut 5)), .ref (ad (a + 1))]) C (lt_A0 hN rfl) hay1 hgy19 tyX8 tyX8_ok nmX8 rfl inA_X8 4 (by decide) q_183 rfl rfl rfl rfl (Nat.le_of_ble_eq_true rfl) rfl dX8_copyFrom_37 (fun gy21 egy22 => ?_)
  have hgy23 := up_s egy22
  refine z_aload_n C 0 dX8_copyFrom_40 rfl ?_
  refine z_aload_n C 1 dX8_copyFrom_41 rfl ?_
  have hgy24 := up_n egy22 hgy20 (by omega)
  refine z_get (v := .int (zI (vt 5))) C (by omega) hay3 hgy24 rfl inA_X8 5 (by decide) q_185 rfl rfl dX8_copyFrom_42 ?_
  refine z_put (fs' := [.int (zI (vt 0)), .int (zI (vt 1)), .int (zI (vt 2)), .int (zI (vt 3)), .int (zI (vt 4)), .int (zI (vt 5)), .ref (ad (a + 1))]) C (lt_A0 hN rfl) hay1 hgy23 tyX8 tyX8_ok nmX8 rfl inA_X8 5 (by decide) q_185 rfl rfl rfl rfl (Nat.le_of_ble_eq_true rfl) rfl dX8_copyFrom_45 (fun gy25 egy26 => ?_)
  have hgy27 := up_s egy26
  refine z_iconst (z := 0) C dX8_copyFrom_48 rfl ?_
  refine z_istore_n (lv' := [(2, .int (zI (0))), (0, .ref (ad a)), (1, .ref (ad b))]) C dX8_copyFrom_49 rfl (by decide) rfl ?_
  refine z_iload_n C 0 dX8_copyFrom_50 rfl ?_
  refine z_aload_n C 1 dX8_copyFrom_51 rfl ?_
  refine z_get (v := .ref (ad (a + 1))) C (lt_A0 hN rfl) hay1 hgy27 rfl inA_X8 6 (by decide) q_188 rfl rfl dX8_copyFrom_52 ?_
  have hgy28 := up_n egy6 u2 (ne_o (i := a) (c := 1) (d := 0) rfl)
  have hgy29 := up_n egy10 hgy28 (ne_o (i := a) (c := 1) (d := 0) rfl)
  have hgy30 := up_n egy14 hgy29 (ne_o (i := a) (c := 1) (d := 0) rfl)
  have hgy31 := up_n egy18 hgy30 (ne_o (i := a) (c := 1) (d := 0) rfl)
  have hgy32 := up_n egy22 hgy31 (ne_o (i := a) (c := 1) (d := 0) rfl)
  have hgy33 := up_n egy26 hgy32 (ne_o (i := a) (c := 1) (d := 0) rfl)
  refine z_alen (z := 4) C (lt_A (c := 1) hN rfl) hay2 hgy33 3 rfl rfl dX8_copyFrom_55 ?_
  refine z_icmp_ge (tgt := 80) C dX8_copyFrom_56 (by decide) (by omega) (by omega) (fun h => absurd h (by omega)) (fun _ => ?_)
  refine z_aload_n C 1 dX8_copyFrom_59 rfl ?_
  refine z_get (v := .ref (ad (a + 1))) C (lt_A0 hN rfl) hay1 hgy27 rfl inA_X8 6 (by decide) q_188 rfl rfl dX8_copyFrom_60 ?_
  refine z_iload_n C 0 dX8_copyFrom_63 rfl ?_
  refine z_aald C (lt_A (c := 1) hN rfl) hay2 hgy33 3 rfl (0) (by omega) (by omega) (by decide) (u3 0 (by omega)) dX8_copyFrom_64 ?_
  have hay34 : zAt ad (a + 2 + 2 * 0) (ad (a + 2 + 2 * 0)) := rfl
  have hay35 : zAt ad (a + 2 + 2 * 0 + 1) (ad (a + 2 + 2 * 0 + 1)) := rfl
  have hpy36 := u4 0 (by omega)
  have hqy37 := uz4 0 (by omega)
  refine z_aload_n C 2 dX8_copyFrom_65 rfl ?_
  have hgy38 := up_n egy26 hgy24 (by omega)
  refine z_get (v := .ref (ad (b + 1))) C (by omega) hay3 hgy38 rfl inA_X8 6 (by decide) q_188 rfl rfl dX8_copyFrom_66 ?_
  refine z_iload_n C 0 dX8_copyFrom_69 rfl ?_
  have hgy39 := up_n egy6 v2 (by omega)
  have hgy40 := up_n egy10 hgy39 (by omega)
  have hgy41 := up_n egy14 hgy40 (by omega)
  have hgy42 := up_n egy18 hgy41 (by omega)
  have hgy43 := up_n egy22 hgy42 (by omega)
  have hgy44 := up_n egy26 hgy43 (by omega)
  refine z_aald C (by omega) hay4 hgy44 3 rfl (0) (by omega) (by omega) (by decide) (v3 0 (by omega)) dX8_copyFrom_70 ?_
  have hay45 : zAt ad (b + 2 + 2 * 0) (ad (b + 2 + 2 * 0)) := rfl
  have hay46 : zAt ad (b + 2 + 2 * 0 + 1) (ad (b + 2 + 2 * 0 + 1)) := rfl
  have hpy47 := v4 0 (by omega)
  have hqy48 := vz4 0 (by omega)
  have hgy49 := up_n egy6 hpy36.1 (by omega)
  have hgy50 := up_n egy10 hgy49 (by omega)
  have hgy51 := up_n egy14 hgy50 (by omega)
  have hgy52 := up_n egy18 hgy51 (by omega)
  have hgy53 := up_n egy22 hgy52 (by omega)
  have hgy54 := up_n egy26 hgy53 (by omega)
  have hgy55 := up_n egy6 hpy36.2 (by omega)
  have hgy56 := up_n egy10 hgy55 (by omega)
  have hgy57 := up_n egy14 hgy56 (by omega)
  have hgy58 := up_n egy18 hgy57 (by omega)
  have hgy59 := up_n egy22 hgy58 (by omega)
  have hgy60 := up_n egy26 hgy59 (by omega)
  have hgy61 := up_n egy6 hpy47.1 (by omega)
  have hgy62 := up_n egy10 hgy61 (by omega)
  have hgy63 := up_n egy14 hgy62 (by omega)
  have hgy64 := up_n egy18 hgy63 (by omega)
  have hgy65 := up_n egy22 hgy64 (by omega)
  have hgy66 := up_n egy26 hgy65 (by omega)
  have hgy67 := up_n egy6 hpy47.2 (by omega)
  have hgy68 := up_n egy10 hgy67 (by omega)
  have hgy69 := up_n egy14 hgy68 (by omega)
  have hgy70 := up_n egy18 hgy69 (by omega)
  have hgy71 := up_n egy22 hgy70 (by omega)
  have hgy72 := up_n egy26 hgy71 (by omega)
  refine z_cV (As := [.ref (ad (b + 2 + 2 * 0))]) (rest := []) (ci := 5) C (c_X3_copyFrom l D A cs tt N ad _ (a + 2 + 2 * 0) (by omega) _ _ _ (by omega) ⟨hgy54, hgy60⟩ (b + 2 + 2 * 0) (by omega) _ _ _ (by omega) ⟨hgy66, hgy72⟩ (by omega)) (by omega) hay34 hgy54 rfl rfl mv_yX3_copyFrom q_424 hd_yX3_copyFrom (by decide) (Nat.le_of_ble_eq_true rfl) (by decide) dX8_copyFrom_71 rfl (kV0 fun gvy73 hvy73 => ?_)
  obtain ⟨hpvy73, hfvy73⟩ := hvy73
  refine z_iinc (z := 1) (lv' := [(2, .int (zI (1))), (0, .ref (ad a)), (1, .ref (ad b))]) (j := 0) C dX8_copyFrom_74 rfl (congrArg zI (by omega)) (by decide) rfl ?_
  refine z_goto (tgt := 50) C dX8_copyFrom_77 (by decide) ?_
  refine z_iload_n C 0 dX8_copyFrom_50 rfl ?_
  refine z_aload_n C 1 dX8_copyFrom_51 rfl ?_
  have hgy74 := (hfvy73 (a) (by omega) (by omega)).trans hgy27
  refine z_get (v := .ref (ad (a + 1))) C (lt_A0 hN rfl) hay1 hgy74 rfl inA_X8 6 (by decide) q_188 rfl rfl dX8_copyFrom_52 ?_
  have hgy75 := (hfvy73 (a + 1) (by omega) (by omega)).trans hgy33
  refine z_alen (z := 4) C (lt_A (c := 1) hN rfl) hay2 hgy75 3 rfl rfl dX8_copyFrom_55 ?_
  refine z_icmp_ge (tgt := 80) C dX8_copyFrom_56 (by decide) (by omega) (by omega) (fun h => absurd h (by omega)) (fun _ => ?_)
  refine z_aload_n C 1 dX8_copyFrom_59 rfl ?_
  refine z_get (v := .ref (ad (a + 1))) C (lt_A0 hN rfl) hay1 hgy74 rfl inA_X8 6 (by decide) q_188 rfl rfl dX8_copyFrom_60 ?_
  refine z_iload_n C 0 dX8_copyFrom_63 rfl ?_
  refine z_aald C (lt_A (c := 1) hN rfl) hay2 hgy75 3 rfl (1) (by omega) (by omega) (by decide) (u3 1 (by omega)) dX8_copyFrom_64 ?_
  have hay76 : zAt ad (a + 2 + 2 * 1) (ad (a + 2 + 2 * 1)) := rfl
  have hay77 : zAt ad (a + 2 + 2 * 1 + 1) (ad (a + 2 + 2 * 1 + 1)) := rfl
  have hpy78 := u4 1 (by omega)
  have hqy79 := uz4 1 (by omega)
  refine z_aload_n C 2 dX8_copyFrom_65 rfl ?_
  have hgy80 := (hfvy73 (b) (by omega) (by omega)).trans hgy38
  refine z_get (v := .ref (ad (b + 1))) C (by omega) hay3 hgy80 rfl inA_X8 6 (by decide) q_188 rfl rfl dX8_copyFrom_66 ?_
  refine z_iload_n C 0 dX8_copyFrom_69 rfl ?_
  have hgy81 := (hfvy73 (b + 1) (by omega) (by omega)).trans hgy44
  refine z_aald C (by omega) hay4 hgy81 3 rfl (1) (by omega) (by omega) (by decide) (v3 1 (by omega)) dX8_copyFrom_70 ?_
  have hay82 : zAt ad (b + 2 + 2 * 1) (ad (b + 2 + 2 * 1)) := rfl
  have hay83 : zAt ad (b + 2 + 2 * 1 + 1) (ad (b + 2 + 2 * 1 + 1)) := rfl
  have hpy84 := v4 1 (by omega)
  have hqy85 := vz4 1 (by omega)
  have hgy86 := up_n egy6 hpy78.1 (by omega)
  have hgy87 := up_n egy10 hgy86 (by omega)
  have hgy88 := up_n egy14 hgy87 (by omega)
  have hgy89 := up_n egy18 hgy88 (by omega)
  have hgy90 := up_n egy22 hgy89 (by omega)
  have hgy91 := up_n egy26 hgy90 (by omega)
  have hgy92 := (hfvy73 (a + 2 + 2 * 1) (by omega) (by omega)).trans hgy91
  have hgy93 := up_n egy6 hpy78.2 (by omega)
  have hgy94 := up_n egy10 hgy93 (by omega)
  have hgy95 := up_n egy14 hgy94 (by omega)
  have hgy96 := up_n egy18 hgy95 (by omega)
  have hgy97 := up_n egy22 hgy96 (by omega)
  have hgy98 := up_n egy26 hgy97 (by omega)
  have hgy99 := (hfvy73 (a + 2 + 2 * 1 + 1) (by omega) (by omega)).trans hgy98
  have hgy100 := up_n egy6 hpy84.1 (by omega)
  have hgy101 := up_n egy10 hgy100 (by omega)
  have hgy102 := up_n egy14 hgy101 (by omega)
  have hgy103 := up_n egy18 hgy102 (by omega)
  have hgy104 := up_n egy22 hgy103 (by omega)
  have hgy105 := up_n egy26 hgy104 (by omega)
  have hgy106 := (hfvy73 (b + 2 + 2 * 1) (by omega) (by omega)).trans hgy105
  have hgy107 := up_n egy6 hpy84.2 (by omega)
  have hgy108 := up_n egy10 hgy107 (by omega)
  have hgy109 := up_n egy14 hgy108 (by omega)
  have hgy110 := up_n egy18 hgy109 (by omega)
  have hgy111 := up_n egy22 hgy110 (by omega)
  have hgy112 := up_n egy26 hgy111 (by omega)
  have hgy113 := (hfvy73 (b + 2 + 2 * 1 + 1) (by omega) (by omega)).trans hgy112
  refine z_cV (As := [.ref (ad (b + 2 + 2 * 1))]) (rest := []) (ci := 5) C (c_X3_copyFrom l D A cs tt N ad _ (a + 2 + 2 * 1) (by omega) _ _ _ (by omega) ⟨hgy92, hgy99⟩ (b + 2 + 2 * 1) (by omega) _ _ _ (by omega) ⟨hgy106, hgy113⟩ (by omega)) (by omega) hay76 hgy92 rfl rfl mv_yX3_copyFrom q_424 hd_yX3_copyFrom (by decide) (Nat.le_of_ble_eq_true rfl) (by decide) dX8_copyFrom_71 rfl (kV0 fun gvy114 hvy114 => ?_)
  obtain ⟨hpvy114, hfvy114⟩ := hvy114
  refine z_iinc (z := 2) (lv' := [(2, .int (zI (2))), (0, .ref (ad a)), (1, .ref (ad b))]) (j := 0) C dX8_copyFrom_74 rfl (congrArg zI (by omega)) (by decide) rfl ?_
  refine z_goto (tgt := 50) C dX8_copyFrom_77 (by decide) ?_
  refine z_iload_n C 0 dX8_copyFrom_50 rfl ?_
  refine z_aload_n C 1 dX8_copyFrom_51 rfl ?_
  have hgy115 := (hfvy114 (a) (by omega) (by omega)).trans hgy74
  refine z_get (v := .ref (ad (a + 1))) C (lt_A0 hN rfl) hay1 hgy115 rfl inA_X8 6 (by decide) q_188 rfl rfl dX8_copyFrom_52 ?_
  have hgy116 := (hfvy114 (a + 1) (by omega) (by omega)).trans hgy75
  refine z_alen (z := 4) C (lt_A (c := 1) hN rfl) hay2 hgy116 3 rfl rfl dX8_copyFrom_55 ?_
  refine z_icmp_ge (tgt := 80) C dX8_copyFrom_56 (by decide) (by omega) (by omega) (fun h => absurd h (by omega)) (fun _ => ?_)
  refine z_aload_n C 1 dX8_copyFrom_59 rfl ?_
  refine z_get (v := .ref (ad (a + 1))) C (lt_A0 hN rfl) hay1 hgy115 rfl inA_X8 6 (by decide) q_188 rfl rfl dX8_copyFrom_60 ?_
  refine z_iload_n C 0 dX8_copyFrom_63 rfl ?_
  refine z_aald C (lt_A (c := 1) hN rfl) hay2 hgy116 3 rfl (2) (by omega) (by omega) (by decide) (u3 2 (by omega)) dX8_copyFrom_64 ?_
  have hay117 : zAt ad (a + 2 + 2 * 2) (ad (a + 2 + 2 * 2)) := rfl
  have hay118 : zAt ad (a + 2 + 2 * 2 + 1) (ad (a + 2 + 2 * 2 + 1)) := rfl
  have hpy119 := u4 2 (by omega)
  have hqy120 := uz4 2 (by omega)
  refine z_aload_n C 2 dX8_copyFrom_65 rfl ?_
  have hgy121 := (hfvy114 (b) (by omega) (by omega)).trans hgy80
  refine z_get (v := .ref (ad (b + 1))) C (by omega) hay3 hgy121 rfl inA_X8 6 (by decide) q_188 rfl rfl dX8_copyFrom_66 ?_
  refine z_iload_n C 0 dX8_copyFrom_69 rfl ?_
  have hgy122 := (hfvy114 (b + 1) (by omega) (by omega)).trans hgy81
  refine z_aald C (by omega) hay4 hgy122 3 rfl (2) (by omega) (by omega) (by decide) (v3 2 (by omega)) dX8_copyFrom_70 ?_
  have hay123 : zAt ad (b + 2 + 2 * 2) (ad (b + 2 + 2 * 2)) := rfl
  have hay124 : zAt ad (b + 2 + 2 * 2 + 1) (ad (b + 2 + 2 * 2 + 1)) := rfl
  have hpy125 := v4 2 (by omega)
  have hqy126 := vz4 2 (by omega)
  have hgy127 := up_n egy6 hpy119.1 (by omega)
  have hgy128 := up_n egy10 hgy127 (by omega)
  have hgy129 := up_n egy14 hgy128 (by omega)
  have hgy130 := up_n egy18 hgy129 (by omega)
  have hgy131 := up_n egy22 hgy130 (by omega)
  have hgy132 := up_n egy26 hgy131 (by omega)
  have hgy133 := (hfvy73 (a + 2 + 2 * 2) (by omega) (by omega)).trans hgy132
  have hgy134 := (hfvy114 (a + 2 + 2 * 2) (by omega) (by omega)).trans hgy133
  have hgy135 := up_n egy6 hpy119.2 (by omega)
  have hgy136 := up_n egy10 hgy135 (by omega)
  have hgy137 := up_n egy14 hgy136 (by omega)
  have hgy138 := up_n egy18 hgy137 (by omega)
  have hgy139 := up_n egy22 hgy138 (by omega)
  have hgy140 := up_n egy26 hgy139 (by omega)
  have hgy141 := (hfvy73 (a + 2 + 2 * 2 + 1) (by omega) (by omega)).trans hgy140
  have hgy142 := (hfvy114 (a + 2 + 2 * 2 + 1) (by omega) (by omega)).trans hgy141
  have hgy143 := up_n egy6 hpy125.1 (by omega)
  have hgy144 := up_n egy10 hgy143 (by omega)
  have hgy145 := up_n egy14 hgy144 (by omega)
  have hgy146 := up_n egy18 hgy145 (by omega)
  have hgy147 := up_n egy22 hgy146 (by omega)
  have hgy148 := up_n egy26 hgy147 (by omega)
  have hgy149 := (hfvy73 (b + 2 + 2 * 2) (by omega) (by omega)).trans hgy148
  have hgy150 := (hfvy114 (b + 2 + 2 * 2) (by omega) (by omega)).trans hgy149
  have hgy151 := up_n egy6 hpy125.2 (by omega)
  have hgy152 := up_n egy10 hgy151 (by omega)
  have hgy153 := up_n egy14 hgy152 (by omega)
  have hgy154 := up_n egy18 hgy153 (by omega)
  have hgy155 := up_n egy22 hgy154 (by omega)
  have hgy156 := up_n egy26 hgy155 (by omega)
  have hgy157 := (hfvy73 (b + 2 + 2 * 2 + 1) (by omega) (by omega)).trans hgy156
  have hgy158 := (hfvy114 (b + 2 + 2 * 2 + 1) (by omega) (by omega)).trans hgy157
  refine z_cV (As := [.ref (ad (b + 2 + 2 * 2))]) (rest := []) (ci := 5) C (c_X3_copyFrom l D A cs tt N ad _ (a + 2 + 2 * 2) (by omega) _ _ _ (by omega) ⟨hgy134, hgy142⟩ (b + 2 + 2 * 2) (by omega) _ _ _ (by omega) ⟨hgy150, hgy158⟩ (by omega)) (by omega) hay117 hgy134 rfl rfl mv_yX3_copyFrom q_424 hd_yX3_copyFrom (by decide) (Nat.le_of_ble_eq_true rfl) (by decide) dX8_copyFrom_71 rfl (kV0 fun gvy159 hvy159 => ?_)
  obtain ⟨hpvy159, hfvy159⟩ := hvy159
  refine z_iinc (z := 3) (lv' := [(2, .int (zI (3))), (0, .ref (ad a)), (1, .ref (ad b))]) (j := 0) C dX8_copyFrom_74 rfl (congrArg zI (by omega)) (by decide) rfl ?_
  refine z_goto (tgt := 50) C dX8_copyFrom_77 (by decide) ?_
  refine z_iload_n C 0 dX8_copyFrom_50 rfl ?_
  refine z_aload_n C 1 dX8_copyFrom_51 rfl ?_
  have hgy160 := (hfvy159 (a) (by omega) (by omega)).trans hgy115
  refine z_get (v := .ref (ad (a + 1))) C (lt_A0 hN rfl) hay1 hgy160 rfl inA_X8 6 (by decide) q_188 rfl rfl dX8_copyFrom_52 ?_
  have hgy161 := (hfvy159 (a + 1) (by omega) (by omega)).trans hgy116
  refine z_alen (z := 4) C (lt_A (c := 1) hN rfl) hay2 hgy161 3 rfl rfl dX8_copyFrom_55 ?_
  refine z_icmp_ge (tgt := 80) C dX8_copyFrom_56 (by decide) (by omega) (by omega) (fun h => absurd h (by omega)) (fun _ => ?_)
  refine z_aload_n C 1 dX8_copyFrom_59 rfl ?_
  refine z_get (v := .ref (ad (a + 1))) C (lt_A0 hN rfl) hay1 hgy160 rfl inA_X8 6 (by decide) q_188 rfl rfl dX8_copyFrom_60 ?_
  refine z_iload_n C 0 dX8_copyFrom_63 rfl ?_
  refine z_aald C (lt_A (c := 1) hN rfl) hay2 hgy161 3 rfl (3) (by omega) (by omega) (by decide) (u3 3 (by omega)) dX8_copyFrom_64 ?_
  have hay162 : zAt ad (a + 2 + 2 * 3) (ad (a + 2 + 2 * 3)) := rfl
  have hay163 : zAt ad (a + 2 + 2 * 3 + 1) (ad (a + 2 + 2 * 3 + 1)) := rfl
  have hpy164 := u4 3 (by omega)
  have hqy165 := uz4 3 (by omega)
  refine z_aload_n C 2 dX8_copyFrom_65 rfl ?_
  have hgy166 := (hfvy159 (b) (by omega) (by omega)).trans hgy121
  refine z_get (v := .ref (ad (b + 1))) C (by omega) hay3 hgy166 rfl inA_X8 6 (by decide) q_188 rfl rfl dX8_copyFrom_66 ?_
  refine z_iload_n C 0 dX8_copyFrom_69 rfl ?_
  have hgy167 := (hfvy159 (b + 1) (by omega) (by omega)).trans hgy122
  refine z_aald C (by omega) hay4 hgy167 3 rfl (3) (by omega) (by omega) (by decide) (v3 3 (by omega)) dX8_copyFrom_70 ?_
  have hay168 : zAt ad (b + 2 + 2 * 3) (ad (b + 2 + 2 * 3)) := rfl
  have hay169 : zAt ad (b + 2 + 2 * 3 + 1) (ad (b + 2 + 2 * 3 + 1)) := rfl
  have hpy170 := v4 3 (by omega)
  have hqy171 := vz4 3 (by omega)
  have hgy172 := up_n egy6 hpy164.1 (by omega)
  have hgy173 := up_n egy10 hgy172 (by omega)
  have hgy174 := up_n egy14 hgy173 (by omega)
  have hgy175 := up_n egy18 hgy174 (by omega)
  have hgy176 := up_n egy22 hgy175 (by omega)
  have hgy177 := up_n egy26 hgy176 (by omega)
  have hgy178 := (hfvy73 (a + 2 + 2 * 3) (by omega) (by omega)).trans hgy177
  have hgy179 := (hfvy114 (a + 2 + 2 * 3) (by omega) (by omega)).trans hgy178
  have hgy180 := (hfvy159 (a + 2 + 2 * 3) (by omega) (by omega)).trans hgy179
  have hgy181 := up_n egy6 hpy164.2 (by omega)
  have hgy182 := up_n egy10 hgy181 (by omega)
  have hgy183 := up_n egy14 hgy182 (by omega)
  have hgy184 := up_n egy18 hgy183 (by omega)
  have hgy185 := up_n egy22 hgy184 (by omega)
  have hgy186 := up_n egy26 hgy185 (by omega)
  have hgy187 := (hfvy73 (a + 2 + 2 * 3 + 1) (by omega) (by omega)).trans hgy186
  have hgy188 := (hfvy114 (a + 2 + 2 * 3 + 1) (by omega) (by omega)).trans hgy187
  have hgy189 := (hfvy159 (a + 2 + 2 * 3 + 1) (by omega) (by omega)).trans hgy188
  have hgy190 := up_n egy6 hpy170.1 (by omega)
  have hgy191 := up_n egy10 hgy190 (by omega)
  have hgy192 := up_n egy14 hgy191 (by omega)
  have hgy193 := up_n egy18 hgy192 (by omega)
  have hgy194 := up_n egy22 hgy193 (by omega)
  have hgy195 := up_n egy26 hgy194 (by omega)
  have hgy196 := (hfvy73 (b + 2 + 2 * 3) (by omega) (by omega)).trans hgy195
  have hgy197 := (hfvy114 (b + 2 + 2 * 3) (by omega) (by omega)).trans hgy196
  have hgy198 := (hfvy159 (b + 2 + 2 * 3) (by omega) (by omega)).trans hgy197
  have hgy199 := up_n egy6 hpy170.2 (by omega)
  have hgy200 := up_n egy10 hgy199 (by omega)
  have hgy201 := up_n egy14 hgy200 (by omega)
  have hgy202 := up_n egy18 hgy201 (by omega)
  have hgy203 := up_n egy22 hgy202 (by omega)
  have hgy204 := up_n egy26 hgy203 (by omega)
  have hgy205 := (hfvy73 (b + 2 + 2 * 3 + 1) (by omega) (by omega)).trans hgy204
  have hgy206 := (hfvy114 (b + 2 + 2 * 3 + 1) (by omega) (by omega)).trans hgy205
  have hgy207 := (hfvy159 (b + 2 + 2 * 3 + 1) (by omega) (by omega)).trans hgy206
  refine z_cV (As := [.ref (ad (b + 2 + 2 * 3))]) (rest := []) (ci := 5) C (c_X3_copyFrom l D A cs tt N ad _ (a + 2 + 2 * 3) (by omega) _ _ _ (by omega) ⟨hgy180, hgy189⟩ (b + 2 + 2 * 3) (by omega) _ _ _ (by omega) ⟨hgy198, hgy207⟩ (by omega)) (by omega) hay162 hgy180 rfl rfl mv_yX3_copyFrom q_424 hd_yX3_copyFrom (by decide) (Nat.le_of_ble_eq_true rfl) (by decide) dX8_copyFrom_71 rfl (kV0 fun gvy208 hvy208 => ?_)
  obtain ⟨hpvy208, hfvy208⟩ := hvy208
  refine z_iinc (z := 4) (lv' := [(2, .int (zI (4))), (0, .ref (ad a)), (1, .ref (ad b))]) (j := 0) C dX8_copyFrom_74 rfl (congrArg zI (by omega)) (by decide) rfl ?_
  refine z_goto (tgt := 50) C dX8_copyFrom_77 (by decide) ?_
  refine z_iload_n C 0 dX8_copyFrom_50 rfl ?_
  refine z_aload_n C 1 dX8_copyFrom_51 rfl ?_
  have hgy209 := (hfvy208 (a) (by omega) (by omega)).trans hgy160
  refine z_get (v := .ref (ad (a + 1))) C (lt_A0 hN rfl) hay1 hgy209 rfl inA_X8 6 (by decide) q_188 rfl rfl dX8_copyFrom_52 ?_
  have hgy210 := (hfvy208 (a + 1) (by omega) (by omega)).trans hgy161
  refine z_alen (z := 4) C (lt_A (c := 1) hN rfl) hay2 hgy210 3 rfl rfl dX8_copyFrom_55 ?_
  refine z_icmp_ge (tgt := 80) C dX8_copyFrom_56 (by decide) (by omega) (by omega) (fun _ => ?_) (fun h => absurd h (by omega))
  have hgy211 := (hfvy114 (a + 2 + 2 * 0) (by omega) (by omega)).trans hpvy73.1
  have hgy212 := (hfvy159 (a + 2 + 2 * 0) (by omega) (by omega)).trans hgy211
  have hgy213 := (hfvy208 (a + 2 + 2 * 0) (by omega) (by omega)).trans hgy212
  have hgy214 := (hfvy114 (a + 2 + 2 * 0 + 1) (by omega) (by omega)).trans hpvy73.2
  have hgy215 := (hfvy159 (a + 2 + 2 * 0 + 1) (by omega) (by omega)).trans hgy214
  have hgy216 := (hfvy208 (a + 2 + 2 * 0 + 1) (by omega) (by omega)).trans hgy215
  have hgy217 := (hfvy159 (a + 2 + 2 * 1) (by omega) (by omega)).trans hpvy114.1
  have hgy218 := (hfvy208 (a + 2 + 2 * 1) (by omega) (by omega)).trans hgy217
  have hgy219 := (hfvy159 (a + 2 + 2 * 1 + 1) (by omega) (by omega)).trans hpvy114.2
  have hgy220 := (hfvy208 (a + 2 + 2 * 1 + 1) (by omega) (by omega)).trans hgy219
  have hgy221 := (hfvy208 (a + 2 + 2 * 2) (by omega) (by omega)).trans hpvy159.1
  have hgy222 := (hfvy208 (a + 2 + 2 * 2 + 1) (by omega) (by omega)).trans hpvy159.2
  have hp4 : ∀ k, k < 4 → isPack cs ad gvy208 (a + 2 + 2 * k) (vz k) (vo k) (vr k) := by
    intro k hk
    rcases (show k = 0 ∨ k = 1 ∨ k = 2 ∨ k = 3 by omega) with rfl | rfl | rfl | rfl
    · exact ⟨hgy213, hgy216⟩
    · exact ⟨hgy218, hgy220⟩
    · exact ⟨hgy221, hgy222⟩
    · exact ⟨hpvy208.1, hpvy208.2⟩
  exact z_vret C hr hlk dX8_copyFrom_80 (by decide) (by decide) ⟨rfl, rfl, rfl, ⟨vt, vz, vo, vr, vz4, vt5, ⟨v1, ⟨vu, v2, v3⟩, v4⟩, hgy209, ⟨uu, hgy210, u3⟩, hp4⟩, fun j j1 => by rw [hfvy208 _ (by omega) (by omega)]; rw [hfvy159 _ (by omega) (by omega)]; rw [hfvy114 _ (by omega) (by omega)]; rw [hfvy73 _ (by omega) (by omega)]; rw [egy26, va_up_ne _ _ (by omega)]; rw [egy22, va_up_ne _ _ (by omega)]; rw [egy18, va_up_ne _ _ (by omega)]; rw [egy14, va_up_ne _ _ (by omega)]; rw [egy10, va_up_ne _ _ (by omega)]; rw [egy6, va_up_ne _ _ (by omega)]⟩

theorem okWorld.two {cs : Nat → ClassId} {ad : Nat → Nat} {g g' : Nat → va_E} {a k : Nat} (hk : k < 4) (h : okWorld cs ad g a) (hG : ∀ j, j ≠ a → j ≠ a + 2 + 2 * k → j ≠ a + 2 + 2 * k + 1 → g' j = g j) (hp : okPack cs ad g' (a + 2 + 2 * k)) {x0 x1 x2 x3 x4 x5 : Int} (hx : 0 ≤ x5 ∧ x5 ≤ 6) (hh : g' a = oC 10 [.int (zI x0), .int (zI x1), .int (zI x2), .int (zI x3), .int (zI x4), .int (zI x5), .ref (ad (a + 1))]) : okWorld cs ad g' a := by
  have h1 : okWorld cs ad (va_up g' a (g a)) a := okWorld.pack hk h (fun j j1 j2 => by
      by_cases e : j = a
      · rw [e, va_up_self]
      · rw [va_up_ne _ _ e]; exact hG j e j1 j2) (by
      obtain ⟨s, o, r, hs, hp⟩ := hp
      exact ⟨s, o, r, hs, hp.mv (fun _ _ _ => rfl) (fun i _ _ => va_up_ne _ _ (by omega))⟩)
  exact okWorld.head h1 (fun j hj => (va_up_ne _ _ hj).symm) hx hh

set_option maxRecDepth 100000 in
set_option maxHeartbeats 4000000 in
theorem c_X8_fallOn (l : Launch) (D : va_G) (A : Nat → Prop) (cs : Nat → ClassId) (tt : Nat) (N : Nat) (ad : Nat → Nat) (g : Nat → va_E) (a : Nat) (hN : a + 10 ≤ N) (hw : okWorld cs ad g a) (z : Int) (hzs : 0 ≤ z ∧ z ≤ 3) (z1 : Int) (hz1 : -2147483648 ≤ z1 ∧ z1 ≤ 2147483647) (z2 : Int) (hz2 : -2147483648 ≤ z2 ∧ z2 ≤ 2147483647) (z3 : Int) (hz3 : -2147483648 ≤ z3 ∧ z3 ≤ 2147483647) : zM l yX8_fallOn cX8_fallOn 8 none ({ frames := 3, cells := 0, slots := 0, locals := 180 } : Room) D A cs tt N ad g [.ref (ad a), .int (zI (z)), .int (zI (z1)), .int (zI (z2)), .int (zI (z3))] (rV0 N ad fun g' => okWorld cs ad g' a ∧ ∀ j, j < a ∨ a + 10 ≤ j → g' j = g j) := by
  obtain ⟨ut, uz, uo, ur, uz4, ut5, u1, ⟨uu, u2, u3⟩, u4⟩ := id hw
  have hay1 : zAt ad (a) (ad a) := rfl
  have hay2 : zAt ad (a + 1) (ad (a + 1)) := rfl
  refine z_of (by decide) (Nat.le_of_ble_eq_true rfl) ?_
  intro p e s m below meth c C hr hlk hnm
  refine z_lv (lv' := [(0, .ref (ad a)), (1, .int (zI (z))), (2, .int (zI (z1))), (3, .int (zI (z2))), (4, .int (zI (z3)))]) [0, 1, 2, 3, 4] rfl ?_
  refine z_aload_n C 0 dX8_fallOn_0 rfl ?_
  refine z_get (v := .ref (ad (a + 1))) C (lt_A0 hN rfl) hay1 u1 rfl inA_X8 6 (by decide) q_188 rfl rfl dX8_fallOn_1 ?_
  refine z_iload_n C 1 dX8_fallOn_4 rfl ?_
  refine z_aald C (lt_A (c := 1) hN rfl) hay2 u2 3 rfl ((z).toNat) (by omega) (by omega) (by decide) (u3 (z).toNat (by omega)) dX8_fallOn_5 ?_
  have hay3 : zAt ad (a + 2 + 2 * (z).toNat) (ad (a + 2 + 2 * (z).toNat)) := rfl
  have hay4 : zAt ad (a + 2 + 2 * (z).toNat + 1) (ad (a + 2 + 2 * (z).toNat + 1)) := rfl
  have hpy5 := u4 (z).toNat (by omega)
  have hqy6 := uz4 (z).toNat (by omega)
  refine z_astore (lv' := [(5, .ref (ad (a + 2 + 2 * (z).toNat))), (0, .ref (ad a)), (1, .int (zI (z))), (2, .int (zI (z1))), (3, .int (zI (z2))), (4, .int (zI (z3)))]) C dX8_fallOn_6 (by decide) rfl ?_
  refine z_iload_n C 3 dX8_fallOn_8 rfl ?_
  refine z_iconst (z := 2) C dX8_fallOn_9 rfl ?_
  refine z_icmp_ne (tgt := 25) C dX8_fallOn_10 (by decide) (by omega) (by omega) (fun hby7 => ?_) (fun hby7 => ?_)
  · refine z_iload_n C 3 dX8_fallOn_25 rfl ?_
    refine z_iconst (z := 3) C dX8_fallOn_26 rfl ?_
    refine z_icmp_ne (tgt := 39) C dX8_fallOn_27 (by decide) (by omega) (by omega) (fun hby8 => ?_) (fun hby8 => ?_)
    · refine z_iconst (z := 0) C dX8_fallOn_39 rfl ?_
      refine z_istore (lv' := [(6, .int (zI (0))), (5, .ref (ad (a + 2 + 2 * (z).toNat))), (0, .ref (ad a)), (1, .int (zI (z))), (2, .int (zI (z1))), (3, .int (zI (z2))), (4, .int (zI (z3)))]) C dX8_fallOn_40 (by decide) rfl ?_
      refine z_iload C 0 dX8_fallOn_42 rfl ?_
      refine z_if_ne (tgt := 53) C dX8_fallOn_44 (by decide) (by omega) (fun h => absurd h (by omega)) (fun _ => ?_)
      refine z_iload_n C 4 dX8_fallOn_47 rfl ?_
      refine z_iconst (z := 1) C dX8_fallOn_48 rfl ?_
      refine z_icmp_eq (tgt := 53) C dX8_fallOn_49 (by decide) (by omega) (by omega) (fun hby9 => ?_) (fun hby9 => ?_)
      · refine z_aload C 1 dX8_fallOn_53 rfl ?_
        refine z_get (v := .int (zI (uz (z).toNat))) C (by omega) hay3 hpy5.1 rfl inA_X3 0 (by decide) q_156 rfl rfl dX8_fallOn_55 ?_
        refine z_bipush (z := 12) C dX8_fallOn_58 (by decide) ?_
        refine z_icmp_ne (tgt := 68) C dX8_fallOn_60 (by decide) (by omega) (by omega) (fun hby10 => ?_) (fun hby10 => ?_)
        · refine z_iload C 0 dX8_fallOn_68 rfl ?_
          refine z_if_eq (tgt := 77) C dX8_fallOn_70 (by decide) (by omega) (fun _ => ?_) (fun h => absurd h (by omega))
          refine z_iload_n C 5 dX8_fallOn_77 rfl ?_
          refine z_istore (lv' := [(7, .int (zI (z2))), (6, .int (zI (0))), (5, .ref (ad (a + 2 + 2 * (z).toNat))), (0, .ref (ad a)), (1, .int (zI (z))), (2, .int (zI (z1))), (3, .int (zI (z2))), (4, .int (zI (z3)))]) C dX8_fallOn_78 (by decide) rfl ?_
          refine z_aload C 2 dX8_fallOn_80 rfl ?_
          refine z_iload C 1 dX8_fallOn_82 rfl ?_
          refine z_if_eq (tgt := 91) C dX8_fallOn_84 (by decide) (by omega) (fun _ => ?_) (fun h => absurd h (by omega))
          refine z_iconst (z := 0) C dX8_fallOn_91 rfl ?_
          refine z_iload C 0 dX8_fallOn_92 rfl ?_
          refine z_iconst (z := 0) C dX8_fallOn_94 rfl ?_
          refine z_bipush (z := 10) C dX8_fallOn_95 (by decide) ?_
          refine z_iload C 0 dX8_fallOn_97 rfl ?_
          refine z_imul C dX8_fallOn_99 ?_
          refine z_iload C 7 dX8_fallOn_100 rfl ?_
          refine z_iconst (z := 0) C dX8_fallOn_102 rfl ?_
          refine z_mmin C q_472 q_473 q_20 q_474 (by omega) (by omega) (by decide) (Nat.le_of_ble_eq_true rfl) (by decide) (by decide) dX8_fallOn_103 ?_
          obtain ⟨xy11, exy12, hxy13⟩ := mm_min (z3) (0)
          rw [exy12]
          refine z_aload_n C 3 dX8_fallOn_106 rfl ?_
          refine z_get (v := .int (zI (ut 1))) C (lt_A0 hN rfl) hay1 u1 rfl inA_X8 1 (by decide) q_176 rfl rfl dX8_fallOn_107 ?_
          obtain ⟨xy14, exy15, hxy16⟩ := zI_of (zI (ut 1))
          rw [exy15]
          obtain ⟨xy17, exy18, hxy19⟩ := zI_of (zI (10 * z2))
          rw [exy18]
          refine z_cV (As := [.int (zI (0)), .int (zI (z2)), .int (zI (0)), .int (zI (xy17)), .int (zI (xy11)), .int (zI (xy14))]) (rest := []) (ci := 5) C (c_X3_add l D A cs tt N ad _ (a + 2 + 2 * (z).toNat) (by omega) _ _ _ (by omega) ⟨hpy5.1, hpy5.2⟩  (0) (by omega) (z2) (by omega) (0) (by omega) (xy17) (by omega) (xy11) (by omega) (xy14) (by omega)) (by omega) hay3 hpy5.1 rfl rfl mv_yX3_add q_475 hd_yX3_add (by decide) (Nat.le_of_ble_eq_true rfl) (by decide) dX8_fallOn_110 rfl (kV0 fun gvy20 hvy20 => ?_)
          obtain ⟨⟨svy20, ovy20, rvy20, hsvy20, hpvy20⟩, hfvy20⟩ := hvy20
          refine z_aload_n C 3 dX8_fallOn_113 rfl ?_
          refine z_dup C dX8_fallOn_114 rfl ?_
          have hgy21 := (hfvy20 (a) (by omega) (by omega)).trans u1
          refine z_get (v := .int (zI (ut 1))) C (lt_A0 hN rfl) hay1 hgy21 rfl inA_X8 1 (by decide) q_176 rfl rfl dX8_fallOn_115 ?_
          refine z_iconst (z := 1) C dX8_fallOn_118 rfl ?_
          refine z_iadd C dX8_fallOn_119 ?_
          refine z_put (fs' := [.int (zI (ut 0)), .int (zI ((ut 1) + 1)), .int (zI (ut 2)), .int (zI (ut 3)), .int (zI (ut 4)), .int (zI (ut 5)), .ref (ad (a + 1))]) C (lt_A0 hN rfl) hay1 hgy21 tyX8 tyX8_ok nmX8 rfl inA_X8 1 (by decide) q_176 rfl rfl rfl rfl (Nat.le_of_ble_eq_true rfl) rfl dX8_fallOn_120 (fun gy22 egy23 => ?_)
          have hgy24 := up_s egy23
          have hgy25 := up_n egy23 hpvy20.1 (by omega)
          have hgy26 := up_n egy23 hpvy20.2 (by omega)
          have hGy27p : okPack cs ad gy22 (a + 2 + 2 * (z).toNat) := ⟨_, _, _, by omega, hgy25, hgy26⟩
          have hGy27f : ∀ j, j ≠ a → j ≠ a + 2 + 2 * (z).toNat → j ≠ a + 2 + 2 * (z).toNat + 1 → gy22 j = g j := fun j j1 j2 j3 => by rw [egy23, va_up_ne _ _ (by omega)]; rw [hfvy20 _ (by omega) (by omega)]
          have hGy27q : okWorld cs ad gy22 a := okWorld.two (by omega) hw hGy27f hGy27p (by omega) hgy24
          exact z_vret C hr hlk dX8_fallOn_123 (by decide) (by decide) ⟨rfl, rfl, rfl, hGy27q, fun j j1 => hGy27f j (by omega) (by omega) (by omega)⟩
        · refine z_aload C 1 dX8_fallOn_63 rfl ?_
          refine z_cV (As := []) (rest := []) (ci := 5) C (c_X3_joinLowest l D A cs tt N ad _ (a + 2 + 2 * (z).toNat) (by omega) _ _ _ (by omega) ⟨hpy5.1, hpy5.2⟩ (by omega) ) (by omega) hay3 hpy5.1 rfl rfl mv_yX3_joinLowest q_462 hd_yX3_joinLowest (by decide) (Nat.le_of_ble_eq_true rfl) (by decide) dX8_fallOn_65 rfl (kV0 fun gvy28 hvy28 => ?_)
          obtain ⟨⟨svy28, ovy28, rvy28, hsvy28, hpvy28⟩, hfvy28⟩ := hvy28
          refine z_iload C 0 dX8_fallOn_68 rfl ?_
          refine z_if_eq (tgt := 77) C dX8_fallOn_70 (by decide) (by omega) (fun _ => ?_) (fun h => absurd h (by omega))
          refine z_iload_n C 5 dX8_fallOn_77 rfl ?_
          refine z_istore (lv' := [(7, .int (zI (z2))), (6, .int (zI (0))), (5, .ref (ad (a + 2 + 2 * (z).toNat))), (0, .ref (ad a)), (1, .int (zI (z))), (2, .int (zI (z1))), (3, .int (zI (z2))), (4, .int (zI (z3)))]) C dX8_fallOn_78 (by decide) rfl ?_
          refine z_aload C 2 dX8_fallOn_80 rfl ?_
          refine z_iload C 1 dX8_fallOn_82 rfl ?_
          refine z_if_eq (tgt := 91) C dX8_fallOn_84 (by decide) (by omega) (fun _ => ?_) (fun h => absurd h (by omega))
          refine z_iconst (z := 0) C dX8_fallOn_91 rfl ?_
          refine z_iload C 0 dX8_fallOn_92 rfl ?_
          refine z_iconst (z := 0) C dX8_fallOn_94 rfl ?_
          refine z_bipush (z := 10) C dX8_fallOn_95 (by decide) ?_
          refine z_iload C 0 dX8_fallOn_97 rfl ?_
          refine z_imul C dX8_fallOn_99 ?_
          refine z_iload C 7 dX8_fallOn_100 rfl ?_
          refine z_iconst (z := 0) C dX8_fallOn_102 rfl ?_
          refine z_mmin C q_472 q_473 q_20 q_474 (by omega) (by omega) (by decide) (Nat.le_of_ble_eq_true rfl) (by decide) (by decide) dX8_fallOn_103 ?_
          obtain ⟨xy29, exy30, hxy31⟩ := mm_min (z3) (0)
          rw [exy30]
          refine z_aload_n C 3 dX8_fallOn_106 rfl ?_
          have hgy32 := (hfvy28 (a) (by omega) (by omega)).trans u1
          refine z_get (v := .int (zI (ut 1))) C (lt_A0 hN rfl) hay1 hgy32 rfl inA_X8 1 (by decide) q_176 rfl rfl dX8_fallOn_107 ?_
          obtain ⟨xy33, exy34, hxy35⟩ := zI_of (zI (ut 1))
          rw [exy34]
          obtain ⟨xy36, exy37, hxy38⟩ := zI_of (zI (10 * z2))
          rw [exy37]
          refine z_cV (As := [.int (zI (0)), .int (zI (z2)), .int (zI (0)), .int (zI (xy36)), .int (zI (xy29)), .int (zI (xy33))]) (rest := []) (ci := 5) C (c_X3_add l D A cs tt N ad _ (a + 2 + 2 * (z).toNat) (by omega) _ _ _ (by omega) ⟨hpvy28.1, hpvy28.2⟩  (0) (by omega) (z2) (by omega) (0) (by omega) (xy36) (by omega) (xy29) (by omega) (xy33) (by omega)) (by omega) hay3 hpvy28.1 rfl rfl mv_yX3_add q_475 hd_yX3_add (by decide) (Nat.le_of_ble_eq_true rfl) (by decide) dX8_fallOn_110 rfl (kV0 fun gvy39 hvy39 => ?_)
          obtain ⟨⟨svy39, ovy39, rvy39, hsvy39, hpvy39⟩, hfvy39⟩ := hvy39
          refine z_aload_n C 3 dX8_fallOn_113 rfl ?_
          refine z_dup C dX8_fallOn_114 rfl ?_
          have hgy40 := (hfvy39 (a) (by omega) (by omega)).trans hgy32
          refine z_get (v := .int (zI (ut 1))) C (lt_A0 hN rfl) hay1 hgy40 rfl inA_X8 1 (by decide) q_176 rfl rfl dX8_fallOn_115 ?_
          refine z_iconst (z := 1) C dX8_fallOn_118 rfl ?_
          refine z_iadd C dX8_fallOn_119 ?_
          refine z_put (fs' := [.int (zI (ut 0)), .int (zI ((ut 1) + 1)), .int (zI (ut 2)), .int (zI (ut 3)), .int (zI (ut 4)), .int (zI (ut 5)), .ref (ad (a + 1))]) C (lt_A0 hN rfl) hay1 hgy40 tyX8 tyX8_ok nmX8 rfl inA_X8 1 (by decide) q_176 rfl rfl rfl rfl (Nat.le_of_ble_eq_true rfl) rfl dX8_fallOn_120 (fun gy41 egy42 => ?_)
          have hgy43 := up_s egy42
          have hgy44 := up_n egy42 hpvy39.1 (by omega)
          have hgy45 := up_n egy42 hpvy39.2 (by omega)
          have hGy46p : okPack cs ad gy41 (a + 2 + 2 * (z).toNat) := ⟨_, _, _, by omega, hgy44, hgy45⟩
          have hGy46f : ∀ j, j ≠ a → j ≠ a + 2 + 2 * (z).toNat → j ≠ a + 2 + 2 * (z).toNat + 1 → gy41 j = g j := fun j j1 j2 j3 => by rw [egy42, va_up_ne _ _ (by omega)]; rw [hfvy39 _ (by omega) (by omega)]; rw [hfvy28 _ (by omega) (by omega)]
          have hGy46q : okWorld cs ad gy41 a := okWorld.two (by omega) hw hGy46f hGy46p (by omega) hgy43
          exact z_vret C hr hlk dX8_fallOn_123 (by decide) (by decide) ⟨rfl, rfl, rfl, hGy46q, fun j j1 => hGy46f j (by omega) (by omega) (by omega)⟩
      · have hGy47p : okPack cs ad g (a + 2 + 2 * (z).toNat) := ⟨_, _, _, by omega, hpy5.1, hpy5.2⟩
        have hGy47f : ∀ j, j ≠ a → j ≠ a + 2 + 2 * (z).toNat → j ≠ a + 2 + 2 * (z).toNat + 1 → g j = g j := fun j j1 j2 j3 => by rfl
        have hGy47q : okWorld cs ad g a := okWorld.two (by omega) hw hGy47f hGy47p (by omega) u1
        exact z_vret C hr hlk dX8_fallOn_52 (by decide) (by decide) ⟨rfl, rfl, rfl, hGy47q, fun j j1 => hGy47f j (by omega) (by omega) (by omega)⟩
    · refine z_iload C 5 dX8_fallOn_30 rfl ?_
      refine z_if_ge (tgt := 39) C dX8_fallOn_32 (by decide) (by omega) (fun hby48 => ?_) (fun hby48 => ?_)
      · refine z_iconst (z := 0) C dX8_fallOn_39 rfl ?_
        refine z_istore (lv' := [(6, .int (zI (0))), (5, .ref (ad (a + 2 + 2 * (z).toNat))), (0, .ref (ad a)), (1, .int (zI (z))), (2, .int (zI (z1))), (3, .int (zI (z2))), (4, .int (zI (z3)))]) C dX8_fallOn_40 (by decide) rfl ?_
        refine z_iload C 0 dX8_fallOn_42 rfl ?_
        refine z_if_ne (tgt := 53) C dX8_fallOn_44 (by decide) (by omega) (fun h => absurd h (by omega)) (fun _ => ?_)
        refine z_iload_n C 4 dX8_fallOn_47 rfl ?_
        refine z_iconst (z := 1) C dX8_fallOn_48 rfl ?_
        refine z_icmp_eq (tgt := 53) C dX8_fallOn_49 (by decide) (by omega) (by omega) (fun hby49 => ?_) (fun hby49 => ?_)
        · refine z_aload C 1 dX8_fallOn_53 rfl ?_
          refine z_get (v := .int (zI (uz (z).toNat))) C (by omega) hay3 hpy5.1 rfl inA_X3 0 (by decide) q_156 rfl rfl dX8_fallOn_55 ?_
          refine z_bipush (z := 12) C dX8_fallOn_58 (by decide) ?_
          refine z_icmp_ne (tgt := 68) C dX8_fallOn_60 (by decide) (by omega) (by omega) (fun hby50 => ?_) (fun hby50 => ?_)
          · refine z_iload C 0 dX8_fallOn_68 rfl ?_
            refine z_if_eq (tgt := 77) C dX8_fallOn_70 (by decide) (by omega) (fun _ => ?_) (fun h => absurd h (by omega))
            refine z_iload_n C 5 dX8_fallOn_77 rfl ?_
            refine z_istore (lv' := [(7, .int (zI (z2))), (6, .int (zI (0))), (5, .ref (ad (a + 2 + 2 * (z).toNat))), (0, .ref (ad a)), (1, .int (zI (z))), (2, .int (zI (z1))), (3, .int (zI (z2))), (4, .int (zI (z3)))]) C dX8_fallOn_78 (by decide) rfl ?_
            refine z_aload C 2 dX8_fallOn_80 rfl ?_
            refine z_iload C 1 dX8_fallOn_82 rfl ?_
            refine z_if_eq (tgt := 91) C dX8_fallOn_84 (by decide) (by omega) (fun _ => ?_) (fun h => absurd h (by omega))
            refine z_iconst (z := 0) C dX8_fallOn_91 rfl ?_
            refine z_iload C 0 dX8_fallOn_92 rfl ?_
            refine z_iconst (z := 0) C dX8_fallOn_94 rfl ?_
            refine z_bipush (z := 10) C dX8_fallOn_95 (by decide) ?_
            refine z_iload C 0 dX8_fallOn_97 rfl ?_
            refine z_imul C dX8_fallOn_99 ?_
            refine z_iload C 7 dX8_fallOn_100 rfl ?_
            refine z_iconst (z := 0) C dX8_fallOn_102 rfl ?_
            refine z_mmin C q_472 q_473 q_20 q_474 (by omega) (by omega) (by decide) (Nat.le_of_ble_eq_true rfl) (by decide) (by decide) dX8_fallOn_103 ?_
            obtain ⟨xy51, exy52, hxy53⟩ := mm_min (z3) (0)
            rw [exy52]
            refine z_aload_n C 3 dX8_fallOn_106 rfl ?_
            refine z_get (v := .int (zI (ut 1))) C (lt_A0 hN rfl) hay1 u1 rfl inA_X8 1 (by decide) q_176 rfl rfl dX8_fallOn_107 ?_
            obtain ⟨xy54, exy55, hxy56⟩ := zI_of (zI (ut 1))
            rw [exy55]
            obtain ⟨xy57, exy58, hxy59⟩ := zI_of (zI (10 * z2))
            rw [exy58]
            refine z_cV (As := [.int (zI (0)), .int (zI (z2)), .int (zI (0)), .int (zI (xy57)), .int (zI (xy51)), .int (zI (xy54))]) (rest := []) (ci := 5) C (c_X3_add l D A cs tt N ad _ (a + 2 + 2 * (z).toNat) (by omega) _ _ _ (by omega) ⟨hpy5.1, hpy5.2⟩  (0) (by omega) (z2) (by omega) (0) (by omega) (xy57) (by omega) (xy51) (by omega) (xy54) (by omega)) (by omega) hay3 hpy5.1 rfl rfl mv_yX3_add q_475 hd_yX3_add (by decide) (Nat.le_of_ble_eq_true rfl) (by decide) dX8_fallOn_110 rfl (kV0 fun gvy60 hvy60 => ?_)
            obtain ⟨⟨svy60, ovy60, rvy60, hsvy60, hpvy60⟩, hfvy60⟩ := hvy60
            refine z_aload_n C 3 dX8_fallOn_113 rfl ?_
            refine z_dup C dX8_fallOn_114 rfl ?_
            have hgy61 := (hfvy60 (a) (by omega) (by omega)).trans u1
            refine z_get (v := .int (zI (ut 1))) C (lt_A0 hN rfl) hay1 hgy61 rfl inA_X8 1 (by decide) q_176 rfl rfl dX8_fallOn_115 ?_
            refine z_iconst (z := 1) C dX8_fallOn_118 rfl ?_
            refine z_iadd C dX8_fallOn_119 ?_
            refine z_put (fs' := [.int (zI (ut 0)), .int (zI ((ut 1) + 1)), .int (zI (ut 2)), .int (zI (ut 3)), .int (zI (ut 4)), .int (zI (ut 5)), .ref (ad (a + 1))]) C (lt_A0 hN rfl) hay1 hgy61 tyX8 tyX8_ok nmX8 rfl inA_X8 1 (by decide) q_176 rfl rfl rfl rfl (Nat.le_of_ble_eq_true rfl) rfl dX8_fallOn_120 (fun gy62 egy63 => ?_)
            have hgy64 := up_s egy63
            have hgy65 := up_n egy63 hpvy60.1 (by omega)
            have hgy66 := up_n egy63 hpvy60.2 (by omega)
            have hGy67p : okPack cs ad gy62 (a + 2 + 2 * (z).toNat) := ⟨_, _, _, by omega, hgy65, hgy66⟩
            have hGy67f : ∀ j, j ≠ a → j ≠ a + 2 + 2 * (z).toNat → j ≠ a + 2 + 2 * (z).toNat + 1 → gy62 j = g j := fun j j1 j2 j3 => by rw [egy63, va_up_ne _ _ (by omega)]; rw [hfvy60 _ (by omega) (by omega)]
            have hGy67q : okWorld cs ad gy62 a := okWorld.two (by omega) hw hGy67f hGy67p (by omega) hgy64
            exact z_vret C hr hlk dX8_fallOn_123 (by decide) (by decide) ⟨rfl, rfl, rfl, hGy67q, fun j j1 => hGy67f j (by omega) (by omega) (by omega)⟩
          · refine z_aload C 1 dX8_fallOn_63 rfl ?_
            refine z_cV (As := []) (rest := []) (ci := 5) C (c_X3_joinLowest l D A cs tt N ad _ (a + 2 + 2 * (z).toNat) (by omega) _ _ _ (by omega) ⟨hpy5.1, hpy5.2⟩ (by omega) ) (by omega) hay3 hpy5.1 rfl rfl mv_yX3_joinLowest q_462 hd_yX3_joinLowest (by decide) (Nat.le_of_ble_eq_true rfl) (by decide) dX8_fallOn_65 rfl (kV0 fun gvy68 hvy68 => ?_)
            obtain ⟨⟨svy68, ovy68, rvy68, hsvy68, hpvy68⟩, hfvy68⟩ := hvy68
            refine z_iload C 0 dX8_fallOn_68 rfl ?_
            refine z_if_eq (tgt := 77) C dX8_fallOn_70 (by decide) (by omega) (fun _ => ?_) (fun h => absurd h (by omega))
            refine z_iload_n C 5 dX8_fallOn_77 rfl ?_
            refine z_istore (lv' := [(7, .int (zI (z2))), (6, .int (zI (0))), (5, .ref (ad (a + 2 + 2 * (z).toNat))), (0, .ref (ad a)), (1, .int (zI (z))), (2, .int (zI (z1))), (3, .int (zI (z2))), (4, .int (zI (z3)))]) C dX8_fallOn_78 (by decide) rfl ?_
            refine z_aload C 2 dX8_fallOn_80 rfl ?_
            refine z_iload C 1 dX8_fallOn_82 rfl ?_
            refine z_if_eq (tgt := 91) C dX8_fallOn_84 (by decide) (by omega) (fun _ => ?_) (fun h => absurd h (by omega))
            refine z_iconst (z := 0) C dX8_fallOn_91 rfl ?_
            refine z_iload C 0 dX8_fallOn_92 rfl ?_
            refine z_iconst (z := 0) C dX8_fallOn_94 rfl ?_
            refine z_bipush (z := 10) C dX8_fallOn_95 (by decide) ?_
            refine z_iload C 0 dX8_fallOn_97 rfl ?_
            refine z_imul C dX8_fallOn_99 ?_
            refine z_iload C 7 dX8_fallOn_100 rfl ?_
            refine z_iconst (z := 0) C dX8_fallOn_102 rfl ?_
            refine z_mmin C q_472 q_473 q_20 q_474 (by omega) (by omega) (by decide) (Nat.le_of_ble_eq_true rfl) (by decide) (by decide) dX8_fallOn_103 ?_
            obtain ⟨xy69, exy70, hxy71⟩ := mm_min (z3) (0)
            rw [exy70]
            refine z_aload_n C 3 dX8_fallOn_106 rfl ?_
            have hgy72 := (hfvy68 (a) (by omega) (by omega)).trans u1
            refine z_get (v := .int (zI (ut 1))) C (lt_A0 hN rfl) hay1 hgy72 rfl inA_X8 1 (by decide) q_176 rfl rfl dX8_fallOn_107 ?_
            obtain ⟨xy73, exy74, hxy75⟩ := zI_of (zI (ut 1))
            rw [exy74]
            obtain ⟨xy76, exy77, hxy78⟩ := zI_of (zI (10 * z2))
            rw [exy77]
            refine z_cV (As := [.int (zI (0)), .int (zI (z2)), .int (zI (0)), .int (zI (xy76)), .int (zI (xy69)), .int (zI (xy73))]) (rest := []) (ci := 5) C (c_X3_add l D A cs tt N ad _ (a + 2 + 2 * (z).toNat) (by omega) _ _ _ (by omega) ⟨hpvy68.1, hpvy68.2⟩  (0) (by omega) (z2) (by omega) (0) (by omega) (xy76) (by omega) (xy69) (by omega) (xy73) (by omega)) (by omega) hay3 hpvy68.1 rfl rfl mv_yX3_add q_475 hd_yX3_add (by decide) (Nat.le_of_ble_eq_true rfl) (by decide) dX8_fallOn_110 rfl (kV0 fun gvy79 hvy79 => ?_)
            obtain ⟨⟨svy79, ovy79, rvy79, hsvy79, hpvy79⟩, hfvy79⟩ := hvy79
            refine z_aload_n C 3 dX8_fallOn_113 rfl ?_
            refine z_dup C dX8_fallOn_114 rfl ?_
            have hgy80 := (hfvy79 (a) (by omega) (by omega)).trans hgy72
            refine z_get (v := .int (zI (ut 1))) C (lt_A0 hN rfl) hay1 hgy80 rfl inA_X8 1 (by decide) q_176 rfl rfl dX8_fallOn_115 ?_
            refine z_iconst (z := 1) C dX8_fallOn_118 rfl ?_
            refine z_iadd C dX8_fallOn_119 ?_
            refine z_put (fs' := [.int (zI (ut 0)), .int (zI ((ut 1) + 1)), .int (zI (ut 2)), .int (zI (ut 3)), .int (zI (ut 4)), .int (zI (ut 5)), .ref (ad (a + 1))]) C (lt_A0 hN rfl) hay1 hgy80 tyX8 tyX8_ok nmX8 rfl inA_X8 1 (by decide) q_176 rfl rfl rfl rfl (Nat.le_of_ble_eq_true rfl) rfl dX8_fallOn_120 (fun gy81 egy82 => ?_)
            have hgy83 := up_s egy82
            have hgy84 := up_n egy82 hpvy79.1 (by omega)
            have hgy85 := up_n egy82 hpvy79.2 (by omega)
            have hGy86p : okPack cs ad gy81 (a + 2 + 2 * (z).toNat) := ⟨_, _, _, by omega, hgy84, hgy85⟩
            have hGy86f : ∀ j, j ≠ a → j ≠ a + 2 + 2 * (z).toNat → j ≠ a + 2 + 2 * (z).toNat + 1 → gy81 j = g j := fun j j1 j2 j3 => by rw [egy82, va_up_ne _ _ (by omega)]; rw [hfvy79 _ (by omega) (by omega)]; rw [hfvy68 _ (by omega) (by omega)]
            have hGy86q : okWorld cs ad gy81 a := okWorld.two (by omega) hw hGy86f hGy86p (by omega) hgy83
            exact z_vret C hr hlk dX8_fallOn_123 (by decide) (by decide) ⟨rfl, rfl, rfl, hGy86q, fun j j1 => hGy86f j (by omega) (by omega) (by omega)⟩
        · have hGy87p : okPack cs ad g (a + 2 + 2 * (z).toNat) := ⟨_, _, _, by omega, hpy5.1, hpy5.2⟩
          have hGy87f : ∀ j, j ≠ a → j ≠ a + 2 + 2 * (z).toNat → j ≠ a + 2 + 2 * (z).toNat + 1 → g j = g j := fun j j1 j2 j3 => by rfl
          have hGy87q : okWorld cs ad g a := okWorld.two (by omega) hw hGy87f hGy87p (by omega) u1
          exact z_vret C hr hlk dX8_fallOn_52 (by decide) (by decide) ⟨rfl, rfl, rfl, hGy87q, fun j j1 => hGy87f j (by omega) (by omega) (by omega)⟩
      · refine z_iconst (z := 1) C dX8_fallOn_35 rfl ?_
        refine z_goto (tgt := 40) C dX8_fallOn_36 (by decide) ?_
        refine z_istore (lv' := [(6, .int (zI (1))), (5, .ref (ad (a + 2 + 2 * (z).toNat))), (0, .ref (ad a)), (1, .int (zI (z))), (2, .int (zI (z1))), (3, .int (zI (z2))), (4, .int (zI (z3)))]) C dX8_fallOn_40 (by decide) rfl ?_
        refine z_iload C 0 dX8_fallOn_42 rfl ?_
        refine z_if_ne (tgt := 53) C dX8_fallOn_44 (by decide) (by omega) (fun _ => ?_) (fun h => absurd h (by omega))
        refine z_aload C 1 dX8_fallOn_53 rfl ?_
        refine z_get (v := .int (zI (uz (z).toNat))) C (by omega) hay3 hpy5.1 rfl inA_X3 0 (by decide) q_156 rfl rfl dX8_fallOn_55 ?_
        refine z_bipush (z := 12) C dX8_fallOn_58 (by decide) ?_
        refine z_icmp_ne (tgt := 68) C dX8_fallOn_60 (by decide) (by omega) (by omega) (fun hby88 => ?_) (fun hby88 => ?_)
        · refine z_iload C 0 dX8_fallOn_68 rfl ?_
          refine z_if_eq (tgt := 77) C dX8_fallOn_70 (by decide) (by omega) (fun h => absurd h (by omega)) (fun _ => ?_)
          refine z_iconst (z := 1) C dX8_fallOn_73 rfl ?_
          refine z_goto (tgt := 78) C dX8_fallOn_74 (by decide) ?_
          refine z_istore (lv' := [(7, .int (zI (1))), (6, .int (zI (1))), (5, .ref (ad (a + 2 + 2 * (z).toNat))), (0, .ref (ad a)), (1, .int (zI (z))), (2, .int (zI (z1))), (3, .int (zI (z2))), (4, .int (zI (z3)))]) C dX8_fallOn_78 (by decide) rfl ?_
          refine z_aload C 2 dX8_fallOn_80 rfl ?_
          refine z_iload C 1 dX8_fallOn_82 rfl ?_
          refine z_if_eq (tgt := 91) C dX8_fallOn_84 (by decide) (by omega) (fun h => absurd h (by omega)) (fun _ => ?_)
          refine z_iconst (z := 4) C dX8_fallOn_87 rfl ?_
          refine z_goto (tgt := 92) C dX8_fallOn_88 (by decide) ?_
          refine z_iload C 0 dX8_fallOn_92 rfl ?_
          refine z_iconst (z := 0) C dX8_fallOn_94 rfl ?_
          refine z_bipush (z := 10) C dX8_fallOn_95 (by decide) ?_
          refine z_iload C 0 dX8_fallOn_97 rfl ?_
          refine z_imul C dX8_fallOn_99 ?_
          refine z_iload C 7 dX8_fallOn_100 rfl ?_
          refine z_iconst (z := 0) C dX8_fallOn_102 rfl ?_
          refine z_mmin C q_472 q_473 q_20 q_474 (by omega) (by omega) (by decide) (Nat.le_of_ble_eq_true rfl) (by decide) (by decide) dX8_fallOn_103 ?_
          obtain ⟨xy89, exy90, hxy91⟩ := mm_min (z3) (0)
          rw [exy90]
          refine z_aload_n C 3 dX8_fallOn_106 rfl ?_
          refine z_get (v := .int (zI (ut 1))) C (lt_A0 hN rfl) hay1 u1 rfl inA_X8 1 (by decide) q_176 rfl rfl dX8_fallOn_107 ?_
          obtain ⟨xy92, exy93, hxy94⟩ := zI_of (zI (ut 1))
          rw [exy93]
          refine z_cV (As := [.int (zI (4)), .int (zI (1)), .int (zI (0)), .int (zI (10 * 1)), .int (zI (xy89)), .int (zI (xy92))]) (rest := []) (ci := 5) C (c_X3_add l D A cs tt N ad _ (a + 2 + 2 * (z).toNat) (by omega) _ _ _ (by omega) ⟨hpy5.1, hpy5.2⟩  (4) (by omega) (1) (by omega) (0) (by omega) (10 * 1) (by omega) (xy89) (by omega) (xy92) (by omega)) (by omega) hay3 hpy5.1 rfl rfl mv_yX3_add q_475 hd_yX3_add (by decide) (Nat.le_of_ble_eq_true rfl) (by decide) dX8_fallOn_110 rfl (kV0 fun gvy95 hvy95 => ?_)
          obtain ⟨⟨svy95, ovy95, rvy95, hsvy95, hpvy95⟩, hfvy95⟩ := hvy95
          refine z_aload_n C 3 dX8_fallOn_113 rfl ?_
          refine z_dup C dX8_fallOn_114 rfl ?_
          have hgy96 := (hfvy95 (a) (by omega) (by omega)).trans u1
          refine z_get (v := .int (zI (ut 1))) C (lt_A0 hN rfl) hay1 hgy96 rfl inA_X8 1 (by decide) q_176 rfl rfl dX8_fallOn_115 ?_
          refine z_iconst (z := 1) C dX8_fallOn_118 rfl ?_
          refine z_iadd C dX8_fallOn_119 ?_
          refine z_put (fs' := [.int (zI (ut 0)), .int (zI ((ut 1) + 1)), .int (zI (ut 2)), .int (zI (ut 3)), .int (zI (ut 4)), .int (zI (ut 5)), .ref (ad (a + 1))]) C (lt_A0 hN rfl) hay1 hgy96 tyX8 tyX8_ok nmX8 rfl inA_X8 1 (by decide) q_176 rfl rfl rfl rfl (Nat.le_of_ble_eq_true rfl) rfl dX8_fallOn_120 (fun gy97 egy98 => ?_)
          have hgy99 := up_s egy98
          have hgy100 := up_n egy98 hpvy95.1 (by omega)
          have hgy101 := up_n egy98 hpvy95.2 (by omega)
          have hGy102p : okPack cs ad gy97 (a + 2 + 2 * (z).toNat) := ⟨_, _, _, by omega, hgy100, hgy101⟩
          have hGy102f : ∀ j, j ≠ a → j ≠ a + 2 + 2 * (z).toNat → j ≠ a + 2 + 2 * (z).toNat + 1 → gy97 j = g j := fun j j1 j2 j3 => by rw [egy98, va_up_ne _ _ (by omega)]; rw [hfvy95 _ (by omega) (by omega)]
          have hGy102q : okWorld cs ad gy97 a := okWorld.two (by omega) hw hGy102f hGy102p (by omega) hgy99
          exact z_vret C hr hlk dX8_fallOn_123 (by decide) (by decide) ⟨rfl, rfl, rfl, hGy102q, fun j j1 => hGy102f j (by omega) (by omega) (by omega)⟩
        · refine z_aload C 1 dX8_fallOn_63 rfl ?_
          refine z_cV (As := []) (rest := []) (ci := 5) C (c_X3_joinLowest l D A cs tt N ad _ (a + 2 + 2 * (z).toNat) (by omega) _ _ _ (by omega) ⟨hpy5.1, hpy5.2⟩ (by omega) ) (by omega) hay3 hpy5.1 rfl rfl mv_yX3_joinLowest q_462 hd_yX3_joinLowest (by decide) (Nat.le_of_ble_eq_true rfl) (by decide) dX8_fallOn_65 rfl (kV0 fun gvy103 hvy103 => ?_)
          obtain ⟨⟨svy103, ovy103, rvy103, hsvy103, hpvy103⟩, hfvy103⟩ := hvy103
          refine z_iload C 0 dX8_fallOn_68 rfl ?_
          refine z_if_eq (tgt := 77) C dX8_fallOn_70 (by decide) (by omega) (fun h => absurd h (by omega)) (fun _ => ?_)
          refine z_iconst (z := 1) C dX8_fallOn_73 rfl ?_
          refine z_goto (tgt := 78) C dX8_fallOn_74 (by decide) ?_
          refine z_istore (lv' := [(7, .int (zI (1))), (6, .int (zI (1))), (5, .ref (ad (a + 2 + 2 * (z).toNat))), (0, .ref (ad a)), (1, .int (zI (z))), (2, .int (zI (z1))), (3, .int (zI (z2))), (4, .int (zI (z3)))]) C dX8_fallOn_78 (by decide) rfl ?_
          refine z_aload C 2 dX8_fallOn_80 rfl ?_
          refine z_iload C 1 dX8_fallOn_82 rfl ?_
          refine z_if_eq (tgt := 91) C dX8_fallOn_84 (by decide) (by omega) (fun h => absurd h (by omega)) (fun _ => ?_)
          refine z_iconst (z := 4) C dX8_fallOn_87 rfl ?_
          refine z_goto (tgt := 92) C dX8_fallOn_88 (by decide) ?_
          refine z_iload C 0 dX8_fallOn_92 rfl ?_
          refine z_iconst (z := 0) C dX8_fallOn_94 rfl ?_
          refine z_bipush (z := 10) C dX8_fallOn_95 (by decide) ?_
          refine z_iload C 0 dX8_fallOn_97 rfl ?_
          refine z_imul C dX8_fallOn_99 ?_
          refine z_iload C 7 dX8_fallOn_100 rfl ?_
          refine z_iconst (z := 0) C dX8_fallOn_102 rfl ?_
          refine z_mmin C q_472 q_473 q_20 q_474 (by omega) (by omega) (by decide) (Nat.le_of_ble_eq_true rfl) (by decide) (by decide) dX8_fallOn_103 ?_
          obtain ⟨xy104, exy105, hxy106⟩ := mm_min (z3) (0)
          rw [exy105]
          refine z_aload_n C 3 dX8_fallOn_106 rfl ?_
          have hgy107 := (hfvy103 (a) (by omega) (by omega)).trans u1
          refine z_get (v := .int (zI (ut 1))) C (lt_A0 hN rfl) hay1 hgy107 rfl inA_X8 1 (by decide) q_176 rfl rfl dX8_fallOn_107 ?_
          obtain ⟨xy108, exy109, hxy110⟩ := zI_of (zI (ut 1))
          rw [exy109]
          refine z_cV (As := [.int (zI (4)), .int (zI (1)), .int (zI (0)), .int (zI (10 * 1)), .int (zI (xy104)), .int (zI (xy108))]) (rest := []) (ci := 5) C (c_X3_add l D A cs tt N ad _ (a + 2 + 2 * (z).toNat) (by omega) _ _ _ (by omega) ⟨hpvy103.1, hpvy103.2⟩  (4) (by omega) (1) (by omega) (0) (by omega) (10 * 1) (by omega) (xy104) (by omega) (xy108) (by omega)) (by omega) hay3 hpvy103.1 rfl rfl mv_yX3_add q_475 hd_yX3_add (by decide) (Nat.le_of_ble_eq_true rfl) (by decide) dX8_fallOn_110 rfl (kV0 fun gvy111 hvy111 => ?_)
          obtain ⟨⟨svy111, ovy111, rvy111, hsvy111, hpvy111⟩, hfvy111⟩ := hvy111
          refine z_aload_n C 3 dX8_fallOn_113 rfl ?_
          refine z_dup C dX8_fallOn_114 rfl ?_
          have hgy112 := (hfvy111 (a) (by omega) (by omega)).trans hgy107
          refine z_get (v := .int (zI (ut 1))) C (lt_A0 hN rfl) hay1 hgy112 rfl inA_X8 1 (by decide) q_176 rfl rfl dX8_fallOn_115 ?_
          refine z_iconst (z := 1) C dX8_fallOn_118 rfl ?_
          refine z_iadd C dX8_fallOn_119 ?_
          refine z_put (fs' := [.int (zI (ut 0)), .int (zI ((ut 1) + 1)), .int (zI (ut 2)), .int (zI (ut 3)), .int (zI (ut 4)), .int (zI (ut 5)), .ref (ad (a + 1))]) C (lt_A0 hN rfl) hay1 hgy112 tyX8 tyX8_ok nmX8 rfl inA_X8 1 (by decide) q_176 rfl rfl rfl rfl (Nat.le_of_ble_eq_true rfl) rfl dX8_fallOn_120 (fun gy113 egy114 => ?_)
          have hgy115 := up_s egy114
          have hgy116 := up_n egy114 hpvy111.1 (by omega)
          have hgy117 := up_n egy114 hpvy111.2 (by omega)
          have hGy118p : okPack cs ad gy113 (a + 2 + 2 * (z).toNat) := ⟨_, _, _, by omega, hgy116, hgy117⟩
          have hGy118f : ∀ j, j ≠ a → j ≠ a + 2 + 2 * (z).toNat → j ≠ a + 2 + 2 * (z).toNat + 1 → gy113 j = g j := fun j j1 j2 j3 => by rw [egy114, va_up_ne _ _ (by omega)]; rw [hfvy111 _ (by omega) (by omega)]; rw [hfvy103 _ (by omega) (by omega)]
          have hGy118q : okWorld cs ad gy113 a := okWorld.two (by omega) hw hGy118f hGy118p (by omega) hgy115
          exact z_vret C hr hlk dX8_fallOn_123 (by decide) (by decide) ⟨rfl, rfl, rfl, hGy118q, fun j j1 => hGy118f j (by omega) (by omega) (by omega)⟩
  · refine z_aload C 0 dX8_fallOn_13 rfl ?_
    refine z_aload C 0 dX8_fallOn_15 rfl ?_
    refine z_get (v := .int (zI (uz (z).toNat))) C (by omega) hay3 hpy5.1 rfl inA_X3 0 (by decide) q_156 rfl rfl dX8_fallOn_17 ?_
    refine z_iload_n C 4 dX8_fallOn_20 rfl ?_
    refine z_cV (As := [.int (zI (uz (z).toNat)), .int (zI (z2))]) (rest := []) (ci := 5) C (c_X3_wet l D A cs tt N ad _ (a + 2 + 2 * (z).toNat) (by omega) _ _ _ (by omega) ⟨hpy5.1, hpy5.2⟩  (uz (z).toNat) (by omega) (z2) (by omega)) (by omega) hay3 hpy5.1 rfl rfl mv_yX3_wet q_458 hd_yX3_wet (by decide) (Nat.le_of_ble_eq_true rfl) (by decide) dX8_fallOn_21 rfl (kV0 fun gvy119 hvy119 => ?_)
    obtain ⟨⟨svy119, ovy119, rvy119, hsvy119, hpvy119⟩, hfvy119⟩ := hvy119
    have hgy120 := (hfvy119 (a) (by omega) (by omega)).trans u1
    have hGy121p : okPack cs ad gvy119 (a + 2 + 2 * (z).toNat) := ⟨_, _, _, by omega, hpvy119.1, hpvy119.2⟩
    have hGy121f : ∀ j, j ≠ a → j ≠ a + 2 + 2 * (z).toNat → j ≠ a + 2 + 2 * (z).toNat + 1 → gvy119 j = g j := fun j j1 j2 j3 => by rw [hfvy119 _ (by omega) (by omega)]
    have hGy121q : okWorld cs ad gvy119 a := okWorld.two (by omega) hw hGy121f hGy121p (by omega) hgy120
    exact z_vret C hr hlk dX8_fallOn_24 (by decide) (by decide) ⟨rfl, rfl, rfl, hGy121q, fun j j1 => hGy121f j (by omega) (by omega) (by omega)⟩

set_option maxRecDepth 100000 in
set_option maxHeartbeats 4000000 in
theorem c_X8_digOn (l : Launch) (D : va_G) (A : Nat → Prop) (cs : Nat → ClassId) (tt : Nat) (N : Nat) (ad : Nat → Nat) (g : Nat → va_E) (a : Nat) (hN : a + 10 ≤ N) (hw : okWorld cs ad g a) (z : Int) (hzs : 0 ≤ z ∧ z ≤ 3) : zM l yX8_digOn cX8_digOn 3 (some .int) ({ frames := 2, cells := 0, slots := 0, locals := 120 } : Room) D A cs tt N ad g [.ref (ad a), .int (zI (z))] (rI0 N ad fun r g' => (-2147483648 ≤ r ∧ r ≤ 2147483647) ∧ okWorld cs ad g' a ∧ ∀ j, j < a ∨ a + 10 ≤ j → g' j = g j) := by
  obtain ⟨ut, uz, uo, ur, uz4, ut5, u1, ⟨uu, u2, u3⟩, u4⟩ := id hw
  have hay1 : zAt ad (a) (ad a) := rfl
  have hay2 : zAt ad (a + 1) (ad (a + 1)) := rfl
  refine z_of (by decide) (Nat.le_of_ble_eq_true rfl) ?_
  intro p e s m below meth c C hr hlk hnm
  refine z_lv (lv' := [(0, .ref (ad a)), (1, .int (zI (z)))]) [0, 1] rfl ?_
  refine z_aload_n C 0 dX8_digOn_0 rfl ?_
  refine z_get (v := .ref (ad (a + 1))) C (lt_A0 hN rfl) hay1 u1 rfl inA_X8 6 (by decide) q_188 rfl rfl dX8_digOn_1 ?_
  refine z_iload_n C 1 dX8_digOn_4 rfl ?_
  refine z_aald C (lt_A (c := 1) hN rfl) hay2 u2 3 rfl ((z).toNat) (by omega) (by omega) (by decide) (u3 (z).toNat (by omega)) dX8_digOn_5 ?_
  have hay3 : zAt ad (a + 2 + 2 * (z).toNat) (ad (a + 2 + 2 * (z).toNat)) := rfl
  have hay4 : zAt ad (a + 2 + 2 * (z).toNat + 1) (ad (a + 2 + 2 * (z).toNat + 1)) := rfl
  have hpy5 := u4 (z).toNat (by omega)
  have hqy6 := uz4 (z).toNat (by omega)
  refine z_astore_n (lv' := [(2, .ref (ad (a + 2 + 2 * (z).toNat))), (0, .ref (ad a)), (1, .int (zI (z)))]) C dX8_digOn_6 rfl (by decide) rfl ?_
  refine z_aload_n C 0 dX8_digOn_7 rfl ?_
  refine z_get (v := .int (zI (uz (z).toNat))) C (by omega) hay3 hpy5.1 rfl inA_X3 0 (by decide) q_156 rfl rfl dX8_digOn_8 ?_
  refine z_if_ne (tgt := 16) C dX8_digOn_11 (by decide) (by omega) (fun hby7 => ?_) (fun hby7 => ?_)
  · refine z_aload_n C 0 dX8_digOn_16 rfl ?_
    refine z_dup C dX8_digOn_17 rfl ?_
    refine z_get (v := .int (zI (uz (z).toNat))) C (by omega) hay3 hpy5.1 rfl inA_X3 0 (by decide) q_156 rfl rfl dX8_digOn_18 ?_
    refine z_iconst (z := 1) C dX8_digOn_21 rfl ?_
    refine z_isub C dX8_digOn_22 ?_
    refine z_put (fs' := [.int (zI ((uz (z).toNat) - 1)), .int (zI (uo (z).toNat)), .ref (ad (a + 2 + 2 * (z).toNat + 1))]) C (by omega) hay3 hpy5.1 tyX3 tyX3_ok nmX3 rfl inA_X3 0 (by decide) q_156 rfl rfl rfl rfl (Nat.le_of_ble_eq_true rfl) rfl dX8_digOn_23 (fun gy8 egy9 => ?_)
    have hgy10 := up_s egy9
    refine z_aload_n C 1 dX8_digOn_26 rfl ?_
    refine z_dup C dX8_digOn_27 rfl ?_
    have hgy11 := up_n egy9 u1 (by omega)
    refine z_get (v := .int (zI (ut 2))) C (lt_A0 hN rfl) hay1 hgy11 rfl inA_X8 2 (by decide) q_179 rfl rfl dX8_digOn_28 ?_
    refine z_aload_n C 0 dX8_digOn_31 rfl ?_
    refine z_aload_n C 0 dX8_digOn_32 rfl ?_
    refine z_get (v := .int (zI ((uz (z).toNat) - 1))) C (by omega) hay3 hgy10 rfl inA_X3 0 (by decide) q_156 rfl rfl dX8_digOn_33 ?_
    have hgy13 := up_n egy9 hpy5.2 (ne_o (i := a + 2 + 2 * (z).toNat) (c := 1) (d := 0) rfl)
    refine z_cV (As := [.int (zI ((uz (z).toNat) - 1))]) (rest := [.int (zI (ut 2)), .ref (ad a)]) (ci := 5) C (c_X3_mass l D A cs tt N ad _ (a + 2 + 2 * (z).toNat) (by omega) _ _ _ (by omega) ⟨hgy10, hgy13⟩  ((uz (z).toNat) - 1) (by omega)) (by omega) hay3 hgy10 rfl rfl mv_yX3_mass q_555 hd_yX3_mass (by decide) (Nat.le_of_ble_eq_true rfl) (by decide) dX8_digOn_36 rfl (kI0 fun vy12 gvy12 hvy12 => ?_)
    obtain ⟨hvy12, rfl⟩ := hvy12
    refine z_iadd C dX8_digOn_39 ?_
    refine z_put (fs' := [.int (zI (ut 0)), .int (zI (ut 1)), .int (zI ((ut 2) + vy12)), .int (zI (ut 3)), .int (zI (ut 4)), .int (zI (ut 5)), .ref (ad (a + 1))]) C (lt_A0 hN rfl) hay1 hgy11 tyX8 tyX8_ok nmX8 rfl inA_X8 2 (by decide) q_179 rfl rfl rfl rfl (Nat.le_of_ble_eq_true rfl) rfl dX8_digOn_40 (fun gy14 egy15 => ?_)
    have hgy16 := up_s egy15
    refine z_aload_n C 0 dX8_digOn_43 rfl ?_
    have hgy17 := up_n egy15 hgy10 (by omega)
    refine z_get (v := .ref (ad (a + 2 + 2 * (z).toNat + 1))) C (by omega) hay3 hgy17 rfl inA_X3 2 (by decide) q_165 rfl rfl dX8_digOn_44 ?_
    refine z_bipush (z := 72) C dX8_digOn_47 (by decide) ?_
    refine z_aload_n C 0 dX8_digOn_49 rfl ?_
    refine z_get (v := .int (zI ((uz (z).toNat) - 1))) C (by omega) hay3 hgy17 rfl inA_X3 0 (by decide) q_156 rfl rfl dX8_digOn_50 ?_
    refine z_iadd C dX8_digOn_53 ?_
    have hgy18 := up_n egy15 hgy13 (by omega)
    refine z_iald C (by omega) hay4 hgy18 ((72 + ((uz (z).toNat) - 1)).toNat) (by omega) (by omega) (by decide) dX8_digOn_54 ?_
    obtain ⟨xy19, exy20, hxy21⟩ := zI_of (zI ((ur (z).toNat) ((72 + ((uz (z).toNat) - 1)).toNat)))
    rw [exy20]
    have hGy22p : okPack cs ad gy14 (a + 2 + 2 * (z).toNat) := ⟨_, _, _, by omega, hgy17, hgy18⟩
    have hGy22f : ∀ j, j ≠ a → j ≠ a + 2 + 2 * (z).toNat → j ≠ a + 2 + 2 * (z).toNat + 1 → gy14 j = g j := fun j j1 j2 j3 => by rw [egy15, va_up_ne _ _ (by omega)]; rw [egy9, va_up_ne _ _ (by omega)]
    have hGy22q : okWorld cs ad gy14 a := okWorld.two (by omega) hw hGy22f hGy22p (by omega) hgy16
    exact z_iret C hr hlk dX8_digOn_55 (by decide) (by decide) ⟨xy19, rfl, rfl, rfl, by omega, hGy22q, fun j j1 => hGy22f j (by omega) (by omega) (by omega)⟩
  · refine z_iconst (z := -1) C dX8_digOn_14 rfl ?_
    have hGy23p : okPack cs ad g (a + 2 + 2 * (z).toNat) := ⟨_, _, _, by omega, hpy5.1, hpy5.2⟩
    have hGy23f : ∀ j, j ≠ a → j ≠ a + 2 + 2 * (z).toNat → j ≠ a + 2 + 2 * (z).toNat + 1 → g j = g j := fun j j1 j2 j3 => by rfl
    have hGy23q : okWorld cs ad g a := okWorld.two (by omega) hw hGy23f hGy23p (by omega) u1
    exact z_iret C hr hlk dX8_digOn_15 (by decide) (by decide) ⟨-1, rfl, rfl, rfl, by omega, hGy23q, fun j j1 => hGy23f j (by omega) (by omega) (by omega)⟩

set_option maxRecDepth 100000 in
set_option maxHeartbeats 4000000 in
theorem c_X8_slideOn (l : Launch) (D : va_G) (A : Nat → Prop) (cs : Nat → ClassId) (tt : Nat) (N : Nat) (ad : Nat → Nat) (g : Nat → va_E) (a : Nat) (hN : a + 10 ≤ N) (hw : okWorld cs ad g a) (z : Int) (hzs : 0 ≤ z ∧ z ≤ 3) (b : Nat) (hNb : b + 7 ≤ N) (sl ho ua : Int) (st op ai fa mu tb : Nat → Int) (hb : isPlan cs ad g b sl ho ua st op ai fa mu tb) (hab : b + 7 ≤ a ∨ a + 10 ≤ b) : zM l yX8_slideOn cX8_slideOn 6 (some .int) ({ frames := 5, cells := 0, slots := 0, locals := 300 } : Room) D A cs tt N ad g [.ref (ad a), .int (zI (z)), .ref (ad b)] (rI0 N ad fun r g' => (-2147483648 ≤ r ∧ r ≤ 2147483647) ∧ okWorld cs ad g' a ∧ ∀ j, j < a ∨ a + 10 ≤ j → g' j = g j) := by
  obtain ⟨ut, uz, uo, ur, uz4, ut5, u1, ⟨uu, u2, u3⟩, u4⟩ := id hw
  have hay1 : zAt ad (a) (ad a) := rfl
  have hay2 : zAt ad (a + 1) (ad (a + 1)) := rfl
  have hay3 : zAt ad (b) (ad b) := rfl
  have hay4 : zAt ad (b + 1) (ad (b + 1)) := rfl
  have hay5 : zAt ad (b + 2) (ad (b + 2)) := rfl
  have hay6 : zAt ad (b + 3) (ad (b + 3)) := rfl
  have hay7 : zAt ad (b + 4) (ad (b + 4)) := rfl
  have hay8 : zAt ad (b + 5) (ad (b + 5)) := rfl
  have hay9 : zAt ad (b + 6) (ad (b + 6)) := rfl
  refine z_of (by decide) (Nat.le_of_ble_eq_true rfl) ?_
  intro p e s m below meth c C hr hlk hnm
  refine z_lv (lv' := [(0, .ref (ad a)), (1, .int (zI (z))), (2, .ref (ad b))]) [0, 1, 2] rfl ?_
  refine z_aload_n C 0 dX8_slideOn_0 rfl ?_
  refine z_get (v := .ref (ad (a + 1))) C (lt_A0 hN rfl) hay1 u1 rfl inA_X8 6 (by decide) q_188 rfl rfl dX8_slideOn_1 ?_
  refine z_iload_n C 1 dX8_slideOn_4 rfl ?_
  refine z_aald C (lt_A (c := 1) hN rfl) hay2 u2 3 rfl ((z).toNat) (by omega) (by omega) (by decide) (u3 (z).toNat (by omega)) dX8_slideOn_5 ?_
  have hay10 : zAt ad (a + 2 + 2 * (z).toNat) (ad (a + 2 + 2 * (z).toNat)) := rfl
  have hay11 : zAt ad (a + 2 + 2 * (z).toNat + 1) (ad (a + 2 + 2 * (z).toNat + 1)) := rfl
  have hpy12 := u4 (z).toNat (by omega)
  have hqy13 := uz4 (z).toNat (by omega)
  refine z_astore_n (lv' := [(3, .ref (ad (a + 2 + 2 * (z).toNat))), (0, .ref (ad a)), (1, .int (zI (z))), (2, .ref (ad b))]) C dX8_slideOn_6 rfl (by decide) rfl ?_
  refine z_aload_n C 0 dX8_slideOn_7 rfl ?_
  refine z_aload_n C 3 dX8_slideOn_8 rfl ?_
  refine z_get (v := .ref (ad (b + 1))) C (by omega) hay3 hb.1 rfl inA_X5 3 (by decide) q_99 rfl rfl dX8_slideOn_9 ?_
  refine z_iload_n C 2 dX8_slideOn_12 rfl ?_
  refine z_iald C (by omega) hay4 hb.2.1 ((z).toNat) (by omega) (by omega) (by decide) dX8_slideOn_13 ?_
  refine z_aload_n C 3 dX8_slideOn_14 rfl ?_
  obtain ⟨xy14, exy15, hxy16⟩ := zI_of (zI (st ((z).toNat)))
  rw [exy15]
  refine z_cV (As := [.int (zI (xy14)), .ref (ad b)]) (rest := []) (ci := 5) C (c_X3_weakest l D A cs tt N ad _ (a + 2 + 2 * (z).toNat) (by omega) _ _ _ (by omega) ⟨hpy12.1, hpy12.2⟩ (b) (by omega) _ _ _ _ _ _ _ _ _ ⟨hb.1, hb.2.1, hb.2.2.1, hb.2.2.2.1, hb.2.2.2.2.1, hb.2.2.2.2.2.1, hb.2.2.2.2.2.2⟩ (xy14) (by omega)) (by omega) hay10 hpy12.1 rfl rfl mv_yX3_weakest q_590 hd_yX3_weakest (by decide) (Nat.le_of_ble_eq_true rfl) (by decide) dX8_slideOn_15 rfl (kI0 fun vy17 gvy17 hvy17 => ?_)
  obtain ⟨hvy17, rfl⟩ := hvy17
  refine z_istore (lv' := [(4, .int (zI (vy17))), (3, .ref (ad (a + 2 + 2 * (z).toNat))), (0, .ref (ad a)), (1, .int (zI (z))), (2, .ref (ad b))]) C dX8_slideOn_18 (by decide) rfl ?_
  refine z_aload_n C 1 dX8_slideOn_20 rfl ?_
  refine z_get (v := .int (zI (uz (z).toNat))) C (by omega) hay10 hpy12.1 rfl inA_X3 0 (by decide) q_156 rfl rfl dX8_slideOn_21 ?_
  refine z_iconst (z := 1) C dX8_slideOn_24 rfl ?_
  refine z_isub C dX8_slideOn_25 ?_
  refine z_iload C 0 dX8_slideOn_26 rfl ?_
  refine z_isub C dX8_slideOn_28 ?_
  refine z_istore (lv' := [(5, .int (zI (((uz (z).toNat) - 1) - vy17))), (4, .int (zI (vy17))), (3, .ref (ad (a + 2 + 2 * (z).toNat))), (0, .ref (ad a)), (1, .int (zI (z))), (2, .ref (ad b))]) C dX8_slideOn_29 (by decide) rfl ?_
  refine z_aload_n C 3 dX8_slideOn_31 rfl ?_
  refine z_dup C dX8_slideOn_32 rfl ?_
  refine z_get (v := .int (zI (ut 3))) C (lt_A0 hN rfl) hay1 u1 rfl inA_X8 3 (by decide) q_181 rfl rfl dX8_slideOn_33 ?_
  refine z_aload_n C 2 dX8_slideOn_36 rfl ?_
  refine z_iload C 1 dX8_slideOn_37 rfl ?_
  refine z_cV (As := [.int (zI (vy17))]) (rest := [.int (zI (ut 3)), .ref (ad a)]) (ci := 5) C (c_X3_massAbove l D A cs tt N ad _ (a + 2 + 2 * (z).toNat) (by omega) _ _ _ (by omega) ⟨hpy12.1, hpy12.2⟩  (vy17) (by omega)) (by omega) hay10 hpy12.1 rfl rfl mv_yX3_massAbove q_594 hd_yX3_massAbove (by decide) (Nat.le_of_ble_eq_true rfl) (by decide) dX8_slideOn_39 rfl (kI0 fun vy18 gvy18 hvy18 => ?_)
  obtain ⟨hvy18, rfl⟩ := hvy18
  refine z_iadd C dX8_slideOn_42 ?_
  refine z_put (fs' := [.int (zI (ut 0)), .int (zI (ut 1)), .int (zI (ut 2)), .int (zI ((ut 3) + vy18)), .int (zI (ut 4)), .int (zI (ut 5)), .ref (ad (a + 1))]) C (lt_A0 hN rfl) hay1 u1 tyX8 tyX8_ok nmX8 rfl inA_X8 3 (by decide) q_181 rfl rfl rfl rfl (Nat.le_of_ble_eq_true rfl) rfl dX8_slideOn_43 (fun gy19 egy20 => ?_)
  have hgy21 := up_s egy20
  refine z_aload_n C 3 dX8_slideOn_46 rfl ?_
  refine z_dup C dX8_slideOn_47 rfl ?_
  refine z_get (v := .int (zI (ut 4))) C (lt_A0 hN rfl) hay1 hgy21 rfl inA_X8 4 (by decide) q_183 rfl rfl dX8_slideOn_48 ?_
  refine z_iconst (z := 1) C dX8_slideOn_51 rfl ?_
  refine z_iadd C dX8_slideOn_52 ?_
  refine z_put (fs' := [.int (zI (ut 0)), .int (zI (ut 1)), .int (zI (ut 2)), .int (zI ((ut 3) + vy18)), .int (zI ((ut 4) + 1)), .int (zI (ut 5)), .ref (ad (a + 1))]) C (lt_A0 hN rfl) hay1 hgy21 tyX8 tyX8_ok nmX8 rfl inA_X8 4 (by decide) q_183 rfl rfl rfl rfl (Nat.le_of_ble_eq_true rfl) rfl dX8_slideOn_53 (fun gy22 egy23 => ?_)
  have hgy24 := up_s egy23
  refine z_aload_n C 2 dX8_slideOn_56 rfl ?_
  refine z_iload C 1 dX8_slideOn_57 rfl ?_
  refine z_iconst (z := 1) C dX8_slideOn_59 rfl ?_
  refine z_iadd C dX8_slideOn_60 ?_
  have hgy25 := up_n egy20 hpy12.1 (by omega)
  have hgy26 := up_n egy23 hgy25 (by omega)
  refine z_put (fs' := [.int (zI (vy17 + 1)), .int (zI (uo (z).toNat)), .ref (ad (a + 2 + 2 * (z).toNat + 1))]) C (by omega) hay10 hgy26 tyX3 tyX3_ok nmX3 rfl inA_X3 0 (by decide) q_156 rfl rfl rfl rfl (Nat.le_of_ble_eq_true rfl) rfl dX8_slideOn_61 (fun gy27 egy28 => ?_)
  have hgy29 := up_s egy28
  refine z_iload C 0 dX8_slideOn_64 rfl ?_
  have hgy30 := up_n egy20 hpy12.2 (by omega)
  have hgy31 := up_n egy23 hgy30 (by omega)
  have hgy32 := up_n egy28 hgy31 (ne_o (i := a + 2 + 2 * (z).toNat) (c := 1) (d := 0) rfl)
  have hgy33 := up_n egy28 hgy24 (by omega)
  have hGy34p : okPack cs ad gy27 (a + 2 + 2 * (z).toNat) := ⟨_, _, _, by omega, hgy29, hgy32⟩
  have hGy34f : ∀ j, j ≠ a → j ≠ a + 2 + 2 * (z).toNat → j ≠ a + 2 + 2 * (z).toNat + 1 → gy27 j = g j := fun j j1 j2 j3 => by rw [egy28, va_up_ne _ _ (by omega)]; rw [egy23, va_up_ne _ _ (by omega)]; rw [egy20, va_up_ne _ _ (by omega)]
  have hGy34q : okWorld cs ad gy27 a := okWorld.two (by omega) hw hGy34f hGy34p (by omega) hgy33
  exact z_iret C hr hlk dX8_slideOn_66 (by decide) (by decide) ⟨((uz (z).toNat) - 1) - vy17, rfl, rfl, rfl, by omega, hGy34q, fun j j1 => hGy34f j (by omega) (by omega) (by omega)⟩

set_option maxRecDepth 100000 in
set_option maxHeartbeats 4000000 in
theorem c_X8_hour (l : Launch) (D : va_G) (A : Nat → Prop) (cs : Nat → ClassId) (tt : Nat) (N : Nat) (ad : Nat → Nat) (g : Nat → va_E) (a : Nat) (hN : a + 10 ≤ N) (hw : okWorld cs ad g a) (b : Nat) (hNb : b + 7 ≤ N) (sl ho ua : Int) (st op ai fa mu tb : Nat → Int) (hb : isPlan cs ad g b sl ho ua st op ai fa mu tb) (hsl : 0 ≤ sl ∧ sl ≤ 4) (hho : 0 ≤ ho ∧ ho ≤ 24) (hab : b + 7 ≤ a ∨ a + 10 ≤ b) (z : Int) (hz : -2147483648 ≤ z ∧ z ≤ 2147483647) (z1 : Int) (hz1 : -2147483648 ≤ z1 ∧ z1 ≤ 2147483647) : zM l yX8_hour cX8_hour 9 none ({ frames := 4, cells := 0, slots := 0, locals := 240 } : Room) D A cs tt N ad g [.ref (ad a), .ref (ad b), .int (zI (z)), .int (zI (z1))] (rV0 N ad fun g' => okWorld cs ad g' a ∧ ∀ j, j < a ∨ a + 10 ≤ j → g' j = g j) := by
  obtain ⟨ut, uz, uo, ur, uz4, ut5, u1, ⟨uu, u2, u3⟩, u4⟩ := id hw
  have hay1 : zAt ad (a) (ad a) := rfl
  have hay2 : zAt ad (a + 1) (ad (a + 1)) := rfl
  have hay3 : zAt ad (b) (ad b) := rfl
  have hay4 : zAt ad (b + 1) (ad (b + 1)) := rfl
  have hay5 : zAt ad (b + 2) (ad (b + 2)) := rfl
  have hay6 : zAt ad (b + 3) (ad (b + 3)) := rfl
  have hay7 : zAt ad (b + 4) (ad (b + 4)) := rfl
  have hay8 : zAt ad (b + 5) (ad (b + 5)) := rfl
  have hay9 : zAt ad (b + 6) (ad (b + 6)) := rfl
  refine z_of (by decide) (Nat.le_of_ble_eq_true rfl) ?_
  intro p e s m below meth c C hr hlk hnm
  refine z_lv (lv' := [(0, .ref (ad a)), (1, .ref (ad b)), (2, .int (zI (z))), (3, .int (zI (z1)))]) [0, 1, 2, 3] rfl ?_
  have lp : ∀ (n9 : Nat) (i : Int) (mc : Int) (fl : Int) (air : Int) (g1 : Nat → va_E), (4 - i).toNat = n9 → (okWorld cs ad g1 a) → (∀ j, j < a ∨ a + 10 ≤ j → g1 j = g j) → (0 ≤ i ∧ i ≤ 4) → (-2147483648 ≤ mc ∧ mc ≤ 2147483647) → (-2147483648 ≤ fl ∧ fl ≤ 2147483647) → (-2147483648 ≤ air ∧ air ≤ 2147483647) → zV p l e ({ frames := 4, cells := 0, slots := 0, locals := 240 } : Room) s m ([.ref (ad a), .ref (ad b), .int (zI (z)), .int (zI (z1))] : List Value).toArray below meth c (MQ below (zPost D A (rV0 N ad fun g' => okWorld cs ad g' a ∧ ∀ j, j < a ∨ a + 10 ≤ j → g' j = g j)) ([.ref (ad a), .ref (ad b), .int (zI (z)), .int (zI (z1))] : List Value).toArray s ({ frames := 4, cells := 0, slots := 0, locals := 240 } : Room).cells ({ frames := 4, cells := 0, slots := 0, locals := 240 } : Room).slots A) D A 9 (N) ad g1 (0) (0) 41 [(7, .int (zI (i))), (6, .int (zI (mc))), (5, .int (zI (fl))), (4, .int (zI (air))), (0, .ref (ad a)), (1, .ref (ad b)), (2, .int (zI (z))), (3, .int (zI (z1)))] [] := by
    intro n9
    induction n9 using Nat.strongRecOn with
    | ind n9 ih =>
      intro i mc fl air g1 hm9 f1 f3 hv0 hv1 hv2 hv3
      have f1c := f1
      obtain ⟨ut, uz, uo, ur, uz4, ut5, u1, ⟨uu, u2, u3⟩, u4⟩ := id f1
      have hay10 : zAt ad (a) (ad a) := rfl
      have hay11 : zAt ad (a + 1) (ad (a + 1)) := rfl
      have hay12 : zAt ad (b) (ad b) := rfl
      have hay13 : zAt ad (b + 1) (ad (b + 1)) := rfl
      have hay14 : zAt ad (b + 2) (ad (b + 2)) := rfl
      have hay15 : zAt ad (b + 3) (ad (b + 3)) := rfl
      have hay16 : zAt ad (b + 4) (ad (b + 4)) := rfl
      have hay17 : zAt ad (b + 5) (ad (b + 5)) := rfl
      have hay18 : zAt ad (b + 6) (ad (b + 6)) := rfl
      refine z_iload C 0 dX8_hour_41 rfl ?_
      refine z_aload_n C 5 dX8_hour_43 rfl ?_
      refine z_get (v := .int (zI (sl))) C (by omega) hay12 ((f3 _ (by omega)).trans hb.1) rfl inA_X5 0 (by decide) q_91 rfl rfl dX8_hour_44 ?_
      refine z_icmp_ge (tgt := 141) C dX8_hour_47 (by decide) (by omega) (by omega) (fun hby19 => ?_) (fun hby19 => ?_)
      · refine z_aload_n C 4 dX8_hour_141 rfl ?_
        refine z_dup C dX8_hour_142 rfl ?_
        refine z_get (v := .int (zI (ut 0))) C (lt_A0 hN rfl) hay10 u1 rfl inA_X8 0 (by decide) q_173 rfl rfl dX8_hour_143 ?_
        refine z_iconst (z := 1) C dX8_hour_146 rfl ?_
        refine z_iadd C dX8_hour_147 ?_
        refine z_put (fs' := [.int (zI ((ut 0) + 1)), .int (zI (ut 1)), .int (zI (ut 2)), .int (zI (ut 3)), .int (zI (ut 4)), .int (zI (ut 5)), .ref (ad (a + 1))]) C (lt_A0 hN rfl) hay10 u1 tyX8 tyX8_ok nmX8 rfl inA_X8 0 (by decide) q_173 rfl rfl rfl rfl (Nat.le_of_ble_eq_true rfl) rfl dX8_hour_148 (fun gy20 egy21 => ?_)
        have hgy22 := up_s egy21
        have hGy23 : okWorld cs ad gy20 a := okWorld.head f1 (fun j j1 => by rw [egy21, va_up_ne _ _ (by omega)]) (by omega) hgy22
        exact z_vret C hr hlk dX8_hour_151 (by decide) (by decide) ⟨rfl, rfl, rfl, hGy23, fun j j1 => by rw [egy21, va_up_ne _ _ (by omega)]; exact f3 j j1⟩
      · refine z_iload_n C 6 dX8_hour_50 rfl ?_
        refine z_iload C 0 dX8_hour_51 rfl ?_
        obtain ⟨xy24, exy25, hxy26⟩ := zI_of (zI (z) >>> (zI (i) &&& 31))
        refine z_ishr (z := xy24) C dX8_hour_53 exy25 ?_
        refine z_iconst (z := 1) C dX8_hour_54 rfl ?_
        obtain ⟨xy27, exy28, hxy29⟩ := zI_and (zI (xy24)) (m := zI 1) 1 (by decide)
        refine z_iand (z := xy27) C dX8_hour_55 exy28 ?_
        refine z_iconst (z := 1) C dX8_hour_56 rfl ?_
        refine z_icmp_ne (tgt := 135) C dX8_hour_57 (by decide) (by omega) (by omega) (fun hby30 => ?_) (fun hby30 => ?_)
        · refine z_iinc (z := i + 1) (lv' := [(7, .int (zI (i + 1))), (6, .int (zI (mc))), (5, .int (zI (fl))), (4, .int (zI (air))), (0, .ref (ad a)), (1, .ref (ad b)), (2, .int (zI (z))), (3, .int (zI (z1)))]) (j := 0) C dX8_hour_135 rfl rfl (by decide) rfl ?_
          refine z_goto (tgt := 41) C dX8_hour_138 (by decide) ?_
          refine z_lv (lv' := [(7, .int (zI (i + 1))), (6, .int (zI (mc))), (5, .int (zI (fl))), (4, .int (zI (air))), (0, .ref (ad a)), (1, .ref (ad b)), (2, .int (zI (z))), (3, .int (zI (z1)))]) [0, 1, 2, 3, 4, 5, 6, 7] rfl ?_
          exact ih _ (by omega) (i + 1) (mc) (fl) (air) g1 rfl f1 (fun j j1 => by exact f3 j j1) (by omega) (by omega) (by omega) (by omega)
        · refine z_aload_n C 4 dX8_hour_60 rfl ?_
          refine z_get (v := .ref (ad (a + 1))) C (lt_A0 hN rfl) hay10 u1 rfl inA_X8 6 (by decide) q_188 rfl rfl dX8_hour_61 ?_
          refine z_iload C 0 dX8_hour_64 rfl ?_
          refine z_aald C (lt_A (c := 1) hN rfl) hay11 u2 3 rfl ((i).toNat) (by omega) (by omega) (by decide) (u3 (i).toNat (by omega)) dX8_hour_66 ?_
          have hay31 : zAt ad (a + 2 + 2 * (i).toNat) (ad (a + 2 + 2 * (i).toNat)) := rfl
          have hay32 : zAt ad (a + 2 + 2 * (i).toNat + 1) (ad (a + 2 + 2 * (i).toNat + 1)) := rfl
          have hpy33 := u4 (i).toNat (by omega)
          have hqy34 := uz4 (i).toNat (by omega)
          refine z_astore (lv' := [(8, .ref (ad (a + 2 + 2 * (i).toNat))), (7, .int (zI (i))), (6, .int (zI (mc))), (5, .int (zI (fl))), (4, .int (zI (air))), (0, .ref (ad a)), (1, .ref (ad b)), (2, .int (zI (z))), (3, .int (zI (z1)))]) C dX8_hour_67 (by decide) rfl ?_
          refine z_aload_n C 5 dX8_hour_69 rfl ?_
          refine z_iload C 1 dX8_hour_70 rfl ?_
          refine z_iload C 3 dX8_hour_72 rfl ?_
          refine z_iload C 2 dX8_hour_74 rfl ?_
          refine z_iload C 4 dX8_hour_76 rfl ?_
          refine z_cV (As := [.int (zI (i)), .int (zI (fl)), .int (zI (mc)), .int (zI (air))]) (rest := []) (ci := 10) C (c_X8_fallOn l D A cs tt N ad _ (a) (by omega) f1 (i) (by omega) (fl) (by omega) (mc) (by omega) (air) (by omega)) (lt_A0 hN rfl) hay10 u1 rfl rfl mv_yX8_fallOn q_454 hd_yX8_fallOn (by decide) (Nat.le_of_ble_eq_true rfl) (by decide) dX8_hour_78 rfl (kV0 fun gvy35 hvy35 => ?_)
          obtain ⟨hkvy35, hfvy35⟩ := hvy35
          have hoky36 : okWorld cs ad gvy35 (a) := hkvy35
          obtain ⟨thcy37, zhcy37, ohcy37, rhcy37, hzhcy37, hthcy37, hwhcy37⟩ := id hoky36
          obtain ⟨twy38, zwy38, owy38, rwy38, hzwy38, htwy38, hwwy38⟩ := id hoky36
          have hpwy38 := hwwy38.2.2 (i).toNat (by omega)
          have hswy38 := hzwy38 (i).toNat (by omega)
          refine z_iload C 4 dX8_hour_81 rfl ?_
          refine z_if_le (tgt := 104) C dX8_hour_83 (by decide) (by omega) (fun hby39 => ?_) (fun hby39 => ?_)
          · refine z_aload C 0 dX8_hour_104 rfl ?_
            refine z_iload C 4 dX8_hour_106 rfl ?_
            refine z_cV (As := [.int (zI (air))]) (rest := []) (ci := 5) C (c_X3_cool l D A cs tt N ad _ (a + 2 + 2 * (i).toNat) (by omega) _ _ _ (by omega) ⟨hpwy38.1, hpwy38.2⟩  (air) (by omega)) (by omega) hay31 hpwy38.1 rfl rfl mv_yX3_cool q_485 hd_yX3_cool (by decide) (Nat.le_of_ble_eq_true rfl) (by decide) dX8_hour_108 rfl (kV0 fun gvy40 hvy40 => ?_)
            obtain ⟨⟨svy40, ovy40, rvy40, hsvy40, hpvy40⟩, hfvy40⟩ := hvy40
            refine z_aload C 0 dX8_hour_111 rfl ?_
            refine z_cV (As := []) (rest := []) (ci := 5) C (c_X3_evenTemps l D A cs tt N ad _ (a + 2 + 2 * (i).toNat) (by omega) _ _ _ (by omega) ⟨hpvy40.1, hpvy40.2⟩  ) (by omega) hay31 hpvy40.1 rfl rfl mv_yX3_evenTemps q_489 hd_yX3_evenTemps (by decide) (Nat.le_of_ble_eq_true rfl) (by decide) dX8_hour_113 rfl (kV0 fun gvy41 hvy41 => ?_)
            obtain ⟨⟨svy41, ovy41, rvy41, hsvy41, hpvy41⟩, hfvy41⟩ := hvy41
            refine z_aload C 0 dX8_hour_116 rfl ?_
            refine z_aload_n C 6 dX8_hour_118 rfl ?_
            have hgy43 := (hfvy35 (b) (by omega)).trans ((f3 _ (by omega)).trans hb.1)
            have hgy44 := (hfvy40 (b) (by omega) (by omega)).trans hgy43
            have hgy45 := (hfvy41 (b) (by omega) (by omega)).trans hgy44
            have hgy46 := (hfvy35 (b + 1) (by omega)).trans ((f3 _ (by omega)).trans hb.2.1)
            have hgy47 := (hfvy40 (b + 1) (by omega) (by omega)).trans hgy46
            have hgy48 := (hfvy41 (b + 1) (by omega) (by omega)).trans hgy47
            have hgy49 := (hfvy35 (b + 2) (by omega)).trans ((f3 _ (by omega)).trans hb.2.2.1)
            have hgy50 := (hfvy40 (b + 2) (by omega) (by omega)).trans hgy49
            have hgy51 := (hfvy41 (b + 2) (by omega) (by omega)).trans hgy50
            have hgy52 := (hfvy35 (b + 3) (by omega)).trans ((f3 _ (by omega)).trans hb.2.2.2.1)
            have hgy53 := (hfvy40 (b + 3) (by omega) (by omega)).trans hgy52
            have hgy54 := (hfvy41 (b + 3) (by omega) (by omega)).trans hgy53
            have hgy55 := (hfvy35 (b + 4) (by omega)).trans ((f3 _ (by omega)).trans hb.2.2.2.2.1)
            have hgy56 := (hfvy40 (b + 4) (by omega) (by omega)).trans hgy55
            have hgy57 := (hfvy41 (b + 4) (by omega) (by omega)).trans hgy56
            have hgy58 := (hfvy35 (b + 5) (by omega)).trans ((f3 _ (by omega)).trans hb.2.2.2.2.2.1)
            have hgy59 := (hfvy40 (b + 5) (by omega) (by omega)).trans hgy58
            have hgy60 := (hfvy41 (b + 5) (by omega) (by omega)).trans hgy59
            have hgy61 := (hfvy35 (b + 6) (by omega)).trans ((f3 _ (by omega)).trans hb.2.2.2.2.2.2)
            have hgy62 := (hfvy40 (b + 6) (by omega) (by omega)).trans hgy61
            have hgy63 := (hfvy41 (b + 6) (by omega) (by omega)).trans hgy62
            refine z_cV (As := [.ref (ad b)]) (rest := []) (ci := 5) C (c_X3_freezeAndSink l D A cs tt N ad _ (a + 2 + 2 * (i).toNat) (by omega) _ _ _ (by omega) ⟨hpvy41.1, hpvy41.2⟩ (b) (by omega) _ _ _ _ _ _ _ _ _ ⟨hgy45, hgy48, hgy51, hgy54, hgy57, hgy60, hgy63⟩ (by omega) ) (by omega) hay31 hpvy41.1 rfl rfl mv_yX3_freezeAndSink q_493 hd_yX3_freezeAndSink (by decide) (Nat.le_of_ble_eq_true rfl) (by decide) dX8_hour_119 rfl (kV0 fun gvy42 hvy42 => ?_)
            obtain ⟨⟨svy42, ovy42, rvy42, hsvy42, hpvy42⟩, hfvy42⟩ := hvy42
            refine z_aload C 0 dX8_hour_122 rfl ?_
            refine z_aload_n C 6 dX8_hour_124 rfl ?_
            have hgy65 := (hfvy42 (b) (by omega) (by omega)).trans hgy45
            have hgy66 := (hfvy42 (b + 1) (by omega) (by omega)).trans hgy48
            have hgy67 := (hfvy42 (b + 2) (by omega) (by omega)).trans hgy51
            have hgy68 := (hfvy42 (b + 3) (by omega) (by omega)).trans hgy54
            have hgy69 := (hfvy42 (b + 4) (by omega) (by omega)).trans hgy57
            have hgy70 := (hfvy42 (b + 5) (by omega) (by omega)).trans hgy60
            have hgy71 := (hfvy42 (b + 6) (by omega) (by omega)).trans hgy63
            refine z_cV (As := [.ref (ad b)]) (rest := []) (ci := 5) C (c_X3_press l D A cs tt N ad _ (a + 2 + 2 * (i).toNat) (by omega) _ _ _ (by omega) ⟨hpvy42.1, hpvy42.2⟩ (b) (by omega) _ _ _ _ _ _ _ _ _ ⟨hgy65, hgy66, hgy67, hgy68, hgy69, hgy70, hgy71⟩ (by omega) ) (by omega) hay31 hpvy42.1 rfl rfl mv_yX3_press q_506 hd_yX3_press (by decide) (Nat.le_of_ble_eq_true rfl) (by decide) dX8_hour_125 rfl (kV0 fun gvy64 hvy64 => ?_)
            obtain ⟨⟨svy64, ovy64, rvy64, hsvy64, hpvy64⟩, hfvy64⟩ := hvy64
            refine z_aload C 0 dX8_hour_128 rfl ?_
            refine z_iload C 4 dX8_hour_130 rfl ?_
            refine z_cV (As := [.int (zI (air))]) (rest := []) (ci := 5) C (c_X3_turnAndAge l D A cs tt N ad _ (a + 2 + 2 * (i).toNat) (by omega) _ _ _ (by omega) ⟨hpvy64.1, hpvy64.2⟩  (air) (by omega)) (by omega) hay31 hpvy64.1 rfl rfl mv_yX3_turnAndAge q_517 hd_yX3_turnAndAge (by decide) (Nat.le_of_ble_eq_true rfl) (by decide) dX8_hour_132 rfl (kV0 fun gvy72 hvy72 => ?_)
            obtain ⟨⟨svy72, ovy72, rvy72, hsvy72, hpvy72⟩, hfvy72⟩ := hvy72
            refine z_iinc (z := i + 1) (lv' := [(7, .int (zI (i + 1))), (8, .ref (ad (a + 2 + 2 * (i).toNat))), (6, .int (zI (mc))), (5, .int (zI (fl))), (4, .int (zI (air))), (0, .ref (ad a)), (1, .ref (ad b)), (2, .int (zI (z))), (3, .int (zI (z1)))]) (j := 1) C dX8_hour_135 rfl rfl (by decide) rfl ?_
            refine z_goto (tgt := 41) C dX8_hour_138 (by decide) ?_
            have hGy73p : okPack cs ad gvy72 (a + 2 + 2 * (i).toNat) := ⟨_, _, _, by omega, hpvy72.1, hpvy72.2⟩
            have hGy73q : okWorld cs ad gvy72 a := okWorld.pack (by omega) hoky36 (fun j j1 j2 => by rw [hfvy72 _ (by omega) (by omega)]; rw [hfvy64 _ (by omega) (by omega)]; rw [hfvy42 _ (by omega) (by omega)]; rw [hfvy41 _ (by omega) (by omega)]; rw [hfvy40 _ (by omega) (by omega)]) hGy73p
            refine z_lv (lv' := [(7, .int (zI (i + 1))), (6, .int (zI (mc))), (5, .int (zI (fl))), (4, .int (zI (air))), (0, .ref (ad a)), (1, .ref (ad b)), (2, .int (zI (z))), (3, .int (zI (z1)))]) [0, 2, 3, 4, 5, 6, 7, 8] rfl ?_
            exact ih _ (by omega) (i + 1) (mc) (fl) (air) gvy72 rfl hGy73q (fun j j1 => by rw [hfvy72 _ (by omega) (by omega)]; rw [hfvy64 _ (by omega) (by omega)]; rw [hfvy42 _ (by omega) (by omega)]; rw [hfvy41 _ (by omega) (by omega)]; rw [hfvy40 _ (by omega) (by omega)]; rw [hfvy35 _ (by omega)]; exact f3 j j1) (by omega) (by omega) (by omega) (by omega)
          · refine z_aload C 0 dX8_hour_86 rfl ?_
            refine z_iload C 4 dX8_hour_88 rfl ?_
            refine z_aload_n C 6 dX8_hour_90 rfl ?_
            have hgy74 := (hfvy35 (b) (by omega)).trans ((f3 _ (by omega)).trans hb.1)
            refine z_get (v := .ref (ad (b + 2))) C (by omega) hay12 hgy74 rfl inA_X5 4 (by decide) q_103 rfl rfl dX8_hour_91 ?_
            refine z_iload C 1 dX8_hour_94 rfl ?_
            have hgy75 := (hfvy35 (b + 2) (by omega)).trans ((f3 _ (by omega)).trans hb.2.2.1)
            refine z_iald C (by omega) hay14 hgy75 ((i).toNat) (by omega) (by omega) (by decide) dX8_hour_96 ?_
            refine z_imul C dX8_hour_97 ?_
            obtain ⟨xy76, exy77, hxy78⟩ := zI_of (zI (air * (op ((i).toNat))))
            rw [exy77]
            refine z_cV (As := [.int (zI (xy76))]) (rest := []) (ci := 5) C (c_X3_melt l D A cs tt N ad _ (a + 2 + 2 * (i).toNat) (by omega) _ _ _ (by omega) ⟨hpwy38.1, hpwy38.2⟩  (xy76) (by omega)) (by omega) hay31 hpwy38.1 rfl rfl mv_yX3_melt q_479 hd_yX3_melt (by decide) (Nat.le_of_ble_eq_true rfl) (by decide) dX8_hour_98 rfl (kV0 fun gvy79 hvy79 => ?_)
            obtain ⟨⟨svy79, ovy79, rvy79, hsvy79, hpvy79⟩, hfvy79⟩ := hvy79
            refine z_goto (tgt := 111) C dX8_hour_101 (by decide) ?_
            refine z_aload C 0 dX8_hour_111 rfl ?_
            refine z_cV (As := []) (rest := []) (ci := 5) C (c_X3_evenTemps l D A cs tt N ad _ (a + 2 + 2 * (i).toNat) (by omega) _ _ _ (by omega) ⟨hpvy79.1, hpvy79.2⟩  ) (by omega) hay31 hpvy79.1 rfl rfl mv_yX3_evenTemps q_489 hd_yX3_evenTemps (by decide) (Nat.le_of_ble_eq_true rfl) (by decide) dX8_hour_113 rfl (kV0 fun gvy80 hvy80 => ?_)
            obtain ⟨⟨svy80, ovy80, rvy80, hsvy80, hpvy80⟩, hfvy80⟩ := hvy80
            refine z_aload C 0 dX8_hour_116 rfl ?_
            refine z_aload_n C 6 dX8_hour_118 rfl ?_
            have hgy82 := (hfvy79 (b) (by omega) (by omega)).trans hgy74
            have hgy83 := (hfvy80 (b) (by omega) (by omega)).trans hgy82
            have hgy84 := (hfvy35 (b + 1) (by omega)).trans ((f3 _ (by omega)).trans hb.2.1)
            have hgy85 := (hfvy79 (b + 1) (by omega) (by omega)).trans hgy84
            have hgy86 := (hfvy80 (b + 1) (by omega) (by omega)).trans hgy85
            have hgy87 := (hfvy79 (b + 2) (by omega) (by omega)).trans hgy75
            have hgy88 := (hfvy80 (b + 2) (by omega) (by omega)).trans hgy87
            have hgy89 := (hfvy35 (b + 3) (by omega)).trans ((f3 _ (by omega)).trans hb.2.2.2.1)
            have hgy90 := (hfvy79 (b + 3) (by omega) (by omega)).trans hgy89
            have hgy91 := (hfvy80 (b + 3) (by omega) (by omega)).trans hgy90
            have hgy92 := (hfvy35 (b + 4) (by omega)).trans ((f3 _ (by omega)).trans hb.2.2.2.2.1)
            have hgy93 := (hfvy79 (b + 4) (by omega) (by omega)).trans hgy92
            have hgy94 := (hfvy80 (b + 4) (by omega) (by omega)).trans hgy93
            have hgy95 := (hfvy35 (b + 5) (by omega)).trans ((f3 _ (by omega)).trans hb.2.2.2.2.2.1)
            have hgy96 := (hfvy79 (b + 5) (by omega) (by omega)).trans hgy95
            have hgy97 := (hfvy80 (b + 5) (by omega) (by omega)).trans hgy96
            have hgy98 := (hfvy35 (b + 6) (by omega)).trans ((f3 _ (by omega)).trans hb.2.2.2.2.2.2)
            have hgy99 := (hfvy79 (b + 6) (by omega) (by omega)).trans hgy98
            have hgy100 := (hfvy80 (b + 6) (by omega) (by omega)).trans hgy99
            refine z_cV (As := [.ref (ad b)]) (rest := []) (ci := 5) C (c_X3_freezeAndSink l D A cs tt N ad _ (a + 2 + 2 * (i).toNat) (by omega) _ _ _ (by omega) ⟨hpvy80.1, hpvy80.2⟩ (b) (by omega) _ _ _ _ _ _ _ _ _ ⟨hgy83, hgy86, hgy88, hgy91, hgy94, hgy97, hgy100⟩ (by omega) ) (by omega) hay31 hpvy80.1 rfl rfl mv_yX3_freezeAndSink q_493 hd_yX3_freezeAndSink (by decide) (Nat.le_of_ble_eq_true rfl) (by decide) dX8_hour_119 rfl (kV0 fun gvy81 hvy81 => ?_)
            obtain ⟨⟨svy81, ovy81, rvy81, hsvy81, hpvy81⟩, hfvy81⟩ := hvy81
            refine z_aload C 0 dX8_hour_122 rfl ?_
            refine z_aload_n C 6 dX8_hour_124 rfl ?_
            have hgy102 := (hfvy81 (b) (by omega) (by omega)).trans hgy83
            have hgy103 := (hfvy81 (b + 1) (by omega) (by omega)).trans hgy86
            have hgy104 := (hfvy81 (b + 2) (by omega) (by omega)).trans hgy88
            have hgy105 := (hfvy81 (b + 3) (by omega) (by omega)).trans hgy91
            have hgy106 := (hfvy81 (b + 4) (by omega) (by omega)).trans hgy94
            have hgy107 := (hfvy81 (b + 5) (by omega) (by omega)).trans hgy97
            have hgy108 := (hfvy81 (b + 6) (by omega) (by omega)).trans hgy100
            refine z_cV (As := [.ref (ad b)]) (rest := []) (ci := 5) C (c_X3_press l D A cs tt N ad _ (a + 2 + 2 * (i).toNat) (by omega) _ _ _ (by omega) ⟨hpvy81.1, hpvy81.2⟩ (b) (by omega) _ _ _ _ _ _ _ _ _ ⟨hgy102, hgy103, hgy104, hgy105, hgy106, hgy107, hgy108⟩ (by omega) ) (by omega) hay31 hpvy81.1 rfl rfl mv_yX3_press q_506 hd_yX3_press (by decide) (Nat.le_of_ble_eq_true rfl) (by decide) dX8_hour_125 rfl (kV0 fun gvy101 hvy101 => ?_)
            obtain ⟨⟨svy101, ovy101, rvy101, hsvy101, hpvy101⟩, hfvy101⟩ := hvy101
            refine z_aload C 0 dX8_hour_128 rfl ?_
            refine z_iload C 4 dX8_hour_130 rfl ?_
            refine z_cV (As := [.int (zI (air))]) (rest := []) (ci := 5) C (c_X3_turnAndAge l D A cs tt N ad _ (a + 2 + 2 * (i).toNat) (by omega) _ _ _ (by omega) ⟨hpvy101.1, hpvy101.2⟩  (air) (by omega)) (by omega) hay31 hpvy101.1 rfl rfl mv_yX3_turnAndAge q_517 hd_yX3_turnAndAge (by decide) (Nat.le_of_ble_eq_true rfl) (by decide) dX8_hour_132 rfl (kV0 fun gvy109 hvy109 => ?_)
            obtain ⟨⟨svy109, ovy109, rvy109, hsvy109, hpvy109⟩, hfvy109⟩ := hvy109
            refine z_iinc (z := i + 1) (lv' := [(7, .int (zI (i + 1))), (8, .ref (ad (a + 2 + 2 * (i).toNat))), (6, .int (zI (mc))), (5, .int (zI (fl))), (4, .int (zI (air))), (0, .ref (ad a)), (1, .ref (ad b)), (2, .int (zI (z))), (3, .int (zI (z1)))]) (j := 1) C dX8_hour_135 rfl rfl (by decide) rfl ?_
            refine z_goto (tgt := 41) C dX8_hour_138 (by decide) ?_
            have hGy110p : okPack cs ad gvy109 (a + 2 + 2 * (i).toNat) := ⟨_, _, _, by omega, hpvy109.1, hpvy109.2⟩
            have hGy110q : okWorld cs ad gvy109 a := okWorld.pack (by omega) hoky36 (fun j j1 j2 => by rw [hfvy109 _ (by omega) (by omega)]; rw [hfvy101 _ (by omega) (by omega)]; rw [hfvy81 _ (by omega) (by omega)]; rw [hfvy80 _ (by omega) (by omega)]; rw [hfvy79 _ (by omega) (by omega)]) hGy110p
            refine z_lv (lv' := [(7, .int (zI (i + 1))), (6, .int (zI (mc))), (5, .int (zI (fl))), (4, .int (zI (air))), (0, .ref (ad a)), (1, .ref (ad b)), (2, .int (zI (z))), (3, .int (zI (z1)))]) [0, 2, 3, 4, 5, 6, 7, 8] rfl ?_
            exact ih _ (by omega) (i + 1) (mc) (fl) (air) gvy109 rfl hGy110q (fun j j1 => by rw [hfvy109 _ (by omega) (by omega)]; rw [hfvy101 _ (by omega) (by omega)]; rw [hfvy81 _ (by omega) (by omega)]; rw [hfvy80 _ (by omega) (by omega)]; rw [hfvy79 _ (by omega) (by omega)]; rw [hfvy35 _ (by omega)]; exact f3 j j1) (by omega) (by omega) (by omega) (by omega)
  refine z_aload_n C 1 dX8_hour_0 rfl ?_
  refine z_aload_n C 0 dX8_hour_1 rfl ?_
  refine z_get (v := .int (zI (ut 0))) C (lt_A0 hN rfl) hay1 u1 rfl inA_X8 0 (by decide) q_173 rfl rfl dX8_hour_2 ?_
  obtain ⟨xy111, exy112, hxy113⟩ := zI_of (zI (ut 0))
  rw [exy112]
  refine z_cV (As := [.int (zI (xy111))]) (rest := []) (ci := 7) C (c_X5_airAt l D A cs tt N ad _ (b) (by omega) _ _ _ _ _ _ _ _ _ ⟨hb.1, hb.2.1, hb.2.2.1, hb.2.2.2.1, hb.2.2.2.2.1, hb.2.2.2.2.2.1, hb.2.2.2.2.2.2⟩ (by omega) (xy111) (by omega)) (by omega) hay3 hb.1 rfl rfl mv_yX5_airAt q_439 hd_yX5_airAt (by decide) (Nat.le_of_ble_eq_true rfl) (by decide) dX8_hour_5 rfl (kI0 fun vy114 gvy114 hvy114 => ?_)
  obtain ⟨hvy114, rfl⟩ := hvy114
  refine z_istore (lv' := [(4, .int (zI (vy114))), (0, .ref (ad a)), (1, .ref (ad b)), (2, .int (zI (z))), (3, .int (zI (z1)))]) C dX8_hour_8 (by decide) rfl ?_
  refine z_iload_n C 4 dX8_hour_10 rfl ?_
  refine z_if_eq (tgt := 25) C dX8_hour_11 (by decide) (by omega) (fun hby115 => ?_) (fun hby115 => ?_)
  · refine z_iconst (z := 0) C dX8_hour_25 rfl ?_
    refine z_istore (lv' := [(5, .int (zI (0))), (4, .int (zI (vy114))), (0, .ref (ad a)), (1, .ref (ad b)), (2, .int (zI (z))), (3, .int (zI (z1)))]) C dX8_hour_26 (by decide) rfl ?_
    refine z_aload_n C 3 dX8_hour_28 rfl ?_
    refine z_aload_n C 2 dX8_hour_29 rfl ?_
    refine z_get (v := .int (zI (ut 0))) C (lt_A0 hN rfl) hay1 u1 rfl inA_X8 0 (by decide) q_173 rfl rfl dX8_hour_30 ?_
    obtain ⟨xy116, exy117, hxy118⟩ := zI_of (zI (ut 0))
    rw [exy117]
    refine z_cV (As := [.int (zI (xy116))]) (rest := []) (ci := 7) C (c_X5_muchAt l D A cs tt N ad _ (b) (by omega) _ _ _ _ _ _ _ _ _ ⟨hb.1, hb.2.1, hb.2.2.1, hb.2.2.2.1, hb.2.2.2.2.1, hb.2.2.2.2.2.1, hb.2.2.2.2.2.2⟩ (by omega) (xy116) (by omega)) (by omega) hay3 hb.1 rfl rfl mv_yX5_muchAt q_450 hd_yX5_muchAt (by decide) (Nat.le_of_ble_eq_true rfl) (by decide) dX8_hour_33 rfl (kI0 fun vy119 gvy119 hvy119 => ?_)
    obtain ⟨hvy119, rfl⟩ := hvy119
    refine z_istore (lv' := [(6, .int (zI (vy119))), (5, .int (zI (0))), (4, .int (zI (vy114))), (0, .ref (ad a)), (1, .ref (ad b)), (2, .int (zI (z))), (3, .int (zI (z1)))]) C dX8_hour_36 (by decide) rfl ?_
    refine z_iconst (z := 0) C dX8_hour_38 rfl ?_
    refine z_istore (lv' := [(7, .int (zI (0))), (6, .int (zI (vy119))), (5, .int (zI (0))), (4, .int (zI (vy114))), (0, .ref (ad a)), (1, .ref (ad b)), (2, .int (zI (z))), (3, .int (zI (z1)))]) C dX8_hour_39 (by decide) rfl ?_
    refine z_lv (lv' := [(7, .int (zI (0))), (6, .int (zI (vy119))), (5, .int (zI (0))), (4, .int (zI (vy114))), (0, .ref (ad a)), (1, .ref (ad b)), (2, .int (zI (z))), (3, .int (zI (z1)))]) [0, 1, 2, 3, 4, 5, 6, 7] rfl ?_
    exact lp _ (0) (vy119) (0) (vy114) g rfl hw (fun j _ => rfl) (by omega) (by omega) (by omega) (by omega)
  · refine z_aload_n C 2 dX8_hour_14 rfl ?_
    refine z_aload_n C 1 dX8_hour_15 rfl ?_
    refine z_get (v := .int (zI (ut 0))) C (lt_A0 hN rfl) hay1 u1 rfl inA_X8 0 (by decide) q_173 rfl rfl dX8_hour_16 ?_
    obtain ⟨xy120, exy121, hxy122⟩ := zI_of (zI (ut 0))
    rw [exy121]
    refine z_cV (As := [.int (zI (xy120))]) (rest := []) (ci := 7) C (c_X5_fallAt l D A cs tt N ad _ (b) (by omega) _ _ _ _ _ _ _ _ _ ⟨hb.1, hb.2.1, hb.2.2.1, hb.2.2.2.1, hb.2.2.2.2.1, hb.2.2.2.2.2.1, hb.2.2.2.2.2.2⟩ (by omega) (xy120) (by omega)) (by omega) hay3 hb.1 rfl rfl mv_yX5_fallAt q_446 hd_yX5_fallAt (by decide) (Nat.le_of_ble_eq_true rfl) (by decide) dX8_hour_19 rfl (kI0 fun vy123 gvy123 hvy123 => ?_)
    obtain ⟨hvy123, rfl⟩ := hvy123
    refine z_goto (tgt := 26) C dX8_hour_22 (by decide) ?_
    refine z_istore (lv' := [(5, .int (zI (vy123))), (4, .int (zI (vy114))), (0, .ref (ad a)), (1, .ref (ad b)), (2, .int (zI (z))), (3, .int (zI (z1)))]) C dX8_hour_26 (by decide) rfl ?_
    refine z_aload_n C 3 dX8_hour_28 rfl ?_
    refine z_aload_n C 2 dX8_hour_29 rfl ?_
    refine z_get (v := .int (zI (ut 0))) C (lt_A0 hN rfl) hay1 u1 rfl inA_X8 0 (by decide) q_173 rfl rfl dX8_hour_30 ?_
    obtain ⟨xy124, exy125, hxy126⟩ := zI_of (zI (ut 0))
    rw [exy125]
    refine z_cV (As := [.int (zI (xy124))]) (rest := []) (ci := 7) C (c_X5_muchAt l D A cs tt N ad _ (b) (by omega) _ _ _ _ _ _ _ _ _ ⟨hb.1, hb.2.1, hb.2.2.1, hb.2.2.2.1, hb.2.2.2.2.1, hb.2.2.2.2.2.1, hb.2.2.2.2.2.2⟩ (by omega) (xy124) (by omega)) (by omega) hay3 hb.1 rfl rfl mv_yX5_muchAt q_450 hd_yX5_muchAt (by decide) (Nat.le_of_ble_eq_true rfl) (by decide) dX8_hour_33 rfl (kI0 fun vy127 gvy127 hvy127 => ?_)
    obtain ⟨hvy127, rfl⟩ := hvy127
    refine z_istore (lv' := [(6, .int (zI (vy127))), (5, .int (zI (vy123))), (4, .int (zI (vy114))), (0, .ref (ad a)), (1, .ref (ad b)), (2, .int (zI (z))), (3, .int (zI (z1)))]) C dX8_hour_36 (by decide) rfl ?_
    refine z_iconst (z := 0) C dX8_hour_38 rfl ?_
    refine z_istore (lv' := [(7, .int (zI (0))), (6, .int (zI (vy127))), (5, .int (zI (vy123))), (4, .int (zI (vy114))), (0, .ref (ad a)), (1, .ref (ad b)), (2, .int (zI (z))), (3, .int (zI (z1)))]) C dX8_hour_39 (by decide) rfl ?_
    refine z_lv (lv' := [(7, .int (zI (0))), (6, .int (zI (vy127))), (5, .int (zI (vy123))), (4, .int (zI (vy114))), (0, .ref (ad a)), (1, .ref (ad b)), (2, .int (zI (z))), (3, .int (zI (z1)))]) [0, 1, 2, 3, 4, 5, 6, 7] rfl ?_
    exact lp _ (0) (vy127) (vy123) (vy114) g rfl hw (fun j _ => rfl) (by omega) (by omega) (by omega) (by omega)
end
section
-- 29.words.lean.txt
-- words of state
theorem q_217 : (Jvm.Cond.fieldLink "SnowRecorder$State" (48 : Nat) "SnowRecorder$Notes" "size" "I") ∈ AW := AW_m1 217 (by decide +kernel) (by decide +kernel)
theorem q_416 : (Jvm.Cond.methodLink "SnowRecorder$State" (63 : Nat) ({ cls := "SnowRecorder$State", name := "forgetOldest", desc := "()V" } : Jvm.MethodName)) ∈ AW := AW_m2 176 (by decide +kernel) (by decide +kernel)
theorem q_418 : (Jvm.Cond.instanceMethod ({ cls := "SnowRecorder$State", name := "forgetOldest", desc := "()V" } : Jvm.MethodName)) ∈ AW := AW_m2 178 (by decide +kernel) (by decide +kernel)
theorem q_419 : (Jvm.Cond.code ({ cls := "SnowRecorder$State", name := "forgetOldest", desc := "()V" } : Jvm.MethodName) prog_8_method_5_code (3 : Nat) (Option.none : Option Jvm.ClassFile.FieldType)) ∈ AW := AW_m2 179 (by decide +kernel) (by decide +kernel)
theorem q_420 : (Jvm.Cond.methodLink "SnowRecorder$State" (44 : Nat) ({ cls := "SnowRecorder$World", name := "copyFrom", desc := "(LSnowRecorder$World;)V" } : Jvm.MethodName)) ∈ AW := AW_m2 180 (by decide +kernel) (by decide +kernel)
theorem q_421 : (Jvm.Cond.instanceMethod ({ cls := "SnowRecorder$World", name := "copyFrom", desc := "(LSnowRecorder$World;)V" } : Jvm.MethodName)) ∈ AW := AW_m2 181 (by decide +kernel) (by decide +kernel)
theorem q_422 : (Jvm.Cond.selects "SnowRecorder$World" ({ cls := "SnowRecorder$World", name := "copyFrom", desc := "(LSnowRecorder$World;)V" } : Jvm.MethodName) ({ cls := "SnowRecorder$World", name := "copyFrom", desc := "(LSnowRecorder$World;)V" } : Jvm.MethodName)) ∈ AW := AW_m2 182 (by decide +kernel) (by decide +kernel)
theorem q_423 : (Jvm.Cond.code ({ cls := "SnowRecorder$World", name := "copyFrom", desc := "(LSnowRecorder$World;)V" } : Jvm.MethodName) prog_10_method_3_code (3 : Nat) (Option.none : Option Jvm.ClassFile.FieldType)) ∈ AW := AW_m2 183 (by decide +kernel) (by decide +kernel)
theorem s_2 : Cond.selects "SnowRecorder$State" ({ cls := "SnowRecorder$State", name := "forgetOldest", desc := "()V" } : Jvm.MethodName) ({ cls := "SnowRecorder$State", name := "forgetOldest", desc := "()V" } : Jvm.MethodName) ∈ AW := AW_m 2 (by decide +kernel) (by decide +kernel)
theorem hd_yX8_copyFrom : yX8_copyFrom.cls ≠ "java/lang/invoke/MethodHandle" ∧ yX8_copyFrom.cls ≠ "java/lang/invoke/VarHandle" ∧ (parseMethodDescriptor yX8_copyFrom.desc).map (fun d => d.parameters.length) = some 1 := by decide +kernel
theorem hd_yX6_forgetOldest : yX6_forgetOldest.cls ≠ "java/lang/invoke/MethodHandle" ∧ yX6_forgetOldest.cls ≠ "java/lang/invoke/VarHandle" ∧ (parseMethodDescriptor yX6_forgetOldest.desc).map (fun d => d.parameters.length) = some 0 := by decide +kernel
theorem mv_yX8_copyFrom : zWv yX8_copyFrom cX8_copyFrom 3 none := ⟨q_421, q_422, q_5, q_423⟩
theorem mv_yX6_forgetOldest : zWv yX6_forgetOldest cX6_forgetOldest 3 none := ⟨q_418, s_2, q_4, q_419⟩
end
section
-- 30.dec.lean.txt
-- decode rows of state
theorem dX6_forgetOldest_0 : decode cX6_forgetOldest 0 = .ok (.aload_n 0, 1) := by decide +kernel
theorem dX6_forgetOldest_1 : decode cX6_forgetOldest 1 = .ok (.getfield 18, 3) := by decide +kernel
theorem dX6_forgetOldest_4 : decode cX6_forgetOldest 4 = .ok (.iconst 0, 1) := by decide +kernel
theorem dX6_forgetOldest_5 : decode cX6_forgetOldest 5 = .ok (.aaload, 1) := by decide +kernel
theorem dX6_forgetOldest_6 : decode cX6_forgetOldest 6 = .ok (.astore_n 1, 1) := by decide +kernel
theorem dX6_forgetOldest_7 : decode cX6_forgetOldest 7 = .ok (.iconst 1, 1) := by decide +kernel
theorem dX6_forgetOldest_8 : decode cX6_forgetOldest 8 = .ok (.istore_n 2, 1) := by decide +kernel
theorem dX6_forgetOldest_9 : decode cX6_forgetOldest 9 = .ok (.iload_n 2, 1) := by decide +kernel
theorem dX6_forgetOldest_10 : decode cX6_forgetOldest 10 = .ok (.aload_n 0, 1) := by decide +kernel
theorem dX6_forgetOldest_11 : decode cX6_forgetOldest 11 = .ok (.getfield 18, 3) := by decide +kernel
theorem dX6_forgetOldest_14 : decode cX6_forgetOldest 14 = .ok (.arraylength, 1) := by decide +kernel
theorem dX6_forgetOldest_15 : decode cX6_forgetOldest 15 = .ok (.if_icmp .ge 23, 3) := by decide +kernel
theorem dX6_forgetOldest_38 : decode cX6_forgetOldest 38 = .ok (.aload_n 0, 1) := by decide +kernel
theorem dX6_forgetOldest_39 : decode cX6_forgetOldest 39 = .ok (.getfield 18, 3) := by decide +kernel
theorem dX6_forgetOldest_42 : decode cX6_forgetOldest 42 = .ok (.aload_n 0, 1) := by decide +kernel
theorem dX6_forgetOldest_43 : decode cX6_forgetOldest 43 = .ok (.getfield 18, 3) := by decide +kernel
theorem dX6_forgetOldest_46 : decode cX6_forgetOldest 46 = .ok (.arraylength, 1) := by decide +kernel
theorem dX6_forgetOldest_47 : decode cX6_forgetOldest 47 = .ok (.iconst 1, 1) := by decide +kernel
theorem dX6_forgetOldest_48 : decode cX6_forgetOldest 48 = .ok (.isub, 1) := by decide +kernel
theorem dX6_forgetOldest_49 : decode cX6_forgetOldest 49 = .ok (.aload_n 1, 1) := by decide +kernel
theorem dX6_forgetOldest_50 : decode cX6_forgetOldest 50 = .ok (.aastore, 1) := by decide +kernel
theorem dX6_forgetOldest_51 : decode cX6_forgetOldest 51 = .ok (.aload_n 0, 1) := by decide +kernel
theorem dX6_forgetOldest_52 : decode cX6_forgetOldest 52 = .ok (.dup, 1) := by decide +kernel
theorem dX6_forgetOldest_53 : decode cX6_forgetOldest 53 = .ok (.getfield 22, 3) := by decide +kernel
theorem dX6_forgetOldest_56 : decode cX6_forgetOldest 56 = .ok (.iconst 1, 1) := by decide +kernel
theorem dX6_forgetOldest_57 : decode cX6_forgetOldest 57 = .ok (.isub, 1) := by decide +kernel
theorem dX6_forgetOldest_58 : decode cX6_forgetOldest 58 = .ok (.putfield 22, 3) := by decide +kernel
theorem dX6_forgetOldest_61 : decode cX6_forgetOldest 61 = .ok (.return_, 1) := by decide +kernel
theorem dX6_forgetOldest_18 : decode cX6_forgetOldest 18 = .ok (.aload_n 0, 1) := by decide +kernel
theorem dX6_forgetOldest_19 : decode cX6_forgetOldest 19 = .ok (.getfield 18, 3) := by decide +kernel
theorem dX6_forgetOldest_22 : decode cX6_forgetOldest 22 = .ok (.iload_n 2, 1) := by decide +kernel
theorem dX6_forgetOldest_23 : decode cX6_forgetOldest 23 = .ok (.iconst 1, 1) := by decide +kernel
theorem dX6_forgetOldest_24 : decode cX6_forgetOldest 24 = .ok (.isub, 1) := by decide +kernel
theorem dX6_forgetOldest_25 : decode cX6_forgetOldest 25 = .ok (.aload_n 0, 1) := by decide +kernel
theorem dX6_forgetOldest_26 : decode cX6_forgetOldest 26 = .ok (.getfield 18, 3) := by decide +kernel
theorem dX6_forgetOldest_29 : decode cX6_forgetOldest 29 = .ok (.iload_n 2, 1) := by decide +kernel
theorem dX6_forgetOldest_30 : decode cX6_forgetOldest 30 = .ok (.aaload, 1) := by decide +kernel
theorem dX6_forgetOldest_31 : decode cX6_forgetOldest 31 = .ok (.aastore, 1) := by decide +kernel
theorem dX6_forgetOldest_32 : decode cX6_forgetOldest 32 = .ok (.iinc 2 1, 3) := by decide +kernel
theorem dX6_forgetOldest_35 : decode cX6_forgetOldest 35 = .ok (.goto (-26), 3) := by decide +kernel
theorem dX6_keepAct_0 : decode cX6_keepAct 0 = .ok (.aload_n 0, 1) := by decide +kernel
theorem dX6_keepAct_1 : decode cX6_keepAct 1 = .ok (.getfield 22, 3) := by decide +kernel
theorem dX6_keepAct_4 : decode cX6_keepAct 4 = .ok (.bipush 40, 2) := by decide +kernel
theorem dX6_keepAct_6 : decode cX6_keepAct 6 = .ok (.if_icmp .ne 7, 3) := by decide +kernel
theorem dX6_keepAct_13 : decode cX6_keepAct 13 = .ok (.aload_n 0, 1) := by decide +kernel
theorem dX6_keepAct_14 : decode cX6_keepAct 14 = .ok (.getfield 18, 3) := by decide +kernel
theorem dX6_keepAct_17 : decode cX6_keepAct 17 = .ok (.aload_n 0, 1) := by decide +kernel
theorem dX6_keepAct_18 : decode cX6_keepAct 18 = .ok (.getfield 22, 3) := by decide +kernel
theorem dX6_keepAct_21 : decode cX6_keepAct 21 = .ok (.aaload, 1) := by decide +kernel
theorem dX6_keepAct_22 : decode cX6_keepAct 22 = .ok (.aload_n 0, 1) := by decide +kernel
theorem dX6_keepAct_23 : decode cX6_keepAct 23 = .ok (.getfield 12, 3) := by decide +kernel
theorem dX6_keepAct_26 : decode cX6_keepAct 26 = .ok (.invokevirtual 44, 3) := by decide +kernel
theorem dX6_keepAct_29 : decode cX6_keepAct 29 = .ok (.aload_n 0, 1) := by decide +kernel
theorem dX6_keepAct_30 : decode cX6_keepAct 30 = .ok (.dup, 1) := by decide +kernel
theorem dX6_keepAct_31 : decode cX6_keepAct 31 = .ok (.getfield 22, 3) := by decide +kernel
theorem dX6_keepAct_34 : decode cX6_keepAct 34 = .ok (.iconst 1, 1) := by decide +kernel
theorem dX6_keepAct_35 : decode cX6_keepAct 35 = .ok (.iadd, 1) := by decide +kernel
theorem dX6_keepAct_36 : decode cX6_keepAct 36 = .ok (.putfield 22, 3) := by decide +kernel
theorem dX6_keepAct_39 : decode cX6_keepAct 39 = .ok (.return_, 1) := by decide +kernel
theorem dX6_keepAct_9 : decode cX6_keepAct 9 = .ok (.aload_n 0, 1) := by decide +kernel
theorem dX6_keepAct_10 : decode cX6_keepAct 10 = .ok (.invokevirtual 63, 3) := by decide +kernel
theorem dX6_takeBack_0 : decode cX6_takeBack 0 = .ok (.aload_n 0, 1) := by decide +kernel
theorem dX6_takeBack_1 : decode cX6_takeBack 1 = .ok (.getfield 22, 3) := by decide +kernel
theorem dX6_takeBack_4 : decode cX6_takeBack 4 = .ok (.ifCond .le 29, 3) := by decide +kernel
theorem dX6_takeBack_7 : decode cX6_takeBack 7 = .ok (.aload_n 0, 1) := by decide +kernel
theorem dX6_takeBack_8 : decode cX6_takeBack 8 = .ok (.dup, 1) := by decide +kernel
theorem dX6_takeBack_9 : decode cX6_takeBack 9 = .ok (.getfield 22, 3) := by decide +kernel
theorem dX6_takeBack_12 : decode cX6_takeBack 12 = .ok (.iconst 1, 1) := by decide +kernel
theorem dX6_takeBack_13 : decode cX6_takeBack 13 = .ok (.isub, 1) := by decide +kernel
theorem dX6_takeBack_14 : decode cX6_takeBack 14 = .ok (.putfield 22, 3) := by decide +kernel
theorem dX6_takeBack_17 : decode cX6_takeBack 17 = .ok (.aload_n 0, 1) := by decide +kernel
theorem dX6_takeBack_18 : decode cX6_takeBack 18 = .ok (.getfield 12, 3) := by decide +kernel
theorem dX6_takeBack_21 : decode cX6_takeBack 21 = .ok (.aload_n 0, 1) := by decide +kernel
theorem dX6_takeBack_22 : decode cX6_takeBack 22 = .ok (.getfield 18, 3) := by decide +kernel
theorem dX6_takeBack_25 : decode cX6_takeBack 25 = .ok (.aload_n 0, 1) := by decide +kernel
theorem dX6_takeBack_26 : decode cX6_takeBack 26 = .ok (.getfield 22, 3) := by decide +kernel
theorem dX6_takeBack_29 : decode cX6_takeBack 29 = .ok (.aaload, 1) := by decide +kernel
theorem dX6_takeBack_30 : decode cX6_takeBack 30 = .ok (.invokevirtual 44, 3) := by decide +kernel
theorem dX6_takeBack_33 : decode cX6_takeBack 33 = .ok (.return_, 1) := by decide +kernel
theorem dX6_beginWith_0 : decode cX6_beginWith 0 = .ok (.aload_n 0, 1) := by decide +kernel
theorem dX6_beginWith_1 : decode cX6_beginWith 1 = .ok (.getfield 12, 3) := by decide +kernel
theorem dX6_beginWith_4 : decode cX6_beginWith 4 = .ok (.aload_n 1, 1) := by decide +kernel
theorem dX6_beginWith_5 : decode cX6_beginWith 5 = .ok (.invokevirtual 44, 3) := by decide +kernel
theorem dX6_beginWith_8 : decode cX6_beginWith 8 = .ok (.aload_n 0, 1) := by decide +kernel
theorem dX6_beginWith_9 : decode cX6_beginWith 9 = .ok (.iconst 0, 1) := by decide +kernel
theorem dX6_beginWith_10 : decode cX6_beginWith 10 = .ok (.putfield 22, 3) := by decide +kernel
theorem dX6_beginWith_13 : decode cX6_beginWith 13 = .ok (.aload_n 0, 1) := by decide +kernel
theorem dX6_beginWith_14 : decode cX6_beginWith 14 = .ok (.getfield 35, 3) := by decide +kernel
theorem dX6_beginWith_17 : decode cX6_beginWith 17 = .ok (.iconst 0, 1) := by decide +kernel
theorem dX6_beginWith_18 : decode cX6_beginWith 18 = .ok (.putfield 48, 3) := by decide +kernel
theorem dX6_beginWith_21 : decode cX6_beginWith 21 = .ok (.return_, 1) := by decide +kernel
end
section
-- 31.state.lean.txt
abbrev okPit (cs : Nat → ClassId) (ad : Nat → Nat) (g : Nat → va_E) (a : Nat) : Prop := ∃ (sl ti sz ro : Int) (r : Nat → Int), (0 ≤ sl ∧ sl ≤ 3) ∧ (0 ≤ sz ∧ sz ≤ 12) ∧ isPit cs ad g a sl ti sz ro r
theorem okPit.mv {cs : Nat → ClassId} {ad ad' : Nat → Nat} {g g' : Nat → va_E} {a : Nat} (hA : ∀ j, a ≤ j → j < a + 3 → ad' j = ad j) (hG : ∀ j, a ≤ j → j < a + 3 → g' j = g j) (h : okPit cs ad g a) : okPit cs ad' g' a := by
  obtain ⟨sl, ti, sz, ro, r, h1, h2, h3⟩ := h
  exact ⟨sl, ti, sz, ro, r, h1, h2, h3.mv hA hG⟩
theorem okWorld.mv2 {cs : Nat → ClassId} {ad ad' : Nat → Nat} {g g' : Nat → va_E} {a : Nat} (hA : ∀ j, a ≤ j → j < a + 10 → ad' j = ad j) (hG : ∀ j, a ≤ j → j < a + 10 → g' j = g j) (h : okWorld cs ad g a) : okWorld cs ad' g' a := by
  obtain ⟨t, z, o, r, h1, h2, h3⟩ := h
  exact ⟨t, z, o, r, h1, h2, h3.mv hA hG⟩
abbrev okNotes (cs : Nat → ClassId) (ad : Nat → Nat) (g : Nat → va_E) (a : Nat) (nz : Int) : Prop := ∃ (u v w : Nat → Int), (0 ≤ nz ∧ nz ≤ 8) ∧ (∀ k, k < 8 → (0 ≤ u k ∧ u k ≤ 3) ∧ 0 ≤ v k ∧ v k ≤ 48) ∧ isNotes cs ad g a nz u v w
theorem okNotes.mv {cs : Nat → ClassId} {ad ad' : Nat → Nat} {g g' : Nat → va_E} {a : Nat} {nz : Int} (hA : ∀ j, a ≤ j → j < a + 4 → ad' j = ad j) (hG : ∀ j, a ≤ j → j < a + 4 → g' j = g j) (h : okNotes cs ad g a nz) : okNotes cs ad' g' a nz := by
  obtain ⟨u, v, w, h1, h2, h3⟩ := h
  exact ⟨u, v, w, h1, h2, h3.mv hA hG⟩
abbrev stC (ad : Nat → Nat) (i : Nat) (ac : Int) : va_E := oC 8 [.ref (ad (i + 1)), .ref (ad (i + 11)), .int (zI ac), .ref (ad (i + 12)), .ref (ad (i + 13)), .ref (ad (i + 17))]
/-- a State: its object, its worlds, rows, pits, notes and counts are as they should be -/
def okState (cs : Nat → ClassId) (ad : Nat → Nat) (g : Nat → va_E) (i : Nat) (ac nz : Int) : Prop :=
  g i = stC ad i ac ∧ (0 ≤ ac ∧ ac ≤ 40) ∧ okWorld cs ad g (i + 1) ∧ (∃ (b : Nat → Option Nat) (f : Nat → Nat), g (i + 11) = rA (cs 4) 40 b ∧ ∀ k, k < 40 → f k < 40 ∧ b k = some (ad (i + 18 + 10 * f k))) ∧ (∀ k, k < 40 → okWorld cs ad g (i + 18 + 10 * k)) ∧
  (∃ b2 : Nat → Option Nat, g (i + 12) = rA (cs 5) 6 b2 ∧ ∀ k, k < 6 → b2 k = some (ad (i + 418 + 3 * k))) ∧ (∀ k, k < 6 → okPit cs ad g (i + 418 + 3 * k)) ∧ okNotes cs ad g (i + 13) nz ∧ ∃ r : Nat → Int, g (i + 17) = iA cs 3 r
section OKS
variable {cs : Nat → ClassId} {ad ad' : Nat → Nat} {g g' : Nat → va_E} {i : Nat} {ac nz : Int}
theorem okState.mv (hA : ∀ j, i ≤ j → j < i + 436 → ad' j = ad j) (hG : ∀ j, i ≤ j → j < i + 436 → g' j = g j) (h : okState cs ad g i ac nz) : okState cs ad' g' i ac nz := by
  obtain ⟨h1, h2, h3, ⟨b, f, h4, h5⟩, h6, ⟨b2, h7, h8⟩, h9, h10, r, h11⟩ := h
  refine ⟨?_, h2, h3.mv2 (fun j _ _ => hA j (by omega) (by omega)) (fun j _ _ => hG j (by omega) (by omega)), ⟨b, f, by rw [hG _ (by omega) (by omega)]; exact h4, fun k hk => ⟨(h5 k hk).1, ?_⟩⟩, fun k hk => (h6 k hk).mv2 (fun j _ _ => hA j (by omega) (by omega)) (fun j _ _ => hG j (by omega) (by omega)), ⟨b2, by rw [hG _ (by omega) (by omega)]; exact h7, fun k hk => by rw [hA _ (by omega) (by omega)]; exact h8 k hk⟩, fun k hk => (h9 k hk).mv (fun j _ _ => hA j (by omega) (by omega)) (fun j _ _ => hG j (by omega) (by omega)), h10.mv (fun j _ _ => hA j (by omega) (by omega)) (fun j _ _ => hG j (by omega) (by omega)), r, by rw [hG _ (by omega) (by omega)]; exact h11⟩
  · rw [hG _ (by omega) (by omega), h1]
    show stC ad i ac = stC ad' i ac
    unfold stC
    rw [hA _ (by omega) (by omega), hA _ (by omega) (by omega), hA _ (by omega) (by omega), hA _ (by omega) (by omega), hA _ (by omega) (by omega)]
  · have := (h5 k hk).1
    rw [hA _ (by omega) (by omega)]; exact (h5 k hk).2
theorem okState.head {ac' : Int} (ha : 0 ≤ ac' ∧ ac' ≤ 40) (h : okState cs ad g i ac nz) (hG : ∀ j, j ≠ i → g' j = g j) (hc : g' i = stC ad i ac') : okState cs ad g' i ac' nz := by
  obtain ⟨h1, h2, h3, ⟨b, f, h4, h5⟩, h6, ⟨b2, h7, h8⟩, h9, h10, r, h11⟩ := h
  exact ⟨hc, ha, h3.mv (fun j _ _ => hG j (by omega)), ⟨b, f, by rw [hG _ (by omega)]; exact h4, h5⟩, fun k hk => (h6 k hk).mv (fun j _ _ => hG j (by omega)), ⟨b2, by rw [hG _ (by omega)]; exact h7, h8⟩, fun k hk => (h9 k hk).mv (fun _ _ _ => rfl) (fun j _ _ => hG j (by omega)), h10.mv (fun _ _ _ => rfl) (fun j _ _ => hG j (by omega)), r, by rw [hG _ (by omega)]; exact h11⟩
theorem okState.now (h : okState cs ad g i ac nz) (hG : ∀ j, j < i + 1 ∨ i + 11 ≤ j → g' j = g j) (hw : okWorld cs ad g' (i + 1)) : okState cs ad g' i ac nz := by
  obtain ⟨h1, h2, h3, ⟨b, f, h4, h5⟩, h6, ⟨b2, h7, h8⟩, h9, h10, r, h11⟩ := h
  exact ⟨by rw [hG _ (by omega)]; exact h1, h2, hw, ⟨b, f, by rw [hG _ (by omega)]; exact h4, h5⟩, fun k hk => (h6 k hk).mv (fun j _ _ => hG j (by omega)), ⟨b2, by rw [hG _ (by omega)]; exact h7, h8⟩, fun k hk => (h9 k hk).mv (fun _ _ _ => rfl) (fun j _ _ => hG j (by omega)), h10.mv (fun _ _ _ => rfl) (fun j _ _ => hG j (by omega)), r, by rw [hG _ (by omega)]; exact h11⟩
theorem okState.bef {k : Nat} (hk : k < 40) (h : okState cs ad g i ac nz) (hG : ∀ j, j < i + 18 + 10 * k ∨ i + 18 + 10 * k + 10 ≤ j → g' j = g j) (hw : okWorld cs ad g' (i + 18 + 10 * k)) : okState cs ad g' i ac nz := by
  obtain ⟨h1, h2, h3, ⟨b, f, h4, h5⟩, h6, ⟨b2, h7, h8⟩, h9, h10, r, h11⟩ := h
  refine ⟨by rw [hG _ (by omega)]; exact h1, h2, h3.mv (fun j _ _ => hG j (by omega)), ⟨b, f, by rw [hG _ (by omega)]; exact h4, h5⟩, fun m hm => ?_, ⟨b2, by rw [hG _ (by omega)]; exact h7, h8⟩, fun m hm => (h9 m hm).mv (fun _ _ _ => rfl) (fun j _ _ => hG j (by omega)), h10.mv (fun _ _ _ => rfl) (fun j _ _ => hG j (by omega)), r, by rw [hG _ (by omega)]; exact h11⟩
  by_cases e : m = k
  · subst e; exact hw
  · exact (h6 m hm).mv (fun j _ _ => hG j (by omega))
theorem okState.pit {k : Nat} (hk : k < 6) (h : okState cs ad g i ac nz) (hG : ∀ j, j < i + 418 + 3 * k ∨ i + 418 + 3 * k + 3 ≤ j → g' j = g j) (hw : okPit cs ad g' (i + 418 + 3 * k)) : okState cs ad g' i ac nz := by
  obtain ⟨h1, h2, h3, ⟨b, f, h4, h5⟩, h6, ⟨b2, h7, h8⟩, h9, h10, r, h11⟩ := h
  refine ⟨by rw [hG _ (by omega)]; exact h1, h2, h3.mv (fun j _ _ => hG j (by omega)), ⟨b, f, by rw [hG _ (by omega)]; exact h4, h5⟩, fun m hm => (h6 m hm).mv (fun j _ _ => hG j (by omega)), ⟨b2, by rw [hG _ (by omega)]; exact h7, h8⟩, fun m hm => ?_, h10.mv (fun _ _ _ => rfl) (fun j _ _ => hG j (by omega)), r, by rw [hG _ (by omega)]; exact h11⟩
  by_cases e : m = k
  · subst e; exact hw
  · exact (h9 m hm).mv (fun _ _ _ => rfl) (fun j _ _ => hG j (by omega))
theorem okState.notes {nz' : Int} (h : okState cs ad g i ac nz) (hG : ∀ j, j < i + 13 ∨ i + 17 ≤ j → g' j = g j) (hw : okNotes cs ad g' (i + 13) nz') : okState cs ad g' i ac nz' := by
  obtain ⟨h1, h2, h3, ⟨b, f, h4, h5⟩, h6, ⟨b2, h7, h8⟩, h9, h10, r, h11⟩ := h
  exact ⟨by rw [hG _ (by omega)]; exact h1, h2, h3.mv (fun j _ _ => hG j (by omega)), ⟨b, f, by rw [hG _ (by omega)]; exact h4, h5⟩, fun k hk => (h6 k hk).mv (fun j _ _ => hG j (by omega)), ⟨b2, by rw [hG _ (by omega)]; exact h7, h8⟩, fun k hk => (h9 k hk).mv (fun _ _ _ => rfl) (fun j _ _ => hG j (by omega)), hw, r, by rw [hG _ (by omega)]; exact h11⟩
theorem okState.refused {r' : Nat → Int} (h : okState cs ad g i ac nz) (hG : ∀ j, j ≠ i + 17 → g' j = g j) (hw : g' (i + 17) = iA cs 3 r') : okState cs ad g' i ac nz := by
  obtain ⟨h1, h2, h3, ⟨b, f, h4, h5⟩, h6, ⟨b2, h7, h8⟩, h9, h10, r, h11⟩ := h
  exact ⟨by rw [hG _ (by omega)]; exact h1, h2, h3.mv (fun j _ _ => hG j (by omega)), ⟨b, f, by rw [hG _ (by omega)]; exact h4, h5⟩, fun k hk => (h6 k hk).mv (fun j _ _ => hG j (by omega)), ⟨b2, by rw [hG _ (by omega)]; exact h7, h8⟩, fun k hk => (h9 k hk).mv (fun _ _ _ => rfl) (fun j _ _ => hG j (by omega)), h10.mv (fun _ _ _ => rfl) (fun j _ _ => hG j (by omega)), r', hw⟩
theorem okState.row {b' : Nat → Option Nat} {f' : Nat → Nat} (h : okState cs ad g i ac nz) (hG : ∀ j, j ≠ i + 11 → g' j = g j) (hw : g' (i + 11) = rA (cs 4) 40 b') (hb : ∀ k, k < 40 → f' k < 40 ∧ b' k = some (ad (i + 18 + 10 * f' k))) : okState cs ad g' i ac nz := by
  obtain ⟨h1, h2, h3, ⟨b, f, h4, h5⟩, h6, ⟨b2, h7, h8⟩, h9, h10, r, h11⟩ := h
  exact ⟨by rw [hG _ (by omega)]; exact h1, h2, h3.mv (fun j _ _ => hG j (by omega)), ⟨b', f', hw, hb⟩, fun k hk => (h6 k hk).mv (fun j _ _ => hG j (by omega)), ⟨b2, by rw [hG _ (by omega)]; exact h7, h8⟩, fun k hk => (h9 k hk).mv (fun _ _ _ => rfl) (fun j _ _ => hG j (by omega)), h10.mv (fun _ _ _ => rfl) (fun j _ _ => hG j (by omega)), r, by rw [hG _ (by omega)]; exact h11⟩
end OKS
end
section
-- 32.words.lean.txt
-- words of copies
theorem q_1367 : (Jvm.Cond.methodLink "SnowRecorder$Notes" (31 : Nat) ({ cls := "java/lang/Math", name := "max", desc := "(II)I" } : Jvm.MethodName)) ∈ AW := AW_m6 167 (by decide +kernel) (by decide +kernel)
theorem q_175 : (Jvm.Cond.fieldLink "SnowRecorder$State" (71 : Nat) "SnowRecorder$World" "time" "I") ∈ AW := AW_m1 175 (by decide +kernel) (by decide +kernel)
theorem q_187 : (Jvm.Cond.fieldLink "SnowRecorder$State" (66 : Nat) "SnowRecorder$World" "pits" "I") ∈ AW := AW_m1 187 (by decide +kernel) (by decide +kernel)
theorem q_190 : (Jvm.Cond.fieldLink "SnowRecorder$State" (79 : Nat) "SnowRecorder$World" "packs" "[LSnowRecorder$Pack;") ∈ AW := AW_m1 190 (by decide +kernel) (by decide +kernel)
theorem q_242 : (Jvm.Cond.fieldLink "SnowRecorder$State" (68 : Nat) "SnowRecorder$Pit" "slope" "I") ∈ AW := AW_m2 2 (by decide +kernel) (by decide +kernel)
theorem q_245 : (Jvm.Cond.fieldLink "SnowRecorder$State" (74 : Nat) "SnowRecorder$Pit" "time" "I") ∈ AW := AW_m2 5 (by decide +kernel) (by decide +kernel)
theorem q_248 : (Jvm.Cond.fieldLink "SnowRecorder$State" (75 : Nat) "SnowRecorder$Pit" "pack" "LSnowRecorder$Pack;") ∈ AW := AW_m2 8 (by decide +kernel) (by decide +kernel)
theorem q_606 : (Jvm.Cond.methodLink "SnowRecorder$State" (83 : Nat) ({ cls := "SnowRecorder$Pack", name := "copyFrom", desc := "(LSnowRecorder$Pack;)V" } : Jvm.MethodName)) ∈ AW := AW_m3 126 (by decide +kernel) (by decide +kernel)
theorem q_635 : (Jvm.Cond.methodLink "SnowRecorder$State" (51 : Nat) ({ cls := "SnowRecorder$Pit", name := "copyFrom", desc := "(LSnowRecorder$Pit;)V" } : Jvm.MethodName)) ∈ AW := AW_m3 155 (by decide +kernel) (by decide +kernel)
theorem q_636 : (Jvm.Cond.instanceMethod ({ cls := "SnowRecorder$Pit", name := "copyFrom", desc := "(LSnowRecorder$Pit;)V" } : Jvm.MethodName)) ∈ AW := AW_m3 156 (by decide +kernel) (by decide +kernel)
theorem q_637 : (Jvm.Cond.selects "SnowRecorder$Pit" ({ cls := "SnowRecorder$Pit", name := "copyFrom", desc := "(LSnowRecorder$Pit;)V" } : Jvm.MethodName) ({ cls := "SnowRecorder$Pit", name := "copyFrom", desc := "(LSnowRecorder$Pit;)V" } : Jvm.MethodName)) ∈ AW := AW_m3 157 (by decide +kernel) (by decide +kernel)
theorem q_638 : (Jvm.Cond.code ({ cls := "SnowRecorder$Pit", name := "copyFrom", desc := "(LSnowRecorder$Pit;)V" } : Jvm.MethodName) prog_6_method_2_code (2 : Nat) (Option.none : Option Jvm.ClassFile.FieldType)) ∈ AW := AW_m3 158 (by decide +kernel) (by decide +kernel)
theorem q_639 : (Jvm.Cond.methodLink "SnowRecorder$Pit" (23 : Nat) ({ cls := "SnowRecorder$Pack", name := "copyFrom", desc := "(LSnowRecorder$Pack;)V" } : Jvm.MethodName)) ∈ AW := AW_m3 159 (by decide +kernel) (by decide +kernel)
theorem q_640 : (Jvm.Cond.methodLink "SnowRecorder$State" (54 : Nat) ({ cls := "SnowRecorder$Notes", name := "copyFrom", desc := "(LSnowRecorder$Notes;)V" } : Jvm.MethodName)) ∈ AW := AW_m3 160 (by decide +kernel) (by decide +kernel)
theorem q_641 : (Jvm.Cond.instanceMethod ({ cls := "SnowRecorder$Notes", name := "copyFrom", desc := "(LSnowRecorder$Notes;)V" } : Jvm.MethodName)) ∈ AW := AW_m3 161 (by decide +kernel) (by decide +kernel)
theorem q_642 : (Jvm.Cond.selects "SnowRecorder$Notes" ({ cls := "SnowRecorder$Notes", name := "copyFrom", desc := "(LSnowRecorder$Notes;)V" } : Jvm.MethodName) ({ cls := "SnowRecorder$Notes", name := "copyFrom", desc := "(LSnowRecorder$Notes;)V" } : Jvm.MethodName)) ∈ AW := AW_m3 162 (by decide +kernel) (by decide +kernel)
theorem q_643 : (Jvm.Cond.code ({ cls := "SnowRecorder$Notes", name := "copyFrom", desc := "(LSnowRecorder$Notes;)V" } : Jvm.MethodName) prog_4_method_2_code (2 : Nat) (Option.none : Option Jvm.ClassFile.FieldType)) ∈ AW := AW_m3 163 (by decide +kernel) (by decide +kernel)
theorem q_644 : (Jvm.Cond.methodLink "SnowRecorder$Notes" (25 : Nat) ({ cls := "java/lang/System", name := "arraycopy", desc := "(Ljava/lang/Object;ILjava/lang/Object;II)V" } : Jvm.MethodName)) ∈ AW := AW_m3 164 (by decide +kernel) (by decide +kernel)
theorem q_645 : (Jvm.Cond.methodLink "SnowRecorder$State" (57 : Nat) ({ cls := "java/lang/System", name := "arraycopy", desc := "(Ljava/lang/Object;ILjava/lang/Object;II)V" } : Jvm.MethodName)) ∈ AW := AW_m3 165 (by decide +kernel) (by decide +kernel)
theorem hd_yX2_copyFrom : yX2_copyFrom.cls ≠ "java/lang/invoke/MethodHandle" ∧ yX2_copyFrom.cls ≠ "java/lang/invoke/VarHandle" ∧ (parseMethodDescriptor yX2_copyFrom.desc).map (fun d => d.parameters.length) = some 1 := by decide +kernel
theorem hd_yX4_copyFrom : yX4_copyFrom.cls ≠ "java/lang/invoke/MethodHandle" ∧ yX4_copyFrom.cls ≠ "java/lang/invoke/VarHandle" ∧ (parseMethodDescriptor yX4_copyFrom.desc).map (fun d => d.parameters.length) = some 1 := by decide +kernel
theorem mv_yX2_copyFrom : zWv yX2_copyFrom cX2_copyFrom 2 none := ⟨q_641, q_642, q_7, q_643⟩
theorem mv_yX4_copyFrom : zWv yX4_copyFrom cX4_copyFrom 2 none := ⟨q_636, q_637, q_8, q_638⟩
end
section
-- 33.dec.lean.txt
-- decode rows of copies
theorem dX4_copyFrom_0 : decode cX4_copyFrom 0 = .ok (.aload_n 0, 1) := by decide +kernel
theorem dX4_copyFrom_1 : decode cX4_copyFrom 1 = .ok (.aload_n 1, 1) := by decide +kernel
theorem dX4_copyFrom_2 : decode cX4_copyFrom 2 = .ok (.getfield 7, 3) := by decide +kernel
theorem dX4_copyFrom_5 : decode cX4_copyFrom 5 = .ok (.putfield 7, 3) := by decide +kernel
theorem dX4_copyFrom_8 : decode cX4_copyFrom 8 = .ok (.aload_n 0, 1) := by decide +kernel
theorem dX4_copyFrom_9 : decode cX4_copyFrom 9 = .ok (.aload_n 1, 1) := by decide +kernel
theorem dX4_copyFrom_10 : decode cX4_copyFrom 10 = .ok (.getfield 13, 3) := by decide +kernel
theorem dX4_copyFrom_13 : decode cX4_copyFrom 13 = .ok (.putfield 13, 3) := by decide +kernel
theorem dX4_copyFrom_16 : decode cX4_copyFrom 16 = .ok (.aload_n 0, 1) := by decide +kernel
theorem dX4_copyFrom_17 : decode cX4_copyFrom 17 = .ok (.getfield 19, 3) := by decide +kernel
theorem dX4_copyFrom_20 : decode cX4_copyFrom 20 = .ok (.aload_n 1, 1) := by decide +kernel
theorem dX4_copyFrom_21 : decode cX4_copyFrom 21 = .ok (.getfield 19, 3) := by decide +kernel
theorem dX4_copyFrom_24 : decode cX4_copyFrom 24 = .ok (.invokevirtual 23, 3) := by decide +kernel
theorem dX4_copyFrom_27 : decode cX4_copyFrom 27 = .ok (.return_, 1) := by decide +kernel
theorem dX2_copyFrom_0 : decode cX2_copyFrom 0 = .ok (.aload_n 0, 1) := by decide +kernel
theorem dX2_copyFrom_1 : decode cX2_copyFrom 1 = .ok (.aload_n 1, 1) := by decide +kernel
theorem dX2_copyFrom_2 : decode cX2_copyFrom 2 = .ok (.getfield 9, 3) := by decide +kernel
theorem dX2_copyFrom_5 : decode cX2_copyFrom 5 = .ok (.putfield 9, 3) := by decide +kernel
theorem dX2_copyFrom_8 : decode cX2_copyFrom 8 = .ok (.aload_n 1, 1) := by decide +kernel
theorem dX2_copyFrom_9 : decode cX2_copyFrom 9 = .ok (.getfield 15, 3) := by decide +kernel
theorem dX2_copyFrom_12 : decode cX2_copyFrom 12 = .ok (.iconst 0, 1) := by decide +kernel
theorem dX2_copyFrom_13 : decode cX2_copyFrom 13 = .ok (.aload_n 0, 1) := by decide +kernel
theorem dX2_copyFrom_14 : decode cX2_copyFrom 14 = .ok (.getfield 15, 3) := by decide +kernel
theorem dX2_copyFrom_17 : decode cX2_copyFrom 17 = .ok (.iconst 0, 1) := by decide +kernel
theorem dX2_copyFrom_18 : decode cX2_copyFrom 18 = .ok (.aload_n 0, 1) := by decide +kernel
theorem dX2_copyFrom_19 : decode cX2_copyFrom 19 = .ok (.getfield 15, 3) := by decide +kernel
theorem dX2_copyFrom_22 : decode cX2_copyFrom 22 = .ok (.arraylength, 1) := by decide +kernel
theorem dX2_copyFrom_23 : decode cX2_copyFrom 23 = .ok (.invokestatic 25, 3) := by decide +kernel
theorem dX2_copyFrom_26 : decode cX2_copyFrom 26 = .ok (.aload_n 1, 1) := by decide +kernel
theorem dX2_copyFrom_27 : decode cX2_copyFrom 27 = .ok (.getfield 19, 3) := by decide +kernel
theorem dX2_copyFrom_30 : decode cX2_copyFrom 30 = .ok (.iconst 0, 1) := by decide +kernel
theorem dX2_copyFrom_31 : decode cX2_copyFrom 31 = .ok (.aload_n 0, 1) := by decide +kernel
theorem dX2_copyFrom_32 : decode cX2_copyFrom 32 = .ok (.getfield 19, 3) := by decide +kernel
theorem dX2_copyFrom_35 : decode cX2_copyFrom 35 = .ok (.iconst 0, 1) := by decide +kernel
theorem dX2_copyFrom_36 : decode cX2_copyFrom 36 = .ok (.aload_n 0, 1) := by decide +kernel
theorem dX2_copyFrom_37 : decode cX2_copyFrom 37 = .ok (.getfield 19, 3) := by decide +kernel
theorem dX2_copyFrom_40 : decode cX2_copyFrom 40 = .ok (.arraylength, 1) := by decide +kernel
theorem dX2_copyFrom_41 : decode cX2_copyFrom 41 = .ok (.invokestatic 25, 3) := by decide +kernel
theorem dX2_copyFrom_44 : decode cX2_copyFrom 44 = .ok (.aload_n 1, 1) := by decide +kernel
theorem dX2_copyFrom_45 : decode cX2_copyFrom 45 = .ok (.getfield 22, 3) := by decide +kernel
theorem dX2_copyFrom_48 : decode cX2_copyFrom 48 = .ok (.iconst 0, 1) := by decide +kernel
theorem dX2_copyFrom_49 : decode cX2_copyFrom 49 = .ok (.aload_n 0, 1) := by decide +kernel
theorem dX2_copyFrom_50 : decode cX2_copyFrom 50 = .ok (.getfield 22, 3) := by decide +kernel
theorem dX2_copyFrom_53 : decode cX2_copyFrom 53 = .ok (.iconst 0, 1) := by decide +kernel
theorem dX2_copyFrom_54 : decode cX2_copyFrom 54 = .ok (.aload_n 0, 1) := by decide +kernel
theorem dX2_copyFrom_55 : decode cX2_copyFrom 55 = .ok (.getfield 22, 3) := by decide +kernel
theorem dX2_copyFrom_58 : decode cX2_copyFrom 58 = .ok (.arraylength, 1) := by decide +kernel
theorem dX2_copyFrom_59 : decode cX2_copyFrom 59 = .ok (.invokestatic 25, 3) := by decide +kernel
theorem dX2_copyFrom_62 : decode cX2_copyFrom 62 = .ok (.return_, 1) := by decide +kernel
theorem dX2_add_0 : decode cX2_add 0 = .ok (.aload_n 0, 1) := by decide +kernel
theorem dX2_add_1 : decode cX2_add 1 = .ok (.getfield 9, 3) := by decide +kernel
theorem dX2_add_4 : decode cX2_add 4 = .ok (.bipush 8, 2) := by decide +kernel
theorem dX2_add_6 : decode cX2_add 6 = .ok (.if_icmp .ge 43, 3) := by decide +kernel
theorem dX2_add_49 : decode cX2_add 49 = .ok (.return_, 1) := by decide +kernel
theorem dX2_add_9 : decode cX2_add 9 = .ok (.aload_n 0, 1) := by decide +kernel
theorem dX2_add_10 : decode cX2_add 10 = .ok (.getfield 15, 3) := by decide +kernel
theorem dX2_add_13 : decode cX2_add 13 = .ok (.aload_n 0, 1) := by decide +kernel
theorem dX2_add_14 : decode cX2_add 14 = .ok (.getfield 9, 3) := by decide +kernel
theorem dX2_add_17 : decode cX2_add 17 = .ok (.iload_n 1, 1) := by decide +kernel
theorem dX2_add_18 : decode cX2_add 18 = .ok (.iastore, 1) := by decide +kernel
theorem dX2_add_19 : decode cX2_add 19 = .ok (.aload_n 0, 1) := by decide +kernel
theorem dX2_add_20 : decode cX2_add 20 = .ok (.getfield 19, 3) := by decide +kernel
theorem dX2_add_23 : decode cX2_add 23 = .ok (.aload_n 0, 1) := by decide +kernel
theorem dX2_add_24 : decode cX2_add 24 = .ok (.getfield 9, 3) := by decide +kernel
theorem dX2_add_27 : decode cX2_add 27 = .ok (.iload_n 2, 1) := by decide +kernel
theorem dX2_add_28 : decode cX2_add 28 = .ok (.iastore, 1) := by decide +kernel
theorem dX2_add_29 : decode cX2_add 29 = .ok (.aload_n 0, 1) := by decide +kernel
theorem dX2_add_30 : decode cX2_add 30 = .ok (.getfield 22, 3) := by decide +kernel
theorem dX2_add_33 : decode cX2_add 33 = .ok (.aload_n 0, 1) := by decide +kernel
theorem dX2_add_34 : decode cX2_add 34 = .ok (.getfield 9, 3) := by decide +kernel
theorem dX2_add_37 : decode cX2_add 37 = .ok (.iload_n 3, 1) := by decide +kernel
theorem dX2_add_38 : decode cX2_add 38 = .ok (.iastore, 1) := by decide +kernel
theorem dX2_add_39 : decode cX2_add 39 = .ok (.aload_n 0, 1) := by decide +kernel
theorem dX2_add_40 : decode cX2_add 40 = .ok (.dup, 1) := by decide +kernel
theorem dX2_add_41 : decode cX2_add 41 = .ok (.getfield 9, 3) := by decide +kernel
theorem dX2_add_44 : decode cX2_add 44 = .ok (.iconst 1, 1) := by decide +kernel
theorem dX2_add_45 : decode cX2_add 45 = .ok (.iadd, 1) := by decide +kernel
theorem dX2_add_46 : decode cX2_add 46 = .ok (.putfield 9, 3) := by decide +kernel
theorem dX2_slopes_4 : decode cX2_slopes 4 = .ok (.iload_n 2, 1) := by decide +kernel
theorem dX2_slopes_5 : decode cX2_slopes 5 = .ok (.aload_n 0, 1) := by decide +kernel
theorem dX2_slopes_6 : decode cX2_slopes 6 = .ok (.getfield 9, 3) := by decide +kernel
theorem dX2_slopes_9 : decode cX2_slopes 9 = .ok (.if_icmp .ge 20, 3) := by decide +kernel
theorem dX2_slopes_29 : decode cX2_slopes 29 = .ok (.iload_n 1, 1) := by decide +kernel
theorem dX2_slopes_30 : decode cX2_slopes 30 = .ok (.ireturn, 1) := by decide +kernel
theorem dX2_slopes_12 : decode cX2_slopes 12 = .ok (.iload_n 1, 1) := by decide +kernel
theorem dX2_slopes_13 : decode cX2_slopes 13 = .ok (.iconst 1, 1) := by decide +kernel
theorem dX2_slopes_14 : decode cX2_slopes 14 = .ok (.aload_n 0, 1) := by decide +kernel
theorem dX2_slopes_15 : decode cX2_slopes 15 = .ok (.getfield 15, 3) := by decide +kernel
theorem dX2_slopes_18 : decode cX2_slopes 18 = .ok (.iload_n 2, 1) := by decide +kernel
theorem dX2_slopes_19 : decode cX2_slopes 19 = .ok (.iaload, 1) := by decide +kernel
theorem dX2_slopes_20 : decode cX2_slopes 20 = .ok (.ishl, 1) := by decide +kernel
theorem dX2_slopes_21 : decode cX2_slopes 21 = .ok (.ior, 1) := by decide +kernel
theorem dX2_slopes_22 : decode cX2_slopes 22 = .ok (.istore_n 1, 1) := by decide +kernel
theorem dX2_slopes_23 : decode cX2_slopes 23 = .ok (.iinc 2 1, 3) := by decide +kernel
theorem dX2_slopes_26 : decode cX2_slopes 26 = .ok (.goto (-22), 3) := by decide +kernel
theorem dX2_slopes_0 : decode cX2_slopes 0 = .ok (.iconst 0, 1) := by decide +kernel
theorem dX2_slopes_1 : decode cX2_slopes 1 = .ok (.istore_n 1, 1) := by decide +kernel
theorem dX2_slopes_2 : decode cX2_slopes 2 = .ok (.iconst 0, 1) := by decide +kernel
theorem dX2_slopes_3 : decode cX2_slopes 3 = .ok (.istore_n 2, 1) := by decide +kernel
theorem dX2_lastHour_4 : decode cX2_lastHour 4 = .ok (.iload_n 2, 1) := by decide +kernel
theorem dX2_lastHour_5 : decode cX2_lastHour 5 = .ok (.aload_n 0, 1) := by decide +kernel
theorem dX2_lastHour_6 : decode cX2_lastHour 6 = .ok (.getfield 9, 3) := by decide +kernel
theorem dX2_lastHour_9 : decode cX2_lastHour 9 = .ok (.if_icmp .ge 20, 3) := by decide +kernel
theorem dX2_lastHour_29 : decode cX2_lastHour 29 = .ok (.iload_n 1, 1) := by decide +kernel
theorem dX2_lastHour_30 : decode cX2_lastHour 30 = .ok (.ireturn, 1) := by decide +kernel
theorem dX2_lastHour_12 : decode cX2_lastHour 12 = .ok (.iload_n 1, 1) := by decide +kernel
theorem dX2_lastHour_13 : decode cX2_lastHour 13 = .ok (.aload_n 0, 1) := by decide +kernel
theorem dX2_lastHour_14 : decode cX2_lastHour 14 = .ok (.getfield 19, 3) := by decide +kernel
theorem dX2_lastHour_17 : decode cX2_lastHour 17 = .ok (.iload_n 2, 1) := by decide +kernel
theorem dX2_lastHour_18 : decode cX2_lastHour 18 = .ok (.iaload, 1) := by decide +kernel
theorem dX2_lastHour_19 : decode cX2_lastHour 19 = .ok (.invokestatic 31, 3) := by decide +kernel
theorem dX2_lastHour_22 : decode cX2_lastHour 22 = .ok (.istore_n 1, 1) := by decide +kernel
theorem dX2_lastHour_23 : decode cX2_lastHour 23 = .ok (.iinc 2 1, 3) := by decide +kernel
theorem dX2_lastHour_26 : decode cX2_lastHour 26 = .ok (.goto (-22), 3) := by decide +kernel
theorem dX2_lastHour_0 : decode cX2_lastHour 0 = .ok (.iconst (-1), 1) := by decide +kernel
theorem dX2_lastHour_1 : decode cX2_lastHour 1 = .ok (.istore_n 1, 1) := by decide +kernel
theorem dX2_lastHour_2 : decode cX2_lastHour 2 = .ok (.iconst 0, 1) := by decide +kernel
theorem dX2_lastHour_3 : decode cX2_lastHour 3 = .ok (.istore_n 2, 1) := by decide +kernel
theorem dX6_copyFrom_0 : decode cX6_copyFrom 0 = .ok (.aload_n 0, 1) := by decide +kernel
theorem dX6_copyFrom_1 : decode cX6_copyFrom 1 = .ok (.getfield 12, 3) := by decide +kernel
theorem dX6_copyFrom_4 : decode cX6_copyFrom 4 = .ok (.aload_n 1, 1) := by decide +kernel
theorem dX6_copyFrom_5 : decode cX6_copyFrom 5 = .ok (.getfield 12, 3) := by decide +kernel
theorem dX6_copyFrom_8 : decode cX6_copyFrom 8 = .ok (.invokevirtual 44, 3) := by decide +kernel
theorem dX6_copyFrom_11 : decode cX6_copyFrom 11 = .ok (.aload_n 0, 1) := by decide +kernel
theorem dX6_copyFrom_12 : decode cX6_copyFrom 12 = .ok (.aload_n 1, 1) := by decide +kernel
theorem dX6_copyFrom_13 : decode cX6_copyFrom 13 = .ok (.getfield 22, 3) := by decide +kernel
theorem dX6_copyFrom_16 : decode cX6_copyFrom 16 = .ok (.putfield 22, 3) := by decide +kernel
theorem dX6_copyFrom_19 : decode cX6_copyFrom 19 = .ok (.iconst 0, 1) := by decide +kernel
theorem dX6_copyFrom_20 : decode cX6_copyFrom 20 = .ok (.istore_n 2, 1) := by decide +kernel
theorem dX6_copyFrom_61 : decode cX6_copyFrom 61 = .ok (.iload_n 2, 1) := by decide +kernel
theorem dX6_copyFrom_62 : decode cX6_copyFrom 62 = .ok (.aload_n 0, 1) := by decide +kernel
theorem dX6_copyFrom_63 : decode cX6_copyFrom 63 = .ok (.getfield 28, 3) := by decide +kernel
theorem dX6_copyFrom_66 : decode cX6_copyFrom 66 = .ok (.arraylength, 1) := by decide +kernel
theorem dX6_copyFrom_67 : decode cX6_copyFrom 67 = .ok (.if_icmp .ge 24, 3) := by decide +kernel
theorem dX6_copyFrom_91 : decode cX6_copyFrom 91 = .ok (.aload_n 0, 1) := by decide +kernel
theorem dX6_copyFrom_92 : decode cX6_copyFrom 92 = .ok (.getfield 35, 3) := by decide +kernel
theorem dX6_copyFrom_95 : decode cX6_copyFrom 95 = .ok (.aload_n 1, 1) := by decide +kernel
theorem dX6_copyFrom_96 : decode cX6_copyFrom 96 = .ok (.getfield 35, 3) := by decide +kernel
theorem dX6_copyFrom_99 : decode cX6_copyFrom 99 = .ok (.invokevirtual 54, 3) := by decide +kernel
theorem dX6_copyFrom_102 : decode cX6_copyFrom 102 = .ok (.aload_n 1, 1) := by decide +kernel
theorem dX6_copyFrom_103 : decode cX6_copyFrom 103 = .ok (.getfield 39, 3) := by decide +kernel
theorem dX6_copyFrom_106 : decode cX6_copyFrom 106 = .ok (.iconst 0, 1) := by decide +kernel
theorem dX6_copyFrom_107 : decode cX6_copyFrom 107 = .ok (.aload_n 0, 1) := by decide +kernel
theorem dX6_copyFrom_108 : decode cX6_copyFrom 108 = .ok (.getfield 39, 3) := by decide +kernel
theorem dX6_copyFrom_111 : decode cX6_copyFrom 111 = .ok (.iconst 0, 1) := by decide +kernel
theorem dX6_copyFrom_112 : decode cX6_copyFrom 112 = .ok (.aload_n 0, 1) := by decide +kernel
theorem dX6_copyFrom_113 : decode cX6_copyFrom 113 = .ok (.getfield 39, 3) := by decide +kernel
theorem dX6_copyFrom_116 : decode cX6_copyFrom 116 = .ok (.arraylength, 1) := by decide +kernel
theorem dX6_copyFrom_117 : decode cX6_copyFrom 117 = .ok (.invokestatic 57, 3) := by decide +kernel
theorem dX6_copyFrom_120 : decode cX6_copyFrom 120 = .ok (.return_, 1) := by decide +kernel
theorem dX6_copyFrom_70 : decode cX6_copyFrom 70 = .ok (.aload_n 0, 1) := by decide +kernel
theorem dX6_copyFrom_71 : decode cX6_copyFrom 71 = .ok (.getfield 28, 3) := by decide +kernel
theorem dX6_copyFrom_74 : decode cX6_copyFrom 74 = .ok (.iload_n 2, 1) := by decide +kernel
theorem dX6_copyFrom_75 : decode cX6_copyFrom 75 = .ok (.aaload, 1) := by decide +kernel
theorem dX6_copyFrom_76 : decode cX6_copyFrom 76 = .ok (.aload_n 1, 1) := by decide +kernel
theorem dX6_copyFrom_77 : decode cX6_copyFrom 77 = .ok (.getfield 28, 3) := by decide +kernel
theorem dX6_copyFrom_80 : decode cX6_copyFrom 80 = .ok (.iload_n 2, 1) := by decide +kernel
theorem dX6_copyFrom_81 : decode cX6_copyFrom 81 = .ok (.aaload, 1) := by decide +kernel
theorem dX6_copyFrom_82 : decode cX6_copyFrom 82 = .ok (.invokevirtual 51, 3) := by decide +kernel
theorem dX6_copyFrom_85 : decode cX6_copyFrom 85 = .ok (.iinc 2 1, 3) := by decide +kernel
theorem dX6_copyFrom_88 : decode cX6_copyFrom 88 = .ok (.goto (-27), 3) := by decide +kernel
theorem dX6_copyFrom_21 : decode cX6_copyFrom 21 = .ok (.iload_n 2, 1) := by decide +kernel
theorem dX6_copyFrom_22 : decode cX6_copyFrom 22 = .ok (.aload_n 0, 1) := by decide +kernel
theorem dX6_copyFrom_23 : decode cX6_copyFrom 23 = .ok (.getfield 22, 3) := by decide +kernel
theorem dX6_copyFrom_26 : decode cX6_copyFrom 26 = .ok (.if_icmp .ge 33, 3) := by decide +kernel
theorem dX6_copyFrom_59 : decode cX6_copyFrom 59 = .ok (.iconst 0, 1) := by decide +kernel
theorem dX6_copyFrom_60 : decode cX6_copyFrom 60 = .ok (.istore_n 2, 1) := by decide +kernel
theorem dX6_copyFrom_29 : decode cX6_copyFrom 29 = .ok (.iload_n 2, 1) := by decide +kernel
theorem dX6_copyFrom_30 : decode cX6_copyFrom 30 = .ok (.aload_n 0, 1) := by decide +kernel
theorem dX6_copyFrom_31 : decode cX6_copyFrom 31 = .ok (.getfield 18, 3) := by decide +kernel
theorem dX6_copyFrom_34 : decode cX6_copyFrom 34 = .ok (.arraylength, 1) := by decide +kernel
theorem dX6_copyFrom_35 : decode cX6_copyFrom 35 = .ok (.if_icmp .ge 24, 3) := by decide +kernel
theorem dX6_copyFrom_38 : decode cX6_copyFrom 38 = .ok (.aload_n 0, 1) := by decide +kernel
theorem dX6_copyFrom_39 : decode cX6_copyFrom 39 = .ok (.getfield 18, 3) := by decide +kernel
theorem dX6_copyFrom_42 : decode cX6_copyFrom 42 = .ok (.iload_n 2, 1) := by decide +kernel
theorem dX6_copyFrom_43 : decode cX6_copyFrom 43 = .ok (.aaload, 1) := by decide +kernel
theorem dX6_copyFrom_44 : decode cX6_copyFrom 44 = .ok (.aload_n 1, 1) := by decide +kernel
theorem dX6_copyFrom_45 : decode cX6_copyFrom 45 = .ok (.getfield 18, 3) := by decide +kernel
theorem dX6_copyFrom_48 : decode cX6_copyFrom 48 = .ok (.iload_n 2, 1) := by decide +kernel
theorem dX6_copyFrom_49 : decode cX6_copyFrom 49 = .ok (.aaload, 1) := by decide +kernel
theorem dX6_copyFrom_50 : decode cX6_copyFrom 50 = .ok (.invokevirtual 44, 3) := by decide +kernel
theorem dX6_copyFrom_53 : decode cX6_copyFrom 53 = .ok (.iinc 2 1, 3) := by decide +kernel
theorem dX6_copyFrom_56 : decode cX6_copyFrom 56 = .ok (.goto (-35), 3) := by decide +kernel
theorem dX6_keepPit_0 : decode cX6_keepPit 0 = .ok (.aload_n 0, 1) := by decide +kernel
theorem dX6_keepPit_1 : decode cX6_keepPit 1 = .ok (.getfield 12, 3) := by decide +kernel
theorem dX6_keepPit_4 : decode cX6_keepPit 4 = .ok (.getfield 66, 3) := by decide +kernel
theorem dX6_keepPit_7 : decode cX6_keepPit 7 = .ok (.bipush 6, 2) := by decide +kernel
theorem dX6_keepPit_9 : decode cX6_keepPit 9 = .ok (.if_icmp .ge 61, 3) := by decide +kernel
theorem dX6_keepPit_70 : decode cX6_keepPit 70 = .ok (.return_, 1) := by decide +kernel
theorem dX6_keepPit_12 : decode cX6_keepPit 12 = .ok (.aload_n 0, 1) := by decide +kernel
theorem dX6_keepPit_13 : decode cX6_keepPit 13 = .ok (.getfield 28, 3) := by decide +kernel
theorem dX6_keepPit_16 : decode cX6_keepPit 16 = .ok (.aload_n 0, 1) := by decide +kernel
theorem dX6_keepPit_17 : decode cX6_keepPit 17 = .ok (.getfield 12, 3) := by decide +kernel
theorem dX6_keepPit_20 : decode cX6_keepPit 20 = .ok (.getfield 66, 3) := by decide +kernel
theorem dX6_keepPit_23 : decode cX6_keepPit 23 = .ok (.aaload, 1) := by decide +kernel
theorem dX6_keepPit_24 : decode cX6_keepPit 24 = .ok (.astore_n 2, 1) := by decide +kernel
theorem dX6_keepPit_25 : decode cX6_keepPit 25 = .ok (.aload_n 2, 1) := by decide +kernel
theorem dX6_keepPit_26 : decode cX6_keepPit 26 = .ok (.iload_n 1, 1) := by decide +kernel
theorem dX6_keepPit_27 : decode cX6_keepPit 27 = .ok (.putfield 68, 3) := by decide +kernel
theorem dX6_keepPit_30 : decode cX6_keepPit 30 = .ok (.aload_n 2, 1) := by decide +kernel
theorem dX6_keepPit_31 : decode cX6_keepPit 31 = .ok (.aload_n 0, 1) := by decide +kernel
theorem dX6_keepPit_32 : decode cX6_keepPit 32 = .ok (.getfield 12, 3) := by decide +kernel
theorem dX6_keepPit_35 : decode cX6_keepPit 35 = .ok (.getfield 71, 3) := by decide +kernel
theorem dX6_keepPit_38 : decode cX6_keepPit 38 = .ok (.putfield 74, 3) := by decide +kernel
theorem dX6_keepPit_41 : decode cX6_keepPit 41 = .ok (.aload_n 2, 1) := by decide +kernel
theorem dX6_keepPit_42 : decode cX6_keepPit 42 = .ok (.getfield 75, 3) := by decide +kernel
theorem dX6_keepPit_45 : decode cX6_keepPit 45 = .ok (.aload_n 0, 1) := by decide +kernel
theorem dX6_keepPit_46 : decode cX6_keepPit 46 = .ok (.getfield 12, 3) := by decide +kernel
theorem dX6_keepPit_49 : decode cX6_keepPit 49 = .ok (.getfield 79, 3) := by decide +kernel
theorem dX6_keepPit_52 : decode cX6_keepPit 52 = .ok (.iload_n 1, 1) := by decide +kernel
theorem dX6_keepPit_53 : decode cX6_keepPit 53 = .ok (.aaload, 1) := by decide +kernel
theorem dX6_keepPit_54 : decode cX6_keepPit 54 = .ok (.invokevirtual 83, 3) := by decide +kernel
theorem dX6_keepPit_57 : decode cX6_keepPit 57 = .ok (.aload_n 0, 1) := by decide +kernel
theorem dX6_keepPit_58 : decode cX6_keepPit 58 = .ok (.getfield 12, 3) := by decide +kernel
theorem dX6_keepPit_61 : decode cX6_keepPit 61 = .ok (.dup, 1) := by decide +kernel
theorem dX6_keepPit_62 : decode cX6_keepPit 62 = .ok (.getfield 66, 3) := by decide +kernel
theorem dX6_keepPit_65 : decode cX6_keepPit 65 = .ok (.iconst 1, 1) := by decide +kernel
theorem dX6_keepPit_66 : decode cX6_keepPit 66 = .ok (.iadd, 1) := by decide +kernel
theorem dX6_keepPit_67 : decode cX6_keepPit 67 = .ok (.putfield 66, 3) := by decide +kernel
end
section
-- 34.copies.lean.txt
set_option maxRecDepth 100000 in
set_option maxHeartbeats 4000000 in
theorem c_X2_slopes (l : Launch) (D : va_G) (A : Nat → Prop) (cs : Nat → ClassId) (tt : Nat) (N : Nat) (ad : Nat → Nat) (g : Nat → va_E) (a : Nat) (hN : a + 4 ≤ N) (nz : Int) (ha : okNotes cs ad g a nz) : zM l yX2_slopes cX2_slopes 3 (some .int) ({ frames := 1, cells := 0, slots := 0, locals := 60 } : Room) D A cs tt N ad g [.ref (ad a)] (rI0 N ad fun r g' => (-2147483648 ≤ r ∧ r ≤ 2147483647) ∧ g = g') := by
  obtain ⟨nu, nv, nw, n1, n2, n3, n4, n5, n6⟩ := id ha
  have hay1 : zAt ad (a) (ad a) := rfl
  have hay2 : zAt ad (a + 1) (ad (a + 1)) := rfl
  have hay3 : zAt ad (a + 2) (ad (a + 2)) := rfl
  have hay4 : zAt ad (a + 3) (ad (a + 3)) := rfl
  refine z_of (by decide) (Nat.le_of_ble_eq_true rfl) ?_
  intro p e s m below meth c C hr hlk hnm
  refine z_lv (lv' := [(0, .ref (ad a))]) [0] rfl ?_
  have lp : ∀ (n9 : Nat) (al : Int) (i : Int) (g1 : Nat → va_E), (nz - i).toNat = n9 → (g1 = g) → (-2147483648 ≤ al ∧ al ≤ 2147483647) → (0 ≤ i ∧ i ≤ 8) → zV p l e ({ frames := 1, cells := 0, slots := 0, locals := 60 } : Room) s m ([.ref (ad a)] : List Value).toArray below meth c (MQ below (zPost D A (rI0 N ad fun r g' => (-2147483648 ≤ r ∧ r ≤ 2147483647) ∧ g = g')) ([.ref (ad a)] : List Value).toArray s ({ frames := 1, cells := 0, slots := 0, locals := 60 } : Room).cells ({ frames := 1, cells := 0, slots := 0, locals := 60 } : Room).slots A) D A 3 (N) ad g1 (0) (0) 4 [(2, .int (zI (i))), (1, .int (zI (al))), (0, .ref (ad a))] [] := by
    intro n9
    induction n9 using Nat.strongRecOn with
    | ind n9 ih =>
      intro al i g1 hm9 hg1 hv0 hv1
      subst hg1
      obtain ⟨nu, nv, nw, n1, n2, n3, n4, n5, n6⟩ := id ha
      have hay5 : zAt ad (a) (ad a) := rfl
      have hay6 : zAt ad (a + 1) (ad (a + 1)) := rfl
      have hay7 : zAt ad (a + 2) (ad (a + 2)) := rfl
      have hay8 : zAt ad (a + 3) (ad (a + 3)) := rfl
      refine z_iload_n C 0 dX2_slopes_4 rfl ?_
      refine z_aload_n C 2 dX2_slopes_5 rfl ?_
      refine z_get (v := .int (zI (nz))) C (lt_A0 hN rfl) hay5 n3 rfl inA_X2 0 (by decide) q_216 rfl rfl dX2_slopes_6 ?_
      refine z_icmp_ge (tgt := 29) C dX2_slopes_9 (by decide) (by omega) (by omega) (fun hby9 => ?_) (fun hby9 => ?_)
      · refine z_iload_n C 1 dX2_slopes_29 rfl ?_
        exact z_iret C hr hlk dX2_slopes_30 (by decide) (by decide) ⟨al, rfl, rfl, rfl, by omega, rfl⟩
      · refine z_iload_n C 1 dX2_slopes_12 rfl ?_
        refine z_iconst (z := 1) C dX2_slopes_13 rfl ?_
        refine z_aload_n C 2 dX2_slopes_14 rfl ?_
        refine z_get (v := .ref (ad (a + 1))) C (lt_A0 hN rfl) hay5 n3 rfl inA_X2 1 (by decide) q_219 rfl rfl dX2_slopes_15 ?_
        refine z_iload_n C 0 dX2_slopes_18 rfl ?_
        refine z_iald C (lt_A (c := 1) hN rfl) hay6 n4 ((i).toNat) (by omega) (by omega) (by decide) dX2_slopes_19 ?_
        have hrfy10 := n2 ((i).toNat) (by omega)
        obtain ⟨xy11, exy12, hxy13⟩ := zI_of (zI (1) <<< (zI (nu ((i).toNat)) &&& 31))
        refine z_ishl (z := xy11) C dX2_slopes_20 exy12 ?_
        obtain ⟨xy14, exy15, hxy16⟩ := zI_of (zI (al) ||| zI (xy11))
        refine z_ior (z := xy14) C dX2_slopes_21 exy15 ?_
        refine z_istore_n (lv' := [(1, .int (zI (xy14))), (2, .int (zI (i))), (0, .ref (ad a))]) C dX2_slopes_22 rfl (by decide) rfl ?_
        refine z_iinc (z := i + 1) (lv' := [(2, .int (zI (i + 1))), (1, .int (zI (xy14))), (0, .ref (ad a))]) (j := 1) C dX2_slopes_23 rfl rfl (by decide) rfl ?_
        refine z_goto (tgt := 4) C dX2_slopes_26 (by decide) ?_
        refine z_lv (lv' := [(2, .int (zI (i + 1))), (1, .int (zI (xy14))), (0, .ref (ad a))]) [0, 1, 2] rfl ?_
        exact ih _ (by omega) (xy14) (i + 1) _ rfl rfl (by omega) (by omega)
  refine z_iconst (z := 0) C dX2_slopes_0 rfl ?_
  refine z_istore_n (lv' := [(1, .int (zI (0))), (0, .ref (ad a))]) C dX2_slopes_1 rfl (by decide) rfl ?_
  refine z_iconst (z := 0) C dX2_slopes_2 rfl ?_
  refine z_istore_n (lv' := [(2, .int (zI (0))), (1, .int (zI (0))), (0, .ref (ad a))]) C dX2_slopes_3 rfl (by decide) rfl ?_
  refine z_lv (lv' := [(2, .int (zI (0))), (1, .int (zI (0))), (0, .ref (ad a))]) [0, 1, 2] rfl ?_
  exact lp _ (0) (0) _ rfl rfl (by omega) (by omega)

set_option maxRecDepth 100000 in
set_option maxHeartbeats 4000000 in
theorem c_X2_lastHour (l : Launch) (D : va_G) (A : Nat → Prop) (cs : Nat → ClassId) (tt : Nat) (N : Nat) (ad : Nat → Nat) (g : Nat → va_E) (a : Nat) (hN : a + 4 ≤ N) (nz : Int) (ha : okNotes cs ad g a nz) : zM l yX2_lastHour cX2_lastHour 3 (some .int) ({ frames := 2, cells := 0, slots := 0, locals := 120 } : Room) D A cs tt N ad g [.ref (ad a)] (rI0 N ad fun r g' => (-1 ≤ r ∧ r ≤ 48) ∧ g = g') := by
  obtain ⟨nu, nv, nw, n1, n2, n3, n4, n5, n6⟩ := id ha
  have hay1 : zAt ad (a) (ad a) := rfl
  have hay2 : zAt ad (a + 1) (ad (a + 1)) := rfl
  have hay3 : zAt ad (a + 2) (ad (a + 2)) := rfl
  have hay4 : zAt ad (a + 3) (ad (a + 3)) := rfl
  refine z_of (by decide) (Nat.le_of_ble_eq_true rfl) ?_
  intro p e s m below meth c C hr hlk hnm
  refine z_lv (lv' := [(0, .ref (ad a))]) [0] rfl ?_
  have lp : ∀ (n9 : Nat) (al : Int) (i : Int) (g1 : Nat → va_E), (nz - i).toNat = n9 → (g1 = g) → (-1 ≤ al ∧ al ≤ 48) → (0 ≤ i ∧ i ≤ 8) → zV p l e ({ frames := 2, cells := 0, slots := 0, locals := 120 } : Room) s m ([.ref (ad a)] : List Value).toArray below meth c (MQ below (zPost D A (rI0 N ad fun r g' => (-1 ≤ r ∧ r ≤ 48) ∧ g = g')) ([.ref (ad a)] : List Value).toArray s ({ frames := 2, cells := 0, slots := 0, locals := 120 } : Room).cells ({ frames := 2, cells := 0, slots := 0, locals := 120 } : Room).slots A) D A 3 (N) ad g1 (0) (0) 4 [(2, .int (zI (i))), (1, .int (zI (al))), (0, .ref (ad a))] [] := by
    intro n9
    induction n9 using Nat.strongRecOn with
    | ind n9 ih =>
      intro al i g1 hm9 hg1 hv0 hv1
      subst hg1
      obtain ⟨nu, nv, nw, n1, n2, n3, n4, n5, n6⟩ := id ha
      have hay5 : zAt ad (a) (ad a) := rfl
      have hay6 : zAt ad (a + 1) (ad (a + 1)) := rfl
      have hay7 : zAt ad (a + 2) (ad (a + 2)) := rfl
      have hay8 : zAt ad (a + 3) (ad (a + 3)) := rfl
      refine z_iload_n C 0 dX2_lastHour_4 rfl ?_
      refine z_aload_n C 2 dX2_lastHour_5 rfl ?_
      refine z_get (v := .int (zI (nz))) C (lt_A0 hN rfl) hay5 n3 rfl inA_X2 0 (by decide) q_216 rfl rfl dX2_lastHour_6 ?_
      refine z_icmp_ge (tgt := 29) C dX2_lastHour_9 (by decide) (by omega) (by omega) (fun hby9 => ?_) (fun hby9 => ?_)
      · refine z_iload_n C 1 dX2_lastHour_29 rfl ?_
        exact z_iret C hr hlk dX2_lastHour_30 (by decide) (by decide) ⟨al, rfl, rfl, rfl, by omega, rfl⟩
      · refine z_iload_n C 1 dX2_lastHour_12 rfl ?_
        refine z_aload_n C 2 dX2_lastHour_13 rfl ?_
        refine z_get (v := .ref (ad (a + 2))) C (lt_A0 hN rfl) hay5 n3 rfl inA_X2 2 (by decide) q_221 rfl rfl dX2_lastHour_14 ?_
        refine z_iload_n C 0 dX2_lastHour_17 rfl ?_
        refine z_iald C (lt_A (c := 2) hN rfl) hay7 n5 ((i).toNat) (by omega) (by omega) (by decide) dX2_lastHour_18 ?_
        have hrfy10 := n2 ((i).toNat) (by omega)
        refine z_mmax C q_1367 q_470 q_20 q_471 (by omega) (by omega) (by decide) (Nat.le_of_ble_eq_true rfl) (by decide) (by decide) dX2_lastHour_19 ?_
        obtain ⟨xy11, exy12, hxy13⟩ := mm_max (al) (nv ((i).toNat))
        rw [exy12]
        refine z_istore_n (lv' := [(1, .int (zI (xy11))), (2, .int (zI (i))), (0, .ref (ad a))]) C dX2_lastHour_22 rfl (by decide) rfl ?_
        refine z_iinc (z := i + 1) (lv' := [(2, .int (zI (i + 1))), (1, .int (zI (xy11))), (0, .ref (ad a))]) (j := 1) C dX2_lastHour_23 rfl rfl (by decide) rfl ?_
        refine z_goto (tgt := 4) C dX2_lastHour_26 (by decide) ?_
        refine z_lv (lv' := [(2, .int (zI (i + 1))), (1, .int (zI (xy11))), (0, .ref (ad a))]) [0, 1, 2] rfl ?_
        exact ih _ (by omega) (xy11) (i + 1) _ rfl rfl (by omega) (by omega)
  refine z_iconst (z := -1) C dX2_lastHour_0 rfl ?_
  refine z_istore_n (lv' := [(1, .int (zI (-1))), (0, .ref (ad a))]) C dX2_lastHour_1 rfl (by decide) rfl ?_
  refine z_iconst (z := 0) C dX2_lastHour_2 rfl ?_
  refine z_istore_n (lv' := [(2, .int (zI (0))), (1, .int (zI (-1))), (0, .ref (ad a))]) C dX2_lastHour_3 rfl (by decide) rfl ?_
  refine z_lv (lv' := [(2, .int (zI (0))), (1, .int (zI (-1))), (0, .ref (ad a))]) [0, 1, 2] rfl ?_
  exact lp _ (-1) (0) _ rfl rfl (by omega) (by omega)
end
section
-- 35.words.lean.txt
-- words of like
theorem q_1338 : (Jvm.Cond.methodLink "SnowRecorder$Likeness" (24 : Nat) ({ cls := "java/lang/Math", name := "max", desc := "(II)I" } : Jvm.MethodName)) ∈ AW := AW_m6 138 (by decide +kernel) (by decide +kernel)
theorem q_1343 : (Jvm.Cond.methodLink "SnowRecorder$Likeness" (30 : Nat) ({ cls := "java/lang/Math", name := "min", desc := "(II)I" } : Jvm.MethodName)) ∈ AW := AW_m6 143 (by decide +kernel) (by decide +kernel)
theorem q_155 : (Jvm.Cond.fieldLink "SnowRecorder$Likeness" (15 : Nat) "SnowRecorder$Pack" "size" "I") ∈ AW := AW_m1 155 (by decide +kernel) (by decide +kernel)
theorem q_163 : (Jvm.Cond.fieldLink "SnowRecorder$Likeness" (21 : Nat) "SnowRecorder$Pack" "cells" "[I") ∈ AW := AW_m1 163 (by decide +kernel) (by decide +kernel)
end
section
-- 36.dec.lean.txt
-- decode rows of like
theorem dX0_clear_0 : decode cX0_clear 0 = .ok (.aload_n 0, 1) := by decide +kernel
theorem dX0_clear_1 : decode cX0_clear 1 = .ok (.iconst 0, 1) := by decide +kernel
theorem dX0_clear_2 : decode cX0_clear 2 = .ok (.putfield 9, 3) := by decide +kernel
theorem dX0_clear_5 : decode cX0_clear 5 = .ok (.aload_n 0, 1) := by decide +kernel
theorem dX0_clear_6 : decode cX0_clear 6 = .ok (.iconst (-1), 1) := by decide +kernel
theorem dX0_clear_7 : decode cX0_clear 7 = .ok (.putfield 15, 3) := by decide +kernel
theorem dX0_clear_10 : decode cX0_clear 10 = .ok (.iconst 0, 1) := by decide +kernel
theorem dX0_clear_11 : decode cX0_clear 11 = .ok (.istore_n 1, 1) := by decide +kernel
theorem dX0_clear_12 : decode cX0_clear 12 = .ok (.iload_n 1, 1) := by decide +kernel
theorem dX0_clear_13 : decode cX0_clear 13 = .ok (.aload_n 0, 1) := by decide +kernel
theorem dX0_clear_14 : decode cX0_clear 14 = .ok (.getfield 18, 3) := by decide +kernel
theorem dX0_clear_17 : decode cX0_clear 17 = .ok (.arraylength, 1) := by decide +kernel
theorem dX0_clear_18 : decode cX0_clear 18 = .ok (.if_icmp .ge 16, 3) := by decide +kernel
theorem dX0_clear_21 : decode cX0_clear 21 = .ok (.aload_n 0, 1) := by decide +kernel
theorem dX0_clear_22 : decode cX0_clear 22 = .ok (.getfield 18, 3) := by decide +kernel
theorem dX0_clear_25 : decode cX0_clear 25 = .ok (.iload_n 1, 1) := by decide +kernel
theorem dX0_clear_26 : decode cX0_clear 26 = .ok (.iconst 0, 1) := by decide +kernel
theorem dX0_clear_27 : decode cX0_clear 27 = .ok (.iastore, 1) := by decide +kernel
theorem dX0_clear_28 : decode cX0_clear 28 = .ok (.iinc 1 1, 3) := by decide +kernel
theorem dX0_clear_31 : decode cX0_clear 31 = .ok (.goto (-19), 3) := by decide +kernel
theorem dX0_clear_34 : decode cX0_clear 34 = .ok (.return_, 1) := by decide +kernel
theorem dX0_add_0 : decode cX0_add 0 = .ok (.aload_n 0, 1) := by decide +kernel
theorem dX0_add_1 : decode cX0_add 1 = .ok (.getfield 9, 3) := by decide +kernel
theorem dX0_add_4 : decode cX0_add 4 = .ok (.ifCond .ne 8, 3) := by decide +kernel
theorem dX0_add_12 : decode cX0_add 12 = .ok (.aload_n 0, 1) := by decide +kernel
theorem dX0_add_13 : decode cX0_add 13 = .ok (.dup, 1) := by decide +kernel
theorem dX0_add_14 : decode cX0_add 14 = .ok (.getfield 9, 3) := by decide +kernel
theorem dX0_add_17 : decode cX0_add 17 = .ok (.iconst 1, 1) := by decide +kernel
theorem dX0_add_18 : decode cX0_add 18 = .ok (.iadd, 1) := by decide +kernel
theorem dX0_add_19 : decode cX0_add 19 = .ok (.putfield 9, 3) := by decide +kernel
theorem dX0_add_22 : decode cX0_add 22 = .ok (.return_, 1) := by decide +kernel
theorem dX0_add_7 : decode cX0_add 7 = .ok (.aload_n 0, 1) := by decide +kernel
theorem dX0_add_8 : decode cX0_add 8 = .ok (.iload_n 1, 1) := by decide +kernel
theorem dX0_add_9 : decode cX0_add 9 = .ok (.putfield 15, 3) := by decide +kernel
theorem dX0_see_0 : decode cX0_see 0 = .ok (.aload_n 0, 1) := by decide +kernel
theorem dX0_see_1 : decode cX0_see 1 = .ok (.getfield 24, 3) := by decide +kernel
theorem dX0_see_4 : decode cX0_see 4 = .ok (.iload_n 1, 1) := by decide +kernel
theorem dX0_see_5 : decode cX0_see 5 = .ok (.aaload, 1) := by decide +kernel
theorem dX0_see_6 : decode cX0_see 6 = .ok (.astore_n 3, 1) := by decide +kernel
theorem dX0_see_7 : decode cX0_see 7 = .ok (.iconst 0, 1) := by decide +kernel
theorem dX0_see_8 : decode cX0_see 8 = .ok (.istore 4, 2) := by decide +kernel
theorem dX0_see_10 : decode cX0_see 10 = .ok (.iload 4, 2) := by decide +kernel
theorem dX0_see_12 : decode cX0_see 12 = .ok (.aload_n 0, 1) := by decide +kernel
theorem dX0_see_13 : decode cX0_see 13 = .ok (.getfield 18, 3) := by decide +kernel
theorem dX0_see_16 : decode cX0_see 16 = .ok (.iload_n 1, 1) := by decide +kernel
theorem dX0_see_17 : decode cX0_see 17 = .ok (.iaload, 1) := by decide +kernel
theorem dX0_see_18 : decode cX0_see 18 = .ok (.if_icmp .ge 18, 3) := by decide +kernel
theorem dX0_see_36 : decode cX0_see 36 = .ok (.aload_n 0, 1) := by decide +kernel
theorem dX0_see_37 : decode cX0_see 37 = .ok (.getfield 18, 3) := by decide +kernel
theorem dX0_see_40 : decode cX0_see 40 = .ok (.iload_n 1, 1) := by decide +kernel
theorem dX0_see_41 : decode cX0_see 41 = .ok (.iaload, 1) := by decide +kernel
theorem dX0_see_42 : decode cX0_see 42 = .ok (.aload_n 3, 1) := by decide +kernel
theorem dX0_see_43 : decode cX0_see 43 = .ok (.arraylength, 1) := by decide +kernel
theorem dX0_see_44 : decode cX0_see 44 = .ok (.if_icmp .ge 22, 3) := by decide +kernel
theorem dX0_see_66 : decode cX0_see 66 = .ok (.return_, 1) := by decide +kernel
theorem dX0_see_47 : decode cX0_see 47 = .ok (.aload_n 3, 1) := by decide +kernel
theorem dX0_see_48 : decode cX0_see 48 = .ok (.aload_n 0, 1) := by decide +kernel
theorem dX0_see_49 : decode cX0_see 49 = .ok (.getfield 18, 3) := by decide +kernel
theorem dX0_see_52 : decode cX0_see 52 = .ok (.iload_n 1, 1) := by decide +kernel
theorem dX0_see_53 : decode cX0_see 53 = .ok (.iaload, 1) := by decide +kernel
theorem dX0_see_54 : decode cX0_see 54 = .ok (.iload_n 2, 1) := by decide +kernel
theorem dX0_see_55 : decode cX0_see 55 = .ok (.iastore, 1) := by decide +kernel
theorem dX0_see_56 : decode cX0_see 56 = .ok (.aload_n 0, 1) := by decide +kernel
theorem dX0_see_57 : decode cX0_see 57 = .ok (.getfield 18, 3) := by decide +kernel
theorem dX0_see_60 : decode cX0_see 60 = .ok (.iload_n 1, 1) := by decide +kernel
theorem dX0_see_61 : decode cX0_see 61 = .ok (.dup2, 1) := by decide +kernel
theorem dX0_see_62 : decode cX0_see 62 = .ok (.iaload, 1) := by decide +kernel
theorem dX0_see_63 : decode cX0_see 63 = .ok (.iconst 1, 1) := by decide +kernel
theorem dX0_see_64 : decode cX0_see 64 = .ok (.iadd, 1) := by decide +kernel
theorem dX0_see_65 : decode cX0_see 65 = .ok (.iastore, 1) := by decide +kernel
theorem dX0_see_21 : decode cX0_see 21 = .ok (.aload_n 3, 1) := by decide +kernel
theorem dX0_see_22 : decode cX0_see 22 = .ok (.iload 4, 2) := by decide +kernel
theorem dX0_see_24 : decode cX0_see 24 = .ok (.iaload, 1) := by decide +kernel
theorem dX0_see_25 : decode cX0_see 25 = .ok (.iload_n 2, 1) := by decide +kernel
theorem dX0_see_26 : decode cX0_see 26 = .ok (.if_icmp .ne 4, 3) := by decide +kernel
theorem dX0_see_30 : decode cX0_see 30 = .ok (.iinc 4 1, 3) := by decide +kernel
theorem dX0_see_33 : decode cX0_see 33 = .ok (.goto (-23), 3) := by decide +kernel
theorem dX0_see_29 : decode cX0_see 29 = .ok (.return_, 1) := by decide +kernel
theorem dX1_longestRow_25 : decode cX1_longestRow 25 = .ok (.iload_n 3, 1) := by decide +kernel
theorem dX1_longestRow_26 : decode cX1_longestRow 26 = .ok (.aload_n 1, 1) := by decide +kernel
theorem dX1_longestRow_27 : decode cX1_longestRow 27 = .ok (.getfield 15, 3) := by decide +kernel
theorem dX1_longestRow_30 : decode cX1_longestRow 30 = .ok (.if_icmp .ge 105, 3) := by decide +kernel
theorem dX1_longestRow_135 : decode cX1_longestRow 135 = .ok (.aload_n 0, 1) := by decide +kernel
theorem dX1_longestRow_136 : decode cX1_longestRow 136 = .ok (.getfield 9, 3) := by decide +kernel
theorem dX1_longestRow_139 : decode cX1_longestRow 139 = .ok (.aload_n 2, 1) := by decide +kernel
theorem dX1_longestRow_140 : decode cX1_longestRow 140 = .ok (.getfield 15, 3) := by decide +kernel
theorem dX1_longestRow_143 : decode cX1_longestRow 143 = .ok (.iaload, 1) := by decide +kernel
theorem dX1_longestRow_144 : decode cX1_longestRow 144 = .ok (.ireturn, 1) := by decide +kernel
theorem dX1_longestRow_33 : decode cX1_longestRow 33 = .ok (.iconst 0, 1) := by decide +kernel
theorem dX1_longestRow_34 : decode cX1_longestRow 34 = .ok (.istore 4, 2) := by decide +kernel
theorem dX1_longestRow_36 : decode cX1_longestRow 36 = .ok (.iconst 0, 1) := by decide +kernel
theorem dX1_longestRow_37 : decode cX1_longestRow 37 = .ok (.istore 5, 2) := by decide +kernel
theorem dX1_longestRow_39 : decode cX1_longestRow 39 = .ok (.iload 5, 2) := by decide +kernel
theorem dX1_longestRow_41 : decode cX1_longestRow 41 = .ok (.aload_n 2, 1) := by decide +kernel
theorem dX1_longestRow_42 : decode cX1_longestRow 42 = .ok (.getfield 15, 3) := by decide +kernel
theorem dX1_longestRow_45 : decode cX1_longestRow 45 = .ok (.if_icmp .ge 84, 3) := by decide +kernel
theorem dX1_longestRow_129 : decode cX1_longestRow 129 = .ok (.iinc 3 1, 3) := by decide +kernel
theorem dX1_longestRow_132 : decode cX1_longestRow 132 = .ok (.goto (-107), 3) := by decide +kernel
theorem dX1_longestRow_48 : decode cX1_longestRow 48 = .ok (.aload_n 0, 1) := by decide +kernel
theorem dX1_longestRow_49 : decode cX1_longestRow 49 = .ok (.getfield 9, 3) := by decide +kernel
theorem dX1_longestRow_52 : decode cX1_longestRow 52 = .ok (.iload 5, 2) := by decide +kernel
theorem dX1_longestRow_54 : decode cX1_longestRow 54 = .ok (.iconst 1, 1) := by decide +kernel
theorem dX1_longestRow_55 : decode cX1_longestRow 55 = .ok (.iadd, 1) := by decide +kernel
theorem dX1_longestRow_56 : decode cX1_longestRow 56 = .ok (.iaload, 1) := by decide +kernel
theorem dX1_longestRow_57 : decode cX1_longestRow 57 = .ok (.istore 6, 2) := by decide +kernel
theorem dX1_longestRow_59 : decode cX1_longestRow 59 = .ok (.aload_n 1, 1) := by decide +kernel
theorem dX1_longestRow_60 : decode cX1_longestRow 60 = .ok (.getfield 21, 3) := by decide +kernel
theorem dX1_longestRow_63 : decode cX1_longestRow 63 = .ok (.iconst 0, 1) := by decide +kernel
theorem dX1_longestRow_64 : decode cX1_longestRow 64 = .ok (.iload_n 3, 1) := by decide +kernel
theorem dX1_longestRow_65 : decode cX1_longestRow 65 = .ok (.iadd, 1) := by decide +kernel
theorem dX1_longestRow_66 : decode cX1_longestRow 66 = .ok (.iaload, 1) := by decide +kernel
theorem dX1_longestRow_67 : decode cX1_longestRow 67 = .ok (.aload_n 2, 1) := by decide +kernel
theorem dX1_longestRow_68 : decode cX1_longestRow 68 = .ok (.getfield 21, 3) := by decide +kernel
theorem dX1_longestRow_71 : decode cX1_longestRow 71 = .ok (.iconst 0, 1) := by decide +kernel
theorem dX1_longestRow_72 : decode cX1_longestRow 72 = .ok (.iload 5, 2) := by decide +kernel
theorem dX1_longestRow_74 : decode cX1_longestRow 74 = .ok (.iadd, 1) := by decide +kernel
theorem dX1_longestRow_75 : decode cX1_longestRow 75 = .ok (.iaload, 1) := by decide +kernel
theorem dX1_longestRow_76 : decode cX1_longestRow 76 = .ok (.if_icmp .ne 7, 3) := by decide +kernel
theorem dX1_longestRow_83 : decode cX1_longestRow 83 = .ok (.iconst 0, 1) := by decide +kernel
theorem dX1_longestRow_84 : decode cX1_longestRow 84 = .ok (.istore 7, 2) := by decide +kernel
theorem dX1_longestRow_86 : decode cX1_longestRow 86 = .ok (.aload_n 0, 1) := by decide +kernel
theorem dX1_longestRow_87 : decode cX1_longestRow 87 = .ok (.getfield 9, 3) := by decide +kernel
theorem dX1_longestRow_90 : decode cX1_longestRow 90 = .ok (.iload 5, 2) := by decide +kernel
theorem dX1_longestRow_92 : decode cX1_longestRow 92 = .ok (.iconst 1, 1) := by decide +kernel
theorem dX1_longestRow_93 : decode cX1_longestRow 93 = .ok (.iadd, 1) := by decide +kernel
theorem dX1_longestRow_94 : decode cX1_longestRow 94 = .ok (.iload 7, 2) := by decide +kernel
theorem dX1_longestRow_96 : decode cX1_longestRow 96 = .ok (.ifCond .eq 10, 3) := by decide +kernel
theorem dX1_longestRow_106 : decode cX1_longestRow 106 = .ok (.iload 6, 2) := by decide +kernel
theorem dX1_longestRow_108 : decode cX1_longestRow 108 = .ok (.aload_n 0, 1) := by decide +kernel
theorem dX1_longestRow_109 : decode cX1_longestRow 109 = .ok (.getfield 9, 3) := by decide +kernel
theorem dX1_longestRow_112 : decode cX1_longestRow 112 = .ok (.iload 5, 2) := by decide +kernel
theorem dX1_longestRow_114 : decode cX1_longestRow 114 = .ok (.iaload, 1) := by decide +kernel
theorem dX1_longestRow_115 : decode cX1_longestRow 115 = .ok (.invokestatic 24, 3) := by decide +kernel
theorem dX1_longestRow_118 : decode cX1_longestRow 118 = .ok (.iastore, 1) := by decide +kernel
theorem dX1_longestRow_119 : decode cX1_longestRow 119 = .ok (.iload 6, 2) := by decide +kernel
theorem dX1_longestRow_121 : decode cX1_longestRow 121 = .ok (.istore 4, 2) := by decide +kernel
theorem dX1_longestRow_123 : decode cX1_longestRow 123 = .ok (.iinc 5 1, 3) := by decide +kernel
theorem dX1_longestRow_126 : decode cX1_longestRow 126 = .ok (.goto (-87), 3) := by decide +kernel
theorem dX1_longestRow_79 : decode cX1_longestRow 79 = .ok (.iconst 1, 1) := by decide +kernel
theorem dX1_longestRow_80 : decode cX1_longestRow 80 = .ok (.goto 4, 3) := by decide +kernel
theorem dX1_longestRow_99 : decode cX1_longestRow 99 = .ok (.iload 4, 2) := by decide +kernel
theorem dX1_longestRow_101 : decode cX1_longestRow 101 = .ok (.iconst 1, 1) := by decide +kernel
theorem dX1_longestRow_102 : decode cX1_longestRow 102 = .ok (.iadd, 1) := by decide +kernel
theorem dX1_longestRow_103 : decode cX1_longestRow 103 = .ok (.goto 15, 3) := by decide +kernel
theorem dX1_longestRow_2 : decode cX1_longestRow 2 = .ok (.iload_n 3, 1) := by decide +kernel
theorem dX1_longestRow_3 : decode cX1_longestRow 3 = .ok (.aload_n 2, 1) := by decide +kernel
theorem dX1_longestRow_4 : decode cX1_longestRow 4 = .ok (.getfield 15, 3) := by decide +kernel
theorem dX1_longestRow_7 : decode cX1_longestRow 7 = .ok (.if_icmp .gt 16, 3) := by decide +kernel
theorem dX1_longestRow_23 : decode cX1_longestRow 23 = .ok (.iconst 0, 1) := by decide +kernel
theorem dX1_longestRow_24 : decode cX1_longestRow 24 = .ok (.istore_n 3, 1) := by decide +kernel
theorem dX1_longestRow_10 : decode cX1_longestRow 10 = .ok (.aload_n 0, 1) := by decide +kernel
theorem dX1_longestRow_11 : decode cX1_longestRow 11 = .ok (.getfield 9, 3) := by decide +kernel
theorem dX1_longestRow_14 : decode cX1_longestRow 14 = .ok (.iload_n 3, 1) := by decide +kernel
theorem dX1_longestRow_15 : decode cX1_longestRow 15 = .ok (.iconst 0, 1) := by decide +kernel
theorem dX1_longestRow_16 : decode cX1_longestRow 16 = .ok (.iastore, 1) := by decide +kernel
theorem dX1_longestRow_17 : decode cX1_longestRow 17 = .ok (.iinc 3 1, 3) := by decide +kernel
theorem dX1_longestRow_20 : decode cX1_longestRow 20 = .ok (.goto (-18), 3) := by decide +kernel
theorem dX1_longestRow_0 : decode cX1_longestRow 0 = .ok (.iconst 0, 1) := by decide +kernel
theorem dX1_longestRow_1 : decode cX1_longestRow 1 = .ok (.istore_n 3, 1) := by decide +kernel
theorem dX1_fewestSteps_25 : decode cX1_fewestSteps 25 = .ok (.iload_n 3, 1) := by decide +kernel
theorem dX1_fewestSteps_26 : decode cX1_fewestSteps 26 = .ok (.aload_n 1, 1) := by decide +kernel
theorem dX1_fewestSteps_27 : decode cX1_fewestSteps 27 = .ok (.getfield 15, 3) := by decide +kernel
theorem dX1_fewestSteps_30 : decode cX1_fewestSteps 30 = .ok (.if_icmp .ge 130, 3) := by decide +kernel
theorem dX1_fewestSteps_160 : decode cX1_fewestSteps 160 = .ok (.aload_n 0, 1) := by decide +kernel
theorem dX1_fewestSteps_161 : decode cX1_fewestSteps 161 = .ok (.getfield 9, 3) := by decide +kernel
theorem dX1_fewestSteps_164 : decode cX1_fewestSteps 164 = .ok (.aload_n 2, 1) := by decide +kernel
theorem dX1_fewestSteps_165 : decode cX1_fewestSteps 165 = .ok (.getfield 15, 3) := by decide +kernel
theorem dX1_fewestSteps_168 : decode cX1_fewestSteps 168 = .ok (.iaload, 1) := by decide +kernel
theorem dX1_fewestSteps_169 : decode cX1_fewestSteps 169 = .ok (.ireturn, 1) := by decide +kernel
theorem dX1_fewestSteps_33 : decode cX1_fewestSteps 33 = .ok (.aload_n 0, 1) := by decide +kernel
theorem dX1_fewestSteps_34 : decode cX1_fewestSteps 34 = .ok (.getfield 9, 3) := by decide +kernel
theorem dX1_fewestSteps_37 : decode cX1_fewestSteps 37 = .ok (.iconst 0, 1) := by decide +kernel
theorem dX1_fewestSteps_38 : decode cX1_fewestSteps 38 = .ok (.iaload, 1) := by decide +kernel
theorem dX1_fewestSteps_39 : decode cX1_fewestSteps 39 = .ok (.istore 4, 2) := by decide +kernel
theorem dX1_fewestSteps_41 : decode cX1_fewestSteps 41 = .ok (.aload_n 0, 1) := by decide +kernel
theorem dX1_fewestSteps_42 : decode cX1_fewestSteps 42 = .ok (.getfield 9, 3) := by decide +kernel
theorem dX1_fewestSteps_45 : decode cX1_fewestSteps 45 = .ok (.iconst 0, 1) := by decide +kernel
theorem dX1_fewestSteps_46 : decode cX1_fewestSteps 46 = .ok (.iload_n 3, 1) := by decide +kernel
theorem dX1_fewestSteps_47 : decode cX1_fewestSteps 47 = .ok (.iconst 1, 1) := by decide +kernel
theorem dX1_fewestSteps_48 : decode cX1_fewestSteps 48 = .ok (.iadd, 1) := by decide +kernel
theorem dX1_fewestSteps_49 : decode cX1_fewestSteps 49 = .ok (.iastore, 1) := by decide +kernel
theorem dX1_fewestSteps_50 : decode cX1_fewestSteps 50 = .ok (.iconst 0, 1) := by decide +kernel
theorem dX1_fewestSteps_51 : decode cX1_fewestSteps 51 = .ok (.istore 5, 2) := by decide +kernel
theorem dX1_fewestSteps_53 : decode cX1_fewestSteps 53 = .ok (.iload 5, 2) := by decide +kernel
theorem dX1_fewestSteps_55 : decode cX1_fewestSteps 55 = .ok (.aload_n 2, 1) := by decide +kernel
theorem dX1_fewestSteps_56 : decode cX1_fewestSteps 56 = .ok (.getfield 15, 3) := by decide +kernel
theorem dX1_fewestSteps_59 : decode cX1_fewestSteps 59 = .ok (.if_icmp .ge 95, 3) := by decide +kernel
theorem dX1_fewestSteps_154 : decode cX1_fewestSteps 154 = .ok (.iinc 3 1, 3) := by decide +kernel
theorem dX1_fewestSteps_157 : decode cX1_fewestSteps 157 = .ok (.goto (-132), 3) := by decide +kernel
theorem dX1_fewestSteps_62 : decode cX1_fewestSteps 62 = .ok (.aload_n 0, 1) := by decide +kernel
theorem dX1_fewestSteps_63 : decode cX1_fewestSteps 63 = .ok (.getfield 9, 3) := by decide +kernel
theorem dX1_fewestSteps_66 : decode cX1_fewestSteps 66 = .ok (.iload 5, 2) := by decide +kernel
theorem dX1_fewestSteps_68 : decode cX1_fewestSteps 68 = .ok (.iconst 1, 1) := by decide +kernel
theorem dX1_fewestSteps_69 : decode cX1_fewestSteps 69 = .ok (.iadd, 1) := by decide +kernel
theorem dX1_fewestSteps_70 : decode cX1_fewestSteps 70 = .ok (.iaload, 1) := by decide +kernel
theorem dX1_fewestSteps_71 : decode cX1_fewestSteps 71 = .ok (.istore 6, 2) := by decide +kernel
theorem dX1_fewestSteps_73 : decode cX1_fewestSteps 73 = .ok (.aload_n 1, 1) := by decide +kernel
theorem dX1_fewestSteps_74 : decode cX1_fewestSteps 74 = .ok (.getfield 21, 3) := by decide +kernel
theorem dX1_fewestSteps_77 : decode cX1_fewestSteps 77 = .ok (.iconst 0, 1) := by decide +kernel
theorem dX1_fewestSteps_78 : decode cX1_fewestSteps 78 = .ok (.iload_n 3, 1) := by decide +kernel
theorem dX1_fewestSteps_79 : decode cX1_fewestSteps 79 = .ok (.iadd, 1) := by decide +kernel
theorem dX1_fewestSteps_80 : decode cX1_fewestSteps 80 = .ok (.iaload, 1) := by decide +kernel
theorem dX1_fewestSteps_81 : decode cX1_fewestSteps 81 = .ok (.aload_n 2, 1) := by decide +kernel
theorem dX1_fewestSteps_82 : decode cX1_fewestSteps 82 = .ok (.getfield 21, 3) := by decide +kernel
theorem dX1_fewestSteps_85 : decode cX1_fewestSteps 85 = .ok (.iconst 0, 1) := by decide +kernel
theorem dX1_fewestSteps_86 : decode cX1_fewestSteps 86 = .ok (.iload 5, 2) := by decide +kernel
theorem dX1_fewestSteps_88 : decode cX1_fewestSteps 88 = .ok (.iadd, 1) := by decide +kernel
theorem dX1_fewestSteps_89 : decode cX1_fewestSteps 89 = .ok (.iaload, 1) := by decide +kernel
theorem dX1_fewestSteps_90 : decode cX1_fewestSteps 90 = .ok (.if_icmp .ne 7, 3) := by decide +kernel
theorem dX1_fewestSteps_97 : decode cX1_fewestSteps 97 = .ok (.iconst 0, 1) := by decide +kernel
theorem dX1_fewestSteps_98 : decode cX1_fewestSteps 98 = .ok (.istore 7, 2) := by decide +kernel
theorem dX1_fewestSteps_100 : decode cX1_fewestSteps 100 = .ok (.iload 7, 2) := by decide +kernel
theorem dX1_fewestSteps_102 : decode cX1_fewestSteps 102 = .ok (.ifCond .eq 8, 3) := by decide +kernel
theorem dX1_fewestSteps_110 : decode cX1_fewestSteps 110 = .ok (.iload 4, 2) := by decide +kernel
theorem dX1_fewestSteps_112 : decode cX1_fewestSteps 112 = .ok (.iconst 1, 1) := by decide +kernel
theorem dX1_fewestSteps_113 : decode cX1_fewestSteps 113 = .ok (.iadd, 1) := by decide +kernel
theorem dX1_fewestSteps_114 : decode cX1_fewestSteps 114 = .ok (.istore 8, 2) := by decide +kernel
theorem dX1_fewestSteps_116 : decode cX1_fewestSteps 116 = .ok (.aload_n 0, 1) := by decide +kernel
theorem dX1_fewestSteps_117 : decode cX1_fewestSteps 117 = .ok (.getfield 9, 3) := by decide +kernel
theorem dX1_fewestSteps_120 : decode cX1_fewestSteps 120 = .ok (.iload 5, 2) := by decide +kernel
theorem dX1_fewestSteps_122 : decode cX1_fewestSteps 122 = .ok (.iconst 1, 1) := by decide +kernel
theorem dX1_fewestSteps_123 : decode cX1_fewestSteps 123 = .ok (.iadd, 1) := by decide +kernel
theorem dX1_fewestSteps_124 : decode cX1_fewestSteps 124 = .ok (.iload 8, 2) := by decide +kernel
theorem dX1_fewestSteps_126 : decode cX1_fewestSteps 126 = .ok (.iload 6, 2) := by decide +kernel
theorem dX1_fewestSteps_128 : decode cX1_fewestSteps 128 = .ok (.aload_n 0, 1) := by decide +kernel
theorem dX1_fewestSteps_129 : decode cX1_fewestSteps 129 = .ok (.getfield 9, 3) := by decide +kernel
theorem dX1_fewestSteps_132 : decode cX1_fewestSteps 132 = .ok (.iload 5, 2) := by decide +kernel
theorem dX1_fewestSteps_134 : decode cX1_fewestSteps 134 = .ok (.iaload, 1) := by decide +kernel
theorem dX1_fewestSteps_135 : decode cX1_fewestSteps 135 = .ok (.invokestatic 30, 3) := by decide +kernel
theorem dX1_fewestSteps_138 : decode cX1_fewestSteps 138 = .ok (.iconst 1, 1) := by decide +kernel
theorem dX1_fewestSteps_139 : decode cX1_fewestSteps 139 = .ok (.iadd, 1) := by decide +kernel
theorem dX1_fewestSteps_140 : decode cX1_fewestSteps 140 = .ok (.invokestatic 30, 3) := by decide +kernel
theorem dX1_fewestSteps_143 : decode cX1_fewestSteps 143 = .ok (.iastore, 1) := by decide +kernel
theorem dX1_fewestSteps_144 : decode cX1_fewestSteps 144 = .ok (.iload 6, 2) := by decide +kernel
theorem dX1_fewestSteps_146 : decode cX1_fewestSteps 146 = .ok (.istore 4, 2) := by decide +kernel
theorem dX1_fewestSteps_148 : decode cX1_fewestSteps 148 = .ok (.iinc 5 1, 3) := by decide +kernel
theorem dX1_fewestSteps_151 : decode cX1_fewestSteps 151 = .ok (.goto (-98), 3) := by decide +kernel
theorem dX1_fewestSteps_93 : decode cX1_fewestSteps 93 = .ok (.iconst 1, 1) := by decide +kernel
theorem dX1_fewestSteps_94 : decode cX1_fewestSteps 94 = .ok (.goto 4, 3) := by decide +kernel
theorem dX1_fewestSteps_105 : decode cX1_fewestSteps 105 = .ok (.iload 4, 2) := by decide +kernel
theorem dX1_fewestSteps_107 : decode cX1_fewestSteps 107 = .ok (.goto 7, 3) := by decide +kernel
theorem dX1_fewestSteps_2 : decode cX1_fewestSteps 2 = .ok (.iload_n 3, 1) := by decide +kernel
theorem dX1_fewestSteps_3 : decode cX1_fewestSteps 3 = .ok (.aload_n 2, 1) := by decide +kernel
theorem dX1_fewestSteps_4 : decode cX1_fewestSteps 4 = .ok (.getfield 15, 3) := by decide +kernel
theorem dX1_fewestSteps_7 : decode cX1_fewestSteps 7 = .ok (.if_icmp .gt 16, 3) := by decide +kernel
theorem dX1_fewestSteps_23 : decode cX1_fewestSteps 23 = .ok (.iconst 0, 1) := by decide +kernel
theorem dX1_fewestSteps_24 : decode cX1_fewestSteps 24 = .ok (.istore_n 3, 1) := by decide +kernel
theorem dX1_fewestSteps_10 : decode cX1_fewestSteps 10 = .ok (.aload_n 0, 1) := by decide +kernel
theorem dX1_fewestSteps_11 : decode cX1_fewestSteps 11 = .ok (.getfield 9, 3) := by decide +kernel
theorem dX1_fewestSteps_14 : decode cX1_fewestSteps 14 = .ok (.iload_n 3, 1) := by decide +kernel
theorem dX1_fewestSteps_15 : decode cX1_fewestSteps 15 = .ok (.iload_n 3, 1) := by decide +kernel
theorem dX1_fewestSteps_16 : decode cX1_fewestSteps 16 = .ok (.iastore, 1) := by decide +kernel
theorem dX1_fewestSteps_17 : decode cX1_fewestSteps 17 = .ok (.iinc 3 1, 3) := by decide +kernel
theorem dX1_fewestSteps_20 : decode cX1_fewestSteps 20 = .ok (.goto (-18), 3) := by decide +kernel
theorem dX1_fewestSteps_0 : decode cX1_fewestSteps 0 = .ok (.iconst 0, 1) := by decide +kernel
theorem dX1_fewestSteps_1 : decode cX1_fewestSteps 1 = .ok (.istore_n 3, 1) := by decide +kernel
end
