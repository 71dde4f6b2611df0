-- decode rows of run
theorem dX5_copyFrom_0 : decode cX5_copyFrom 0 = .ok (.aload_n 0, 1) := by decide +kernel
theorem dX5_copyFrom_1 : decode cX5_copyFrom 1 = .ok (.aload_n 1, 1) := by decide +kernel
theorem dX5_copyFrom_2 : decode cX5_copyFrom 2 = .ok (.getfield 9, 3) := by decide +kernel
theorem dX5_copyFrom_5 : decode cX5_copyFrom 5 = .ok (.putfield 9, 3) := by decide +kernel
theorem dX5_copyFrom_8 : decode cX5_copyFrom 8 = .ok (.aload_n 0, 1) := by decide +kernel
theorem dX5_copyFrom_9 : decode cX5_copyFrom 9 = .ok (.aload_n 1, 1) := by decide +kernel
theorem dX5_copyFrom_10 : decode cX5_copyFrom 10 = .ok (.getfield 15, 3) := by decide +kernel
theorem dX5_copyFrom_13 : decode cX5_copyFrom 13 = .ok (.putfield 15, 3) := by decide +kernel
theorem dX5_copyFrom_16 : decode cX5_copyFrom 16 = .ok (.aload_n 0, 1) := by decide +kernel
theorem dX5_copyFrom_17 : decode cX5_copyFrom 17 = .ok (.aload_n 1, 1) := by decide +kernel
theorem dX5_copyFrom_18 : decode cX5_copyFrom 18 = .ok (.getfield 18, 3) := by decide +kernel
theorem dX5_copyFrom_21 : decode cX5_copyFrom 21 = .ok (.putfield 18, 3) := by decide +kernel
theorem dX5_copyFrom_24 : decode cX5_copyFrom 24 = .ok (.aload_n 1, 1) := by decide +kernel
theorem dX5_copyFrom_25 : decode cX5_copyFrom 25 = .ok (.getfield 21, 3) := by decide +kernel
theorem dX5_copyFrom_28 : decode cX5_copyFrom 28 = .ok (.iconst 0, 1) := by decide +kernel
theorem dX5_copyFrom_29 : decode cX5_copyFrom 29 = .ok (.aload_n 0, 1) := by decide +kernel
theorem dX5_copyFrom_30 : decode cX5_copyFrom 30 = .ok (.getfield 21, 3) := by decide +kernel
theorem dX5_copyFrom_33 : decode cX5_copyFrom 33 = .ok (.iconst 0, 1) := by decide +kernel
theorem dX5_copyFrom_34 : decode cX5_copyFrom 34 = .ok (.aload_n 0, 1) := by decide +kernel
theorem dX5_copyFrom_35 : decode cX5_copyFrom 35 = .ok (.getfield 21, 3) := by decide +kernel
theorem dX5_copyFrom_38 : decode cX5_copyFrom 38 = .ok (.arraylength, 1) := by decide +kernel
theorem dX5_copyFrom_39 : decode cX5_copyFrom 39 = .ok (.invokestatic 48, 3) := by decide +kernel
theorem dX5_copyFrom_42 : decode cX5_copyFrom 42 = .ok (.aload_n 1, 1) := by decide +kernel
theorem dX5_copyFrom_43 : decode cX5_copyFrom 43 = .ok (.getfield 25, 3) := by decide +kernel
theorem dX5_copyFrom_46 : decode cX5_copyFrom 46 = .ok (.iconst 0, 1) := by decide +kernel
theorem dX5_copyFrom_47 : decode cX5_copyFrom 47 = .ok (.aload_n 0, 1) := by decide +kernel
theorem dX5_copyFrom_48 : decode cX5_copyFrom 48 = .ok (.getfield 25, 3) := by decide +kernel
theorem dX5_copyFrom_51 : decode cX5_copyFrom 51 = .ok (.iconst 0, 1) := by decide +kernel
theorem dX5_copyFrom_52 : decode cX5_copyFrom 52 = .ok (.aload_n 0, 1) := by decide +kernel
theorem dX5_copyFrom_53 : decode cX5_copyFrom 53 = .ok (.getfield 25, 3) := by decide +kernel
theorem dX5_copyFrom_56 : decode cX5_copyFrom 56 = .ok (.arraylength, 1) := by decide +kernel
theorem dX5_copyFrom_57 : decode cX5_copyFrom 57 = .ok (.invokestatic 48, 3) := by decide +kernel
theorem dX5_copyFrom_60 : decode cX5_copyFrom 60 = .ok (.aload_n 1, 1) := by decide +kernel
theorem dX5_copyFrom_61 : decode cX5_copyFrom 61 = .ok (.getfield 28, 3) := by decide +kernel
theorem dX5_copyFrom_64 : decode cX5_copyFrom 64 = .ok (.iconst 0, 1) := by decide +kernel
theorem dX5_copyFrom_65 : decode cX5_copyFrom 65 = .ok (.aload_n 0, 1) := by decide +kernel
theorem dX5_copyFrom_66 : decode cX5_copyFrom 66 = .ok (.getfield 28, 3) := by decide +kernel
theorem dX5_copyFrom_69 : decode cX5_copyFrom 69 = .ok (.iconst 0, 1) := by decide +kernel
theorem dX5_copyFrom_70 : decode cX5_copyFrom 70 = .ok (.aload_n 0, 1) := by decide +kernel
theorem dX5_copyFrom_71 : decode cX5_copyFrom 71 = .ok (.getfield 28, 3) := by decide +kernel
theorem dX5_copyFrom_74 : decode cX5_copyFrom 74 = .ok (.arraylength, 1) := by decide +kernel
theorem dX5_copyFrom_75 : decode cX5_copyFrom 75 = .ok (.invokestatic 48, 3) := by decide +kernel
theorem dX5_copyFrom_78 : decode cX5_copyFrom 78 = .ok (.aload_n 1, 1) := by decide +kernel
theorem dX5_copyFrom_79 : decode cX5_copyFrom 79 = .ok (.getfield 31, 3) := by decide +kernel
theorem dX5_copyFrom_82 : decode cX5_copyFrom 82 = .ok (.iconst 0, 1) := by decide +kernel
theorem dX5_copyFrom_83 : decode cX5_copyFrom 83 = .ok (.aload_n 0, 1) := by decide +kernel
theorem dX5_copyFrom_84 : decode cX5_copyFrom 84 = .ok (.getfield 31, 3) := by decide +kernel
theorem dX5_copyFrom_87 : decode cX5_copyFrom 87 = .ok (.iconst 0, 1) := by decide +kernel
theorem dX5_copyFrom_88 : decode cX5_copyFrom 88 = .ok (.aload_n 0, 1) := by decide +kernel
theorem dX5_copyFrom_89 : decode cX5_copyFrom 89 = .ok (.getfield 31, 3) := by decide +kernel
theorem dX5_copyFrom_92 : decode cX5_copyFrom 92 = .ok (.arraylength, 1) := by decide +kernel
theorem dX5_copyFrom_93 : decode cX5_copyFrom 93 = .ok (.invokestatic 48, 3) := by decide +kernel
theorem dX5_copyFrom_96 : decode cX5_copyFrom 96 = .ok (.aload_n 1, 1) := by decide +kernel
theorem dX5_copyFrom_97 : decode cX5_copyFrom 97 = .ok (.getfield 34, 3) := by decide +kernel
theorem dX5_copyFrom_100 : decode cX5_copyFrom 100 = .ok (.iconst 0, 1) := by decide +kernel
theorem dX5_copyFrom_101 : decode cX5_copyFrom 101 = .ok (.aload_n 0, 1) := by decide +kernel
theorem dX5_copyFrom_102 : decode cX5_copyFrom 102 = .ok (.getfield 34, 3) := by decide +kernel
theorem dX5_copyFrom_105 : decode cX5_copyFrom 105 = .ok (.iconst 0, 1) := by decide +kernel
theorem dX5_copyFrom_106 : decode cX5_copyFrom 106 = .ok (.aload_n 0, 1) := by decide +kernel
theorem dX5_copyFrom_107 : decode cX5_copyFrom 107 = .ok (.getfield 34, 3) := by decide +kernel
theorem dX5_copyFrom_110 : decode cX5_copyFrom 110 = .ok (.arraylength, 1) := by decide +kernel
theorem dX5_copyFrom_111 : decode cX5_copyFrom 111 = .ok (.invokestatic 48, 3) := by decide +kernel
theorem dX5_copyFrom_114 : decode cX5_copyFrom 114 = .ok (.aload_n 1, 1) := by decide +kernel
theorem dX5_copyFrom_115 : decode cX5_copyFrom 115 = .ok (.getfield 45, 3) := by decide +kernel
theorem dX5_copyFrom_118 : decode cX5_copyFrom 118 = .ok (.iconst 0, 1) := by decide +kernel
theorem dX5_copyFrom_119 : decode cX5_copyFrom 119 = .ok (.aload_n 0, 1) := by decide +kernel
theorem dX5_copyFrom_120 : decode cX5_copyFrom 120 = .ok (.getfield 45, 3) := by decide +kernel
theorem dX5_copyFrom_123 : decode cX5_copyFrom 123 = .ok (.iconst 0, 1) := by decide +kernel
theorem dX5_copyFrom_124 : decode cX5_copyFrom 124 = .ok (.aload_n 0, 1) := by decide +kernel
theorem dX5_copyFrom_125 : decode cX5_copyFrom 125 = .ok (.getfield 45, 3) := by decide +kernel
theorem dX5_copyFrom_128 : decode cX5_copyFrom 128 = .ok (.arraylength, 1) := by decide +kernel
theorem dX5_copyFrom_129 : decode cX5_copyFrom 129 = .ok (.invokestatic 48, 3) := by decide +kernel
theorem dX5_copyFrom_132 : decode cX5_copyFrom 132 = .ok (.return_, 1) := by decide +kernel
theorem dX5_warm_17 : decode cX5_warm 17 = .ok (.iload_n 2, 1) := by decide +kernel
theorem dX5_warm_18 : decode cX5_warm 18 = .ok (.aload_n 0, 1) := by decide +kernel
theorem dX5_warm_19 : decode cX5_warm 19 = .ok (.getfield 15, 3) := by decide +kernel
theorem dX5_warm_22 : decode cX5_warm 22 = .ok (.if_icmp .ge 28, 3) := by decide +kernel
theorem dX5_warm_50 : decode cX5_warm 50 = .ok (.return_, 1) := by decide +kernel
theorem dX5_warm_25 : decode cX5_warm 25 = .ok (.aload_n 0, 1) := by decide +kernel
theorem dX5_warm_26 : decode cX5_warm 26 = .ok (.getfield 28, 3) := by decide +kernel
theorem dX5_warm_29 : decode cX5_warm 29 = .ok (.iload_n 2, 1) := by decide +kernel
theorem dX5_warm_30 : decode cX5_warm 30 = .ok (.aload_n 0, 1) := by decide +kernel
theorem dX5_warm_31 : decode cX5_warm 31 = .ok (.getfield 28, 3) := by decide +kernel
theorem dX5_warm_34 : decode cX5_warm 34 = .ok (.iload_n 2, 1) := by decide +kernel
theorem dX5_warm_35 : decode cX5_warm 35 = .ok (.iaload, 1) := by decide +kernel
theorem dX5_warm_36 : decode cX5_warm 36 = .ok (.iload_n 1, 1) := by decide +kernel
theorem dX5_warm_37 : decode cX5_warm 37 = .ok (.iadd, 1) := by decide +kernel
theorem dX5_warm_38 : decode cX5_warm 38 = .ok (.bipush 100, 2) := by decide +kernel
theorem dX5_warm_40 : decode cX5_warm 40 = .ok (.invokestatic 54, 3) := by decide +kernel
theorem dX5_warm_43 : decode cX5_warm 43 = .ok (.iastore, 1) := by decide +kernel
theorem dX5_warm_44 : decode cX5_warm 44 = .ok (.iinc 2 1, 3) := by decide +kernel
theorem dX5_warm_47 : decode cX5_warm 47 = .ok (.goto (-30), 3) := by decide +kernel
theorem dX5_warm_0 : decode cX5_warm 0 = .ok (.aload_n 0, 1) := by decide +kernel
theorem dX5_warm_1 : decode cX5_warm 1 = .ok (.aload_n 0, 1) := by decide +kernel
theorem dX5_warm_2 : decode cX5_warm 2 = .ok (.getfield 18, 3) := by decide +kernel
theorem dX5_warm_5 : decode cX5_warm 5 = .ok (.iload_n 1, 1) := by decide +kernel
theorem dX5_warm_6 : decode cX5_warm 6 = .ok (.iadd, 1) := by decide +kernel
theorem dX5_warm_7 : decode cX5_warm 7 = .ok (.bipush 100, 2) := by decide +kernel
theorem dX5_warm_9 : decode cX5_warm 9 = .ok (.invokestatic 54, 3) := by decide +kernel
theorem dX5_warm_12 : decode cX5_warm 12 = .ok (.putfield 18, 3) := by decide +kernel
theorem dX5_warm_15 : decode cX5_warm 15 = .ok (.iconst 0, 1) := by decide +kernel
theorem dX5_warm_16 : decode cX5_warm 16 = .ok (.istore_n 2, 1) := by decide +kernel
theorem dX9_isOnceUnstable_0 : decode cX9_isOnceUnstable 0 = .ok (.aload_n 0, 1) := by decide +kernel
theorem dX9_isOnceUnstable_1 : decode cX9_isOnceUnstable 1 = .ok (.getfield 54, 3) := by decide +kernel
theorem dX9_isOnceUnstable_4 : decode cX9_isOnceUnstable 4 = .ok (.aload_n 0, 1) := by decide +kernel
theorem dX9_isOnceUnstable_5 : decode cX9_isOnceUnstable 5 = .ok (.getfield 37, 3) := by decide +kernel
theorem dX9_isOnceUnstable_8 : decode cX9_isOnceUnstable 8 = .ok (.getfield 112, 3) := by decide +kernel
theorem dX9_isOnceUnstable_11 : decode cX9_isOnceUnstable 11 = .ok (.invokevirtual 311, 3) := by decide +kernel
theorem dX9_isOnceUnstable_14 : decode cX9_isOnceUnstable 14 = .ok (.iconst 0, 1) := by decide +kernel
theorem dX9_isOnceUnstable_15 : decode cX9_isOnceUnstable 15 = .ok (.istore_n 3, 1) := by decide +kernel
theorem dX9_isOnceUnstable_16 : decode cX9_isOnceUnstable 16 = .ok (.iload_n 3, 1) := by decide +kernel
theorem dX9_isOnceUnstable_17 : decode cX9_isOnceUnstable 17 = .ok (.iload_n 2, 1) := by decide +kernel
theorem dX9_isOnceUnstable_18 : decode cX9_isOnceUnstable 18 = .ok (.if_icmp .ge 38, 3) := by decide +kernel
theorem dX9_isOnceUnstable_56 : decode cX9_isOnceUnstable 56 = .ok (.iconst 0, 1) := by decide +kernel
theorem dX9_isOnceUnstable_57 : decode cX9_isOnceUnstable 57 = .ok (.ireturn, 1) := by decide +kernel
theorem dX9_isOnceUnstable_21 : decode cX9_isOnceUnstable 21 = .ok (.aload_n 0, 1) := by decide +kernel
theorem dX9_isOnceUnstable_22 : decode cX9_isOnceUnstable 22 = .ok (.getfield 54, 3) := by decide +kernel
theorem dX9_isOnceUnstable_25 : decode cX9_isOnceUnstable 25 = .ok (.aload_n 0, 1) := by decide +kernel
theorem dX9_isOnceUnstable_26 : decode cX9_isOnceUnstable 26 = .ok (.getfield 48, 3) := by decide +kernel
theorem dX9_isOnceUnstable_29 : decode cX9_isOnceUnstable 29 = .ok (.iconst 1, 1) := by decide +kernel
theorem dX9_isOnceUnstable_30 : decode cX9_isOnceUnstable 30 = .ok (.iload_n 1, 1) := by decide +kernel
theorem dX9_isOnceUnstable_31 : decode cX9_isOnceUnstable 31 = .ok (.ishl, 1) := by decide +kernel
theorem dX9_isOnceUnstable_32 : decode cX9_isOnceUnstable 32 = .ok (.iconst 1, 1) := by decide +kernel
theorem dX9_isOnceUnstable_33 : decode cX9_isOnceUnstable 33 = .ok (.invokevirtual 264, 3) := by decide +kernel
theorem dX9_isOnceUnstable_36 : decode cX9_isOnceUnstable 36 = .ok (.aload_n 0, 1) := by decide +kernel
theorem dX9_isOnceUnstable_37 : decode cX9_isOnceUnstable 37 = .ok (.aload_n 0, 1) := by decide +kernel
theorem dX9_isOnceUnstable_38 : decode cX9_isOnceUnstable 38 = .ok (.getfield 54, 3) := by decide +kernel
theorem dX9_isOnceUnstable_41 : decode cX9_isOnceUnstable 41 = .ok (.iload_n 1, 1) := by decide +kernel
theorem dX9_isOnceUnstable_42 : decode cX9_isOnceUnstable 42 = .ok (.invokevirtual 287, 3) := by decide +kernel
theorem dX9_isOnceUnstable_45 : decode cX9_isOnceUnstable 45 = .ok (.ifCond .eq 5, 3) := by decide +kernel
theorem dX9_isOnceUnstable_50 : decode cX9_isOnceUnstable 50 = .ok (.iinc 3 1, 3) := by decide +kernel
theorem dX9_isOnceUnstable_53 : decode cX9_isOnceUnstable 53 = .ok (.goto (-37), 3) := by decide +kernel
theorem dX9_isOnceUnstable_48 : decode cX9_isOnceUnstable 48 = .ok (.iconst 1, 1) := by decide +kernel
theorem dX9_isOnceUnstable_49 : decode cX9_isOnceUnstable 49 = .ok (.ireturn, 1) := by decide +kernel
theorem dX9_otherRatio_0 : decode cX9_otherRatio 0 = .ok (.aload_n 0, 1) := by decide +kernel
theorem dX9_otherRatio_1 : decode cX9_otherRatio 1 = .ok (.getfield 54, 3) := by decide +kernel
theorem dX9_otherRatio_4 : decode cX9_otherRatio 4 = .ok (.aload_n 0, 1) := by decide +kernel
theorem dX9_otherRatio_5 : decode cX9_otherRatio 5 = .ok (.getfield 37, 3) := by decide +kernel
theorem dX9_otherRatio_8 : decode cX9_otherRatio 8 = .ok (.getfield 112, 3) := by decide +kernel
theorem dX9_otherRatio_11 : decode cX9_otherRatio 11 = .ok (.invokevirtual 311, 3) := by decide +kernel
theorem dX9_otherRatio_14 : decode cX9_otherRatio 14 = .ok (.iconst 0, 1) := by decide +kernel
theorem dX9_otherRatio_15 : decode cX9_otherRatio 15 = .ok (.istore_n 3, 1) := by decide +kernel
theorem dX9_otherRatio_16 : decode cX9_otherRatio 16 = .ok (.iload_n 3, 1) := by decide +kernel
theorem dX9_otherRatio_17 : decode cX9_otherRatio 17 = .ok (.iload_n 2, 1) := by decide +kernel
theorem dX9_otherRatio_18 : decode cX9_otherRatio 18 = .ok (.if_icmp .ge 24, 3) := by decide +kernel
theorem dX9_otherRatio_42 : decode cX9_otherRatio 42 = .ok (.aload_n 0, 1) := by decide +kernel
theorem dX9_otherRatio_43 : decode cX9_otherRatio 43 = .ok (.getfield 54, 3) := by decide +kernel
theorem dX9_otherRatio_46 : decode cX9_otherRatio 46 = .ok (.getfield 280, 3) := by decide +kernel
theorem dX9_otherRatio_49 : decode cX9_otherRatio 49 = .ok (.iload_n 1, 1) := by decide +kernel
theorem dX9_otherRatio_50 : decode cX9_otherRatio 50 = .ok (.aaload, 1) := by decide +kernel
theorem dX9_otherRatio_51 : decode cX9_otherRatio 51 = .ok (.aload_n 0, 1) := by decide +kernel
theorem dX9_otherRatio_52 : decode cX9_otherRatio 52 = .ok (.getfield 30, 3) := by decide +kernel
theorem dX9_otherRatio_55 : decode cX9_otherRatio 55 = .ok (.getfield 187, 3) := by decide +kernel
theorem dX9_otherRatio_58 : decode cX9_otherRatio 58 = .ok (.iload_n 1, 1) := by decide +kernel
theorem dX9_otherRatio_59 : decode cX9_otherRatio 59 = .ok (.iaload, 1) := by decide +kernel
theorem dX9_otherRatio_60 : decode cX9_otherRatio 60 = .ok (.aload_n 0, 1) := by decide +kernel
theorem dX9_otherRatio_61 : decode cX9_otherRatio 61 = .ok (.getfield 30, 3) := by decide +kernel
theorem dX9_otherRatio_64 : decode cX9_otherRatio 64 = .ok (.invokevirtual 203, 3) := by decide +kernel
theorem dX9_otherRatio_67 : decode cX9_otherRatio 67 = .ok (.ireturn, 1) := by decide +kernel
theorem dX9_otherRatio_21 : decode cX9_otherRatio 21 = .ok (.aload_n 0, 1) := by decide +kernel
theorem dX9_otherRatio_22 : decode cX9_otherRatio 22 = .ok (.getfield 54, 3) := by decide +kernel
theorem dX9_otherRatio_25 : decode cX9_otherRatio 25 = .ok (.aload_n 0, 1) := by decide +kernel
theorem dX9_otherRatio_26 : decode cX9_otherRatio 26 = .ok (.getfield 48, 3) := by decide +kernel
theorem dX9_otherRatio_29 : decode cX9_otherRatio 29 = .ok (.iconst 1, 1) := by decide +kernel
theorem dX9_otherRatio_30 : decode cX9_otherRatio 30 = .ok (.iload_n 1, 1) := by decide +kernel
theorem dX9_otherRatio_31 : decode cX9_otherRatio 31 = .ok (.ishl, 1) := by decide +kernel
theorem dX9_otherRatio_32 : decode cX9_otherRatio 32 = .ok (.iconst 1, 1) := by decide +kernel
theorem dX9_otherRatio_33 : decode cX9_otherRatio 33 = .ok (.invokevirtual 264, 3) := by decide +kernel
theorem dX9_otherRatio_36 : decode cX9_otherRatio 36 = .ok (.iinc 3 1, 3) := by decide +kernel
theorem dX9_otherRatio_39 : decode cX9_otherRatio 39 = .ok (.goto (-23), 3) := by decide +kernel
theorem dX9_once_0 : decode cX9_once 0 = .ok (.aload_n 0, 1) := by decide +kernel
theorem dX9_once_1 : decode cX9_once 1 = .ok (.iload_n 1, 1) := by decide +kernel
theorem dX9_once_2 : decode cX9_once 2 = .ok (.invokevirtual 300, 3) := by decide +kernel
theorem dX9_once_5 : decode cX9_once 5 = .ok (.iload_n 2, 1) := by decide +kernel
theorem dX9_once_6 : decode cX9_once 6 = .ok (.iconst 1, 1) := by decide +kernel
theorem dX9_once_7 : decode cX9_once 7 = .ok (.invokestatic 303, 3) := by decide +kernel
theorem dX9_once_10 : decode cX9_once 10 = .ok (.aload_n 0, 1) := by decide +kernel
theorem dX9_once_11 : decode cX9_once 11 = .ok (.getfield 54, 3) := by decide +kernel
theorem dX9_once_14 : decode cX9_once 14 = .ok (.aload_n 0, 1) := by decide +kernel
theorem dX9_once_15 : decode cX9_once 15 = .ok (.getfield 37, 3) := by decide +kernel
theorem dX9_once_18 : decode cX9_once 18 = .ok (.getfield 112, 3) := by decide +kernel
theorem dX9_once_21 : decode cX9_once 21 = .ok (.invokevirtual 311, 3) := by decide +kernel
theorem dX9_once_24 : decode cX9_once 24 = .ok (.iconst 0, 1) := by decide +kernel
theorem dX9_once_25 : decode cX9_once 25 = .ok (.istore_n 3, 1) := by decide +kernel
theorem dX9_once_26 : decode cX9_once 26 = .ok (.iload_n 3, 1) := by decide +kernel
theorem dX9_once_27 : decode cX9_once 27 = .ok (.bipush 72, 2) := by decide +kernel
theorem dX9_once_29 : decode cX9_once 29 = .ok (.if_icmp .gt 69, 3) := by decide +kernel
theorem dX9_once_98 : decode cX9_once 98 = .ok (.iconst (-1), 1) := by decide +kernel
theorem dX9_once_99 : decode cX9_once 99 = .ok (.ireturn, 1) := by decide +kernel
theorem dX9_once_32 : decode cX9_once 32 = .ok (.iload_n 2, 1) := by decide +kernel
theorem dX9_once_33 : decode cX9_once 33 = .ok (.ifCond .ne 15, 3) := by decide +kernel
theorem dX9_once_48 : decode cX9_once 48 = .ok (.aload_n 0, 1) := by decide +kernel
theorem dX9_once_49 : decode cX9_once 49 = .ok (.getfield 54, 3) := by decide +kernel
theorem dX9_once_52 : decode cX9_once 52 = .ok (.getfield 280, 3) := by decide +kernel
theorem dX9_once_55 : decode cX9_once 55 = .ok (.iload_n 1, 1) := by decide +kernel
theorem dX9_once_56 : decode cX9_once 56 = .ok (.aaload, 1) := by decide +kernel
theorem dX9_once_57 : decode cX9_once 57 = .ok (.getfield 193, 3) := by decide +kernel
theorem dX9_once_60 : decode cX9_once 60 = .ok (.ifCond .ne 7, 3) := by decide +kernel
theorem dX9_once_67 : decode cX9_once 67 = .ok (.iconst 0, 1) := by decide +kernel
theorem dX9_once_68 : decode cX9_once 68 = .ok (.istore 4, 2) := by decide +kernel
theorem dX9_once_70 : decode cX9_once 70 = .ok (.iload 4, 2) := by decide +kernel
theorem dX9_once_72 : decode cX9_once 72 = .ok (.ifCond .eq 5, 3) := by decide +kernel
theorem dX9_once_77 : decode cX9_once 77 = .ok (.aload_n 0, 1) := by decide +kernel
theorem dX9_once_78 : decode cX9_once 78 = .ok (.getfield 54, 3) := by decide +kernel
theorem dX9_once_81 : decode cX9_once 81 = .ok (.aload_n 0, 1) := by decide +kernel
theorem dX9_once_82 : decode cX9_once 82 = .ok (.getfield 30, 3) := by decide +kernel
theorem dX9_once_85 : decode cX9_once 85 = .ok (.iconst 1, 1) := by decide +kernel
theorem dX9_once_86 : decode cX9_once 86 = .ok (.iload_n 1, 1) := by decide +kernel
theorem dX9_once_87 : decode cX9_once 87 = .ok (.ishl, 1) := by decide +kernel
theorem dX9_once_88 : decode cX9_once 88 = .ok (.iconst 1, 1) := by decide +kernel
theorem dX9_once_89 : decode cX9_once 89 = .ok (.invokevirtual 264, 3) := by decide +kernel
theorem dX9_once_92 : decode cX9_once 92 = .ok (.iinc 3 1, 3) := by decide +kernel
theorem dX9_once_95 : decode cX9_once 95 = .ok (.goto (-69), 3) := by decide +kernel
theorem dX9_once_63 : decode cX9_once 63 = .ok (.iconst 1, 1) := by decide +kernel
theorem dX9_once_64 : decode cX9_once 64 = .ok (.goto 4, 3) := by decide +kernel
theorem dX9_once_75 : decode cX9_once 75 = .ok (.iload_n 3, 1) := by decide +kernel
theorem dX9_once_76 : decode cX9_once 76 = .ok (.ireturn, 1) := by decide +kernel
theorem dX9_once_36 : decode cX9_once 36 = .ok (.aload_n 0, 1) := by decide +kernel
theorem dX9_once_37 : decode cX9_once 37 = .ok (.aload_n 0, 1) := by decide +kernel
theorem dX9_once_38 : decode cX9_once 38 = .ok (.getfield 54, 3) := by decide +kernel
theorem dX9_once_41 : decode cX9_once 41 = .ok (.iload_n 1, 1) := by decide +kernel
theorem dX9_once_42 : decode cX9_once 42 = .ok (.invokevirtual 287, 3) := by decide +kernel
theorem dX9_once_45 : decode cX9_once 45 = .ok (.goto 23, 3) := by decide +kernel
theorem dX9_gone_0 : decode cX9_gone 0 = .ok (.iload_n 1, 1) := by decide +kernel
theorem dX9_gone_1 : decode cX9_gone 1 = .ok (.ifCond .lt 17, 3) := by decide +kernel
theorem dX9_gone_18 : decode cX9_gone 18 = .ok (.new 165, 3) := by decide +kernel
theorem dX9_gone_21 : decode cX9_gone 21 = .ok (.dup, 1) := by decide +kernel
theorem dX9_gone_22 : decode cX9_gone 22 = .ok (.ldc_w 316, 3) := by decide +kernel
theorem dX9_gone_25 : decode cX9_gone 25 = .ok (.invokespecial 169, 3) := by decide +kernel
theorem dX9_gone_28 : decode cX9_gone 28 = .ok (.athrow, 1) := by decide +kernel
theorem dX9_gone_4 : decode cX9_gone 4 = .ok (.iload_n 1, 1) := by decide +kernel
theorem dX9_gone_5 : decode cX9_gone 5 = .ok (.aload_n 0, 1) := by decide +kernel
theorem dX9_gone_6 : decode cX9_gone 6 = .ok (.getfield 37, 3) := by decide +kernel
theorem dX9_gone_9 : decode cX9_gone 9 = .ok (.getfield 112, 3) := by decide +kernel
theorem dX9_gone_12 : decode cX9_gone 12 = .ok (.getfield 128, 3) := by decide +kernel
theorem dX9_gone_15 : decode cX9_gone 15 = .ok (.if_icmp .lt 14, 3) := by decide +kernel
theorem dX9_gone_29 : decode cX9_gone 29 = .ok (.aload_n 0, 1) := by decide +kernel
theorem dX9_gone_30 : decode cX9_gone 30 = .ok (.getfield 54, 3) := by decide +kernel
theorem dX9_gone_33 : decode cX9_gone 33 = .ok (.aload_n 0, 1) := by decide +kernel
theorem dX9_gone_34 : decode cX9_gone 34 = .ok (.getfield 37, 3) := by decide +kernel
theorem dX9_gone_37 : decode cX9_gone 37 = .ok (.getfield 112, 3) := by decide +kernel
theorem dX9_gone_40 : decode cX9_gone 40 = .ok (.invokevirtual 311, 3) := by decide +kernel
theorem dX9_gone_43 : decode cX9_gone 43 = .ok (.iconst 0, 1) := by decide +kernel
theorem dX9_gone_44 : decode cX9_gone 44 = .ok (.istore_n 2, 1) := by decide +kernel
theorem dX9_gone_45 : decode cX9_gone 45 = .ok (.iload_n 2, 1) := by decide +kernel
theorem dX9_gone_46 : decode cX9_gone 46 = .ok (.bipush 72, 2) := by decide +kernel
theorem dX9_gone_48 : decode cX9_gone 48 = .ok (.if_icmp .gt 41, 3) := by decide +kernel
theorem dX9_gone_89 : decode cX9_gone 89 = .ok (.iconst (-1), 1) := by decide +kernel
theorem dX9_gone_90 : decode cX9_gone 90 = .ok (.ireturn, 1) := by decide +kernel
theorem dX9_gone_51 : decode cX9_gone 51 = .ok (.aload_n 0, 1) := by decide +kernel
theorem dX9_gone_52 : decode cX9_gone 52 = .ok (.getfield 54, 3) := by decide +kernel
theorem dX9_gone_55 : decode cX9_gone 55 = .ok (.iload_n 1, 1) := by decide +kernel
theorem dX9_gone_56 : decode cX9_gone 56 = .ok (.invokevirtual 318, 3) := by decide +kernel
theorem dX9_gone_59 : decode cX9_gone 59 = .ok (.ifCond .ne 5, 3) := by decide +kernel
theorem dX9_gone_64 : decode cX9_gone 64 = .ok (.aload_n 0, 1) := by decide +kernel
theorem dX9_gone_65 : decode cX9_gone 65 = .ok (.getfield 54, 3) := by decide +kernel
theorem dX9_gone_68 : decode cX9_gone 68 = .ok (.aload_n 0, 1) := by decide +kernel
theorem dX9_gone_69 : decode cX9_gone 69 = .ok (.getfield 30, 3) := by decide +kernel
theorem dX9_gone_72 : decode cX9_gone 72 = .ok (.aload_n 0, 1) := by decide +kernel
theorem dX9_gone_73 : decode cX9_gone 73 = .ok (.getfield 30, 3) := by decide +kernel
theorem dX9_gone_76 : decode cX9_gone 76 = .ok (.invokevirtual 261, 3) := by decide +kernel
theorem dX9_gone_79 : decode cX9_gone 79 = .ok (.iconst 1, 1) := by decide +kernel
theorem dX9_gone_80 : decode cX9_gone 80 = .ok (.invokevirtual 264, 3) := by decide +kernel
theorem dX9_gone_83 : decode cX9_gone 83 = .ok (.iinc 2 1, 3) := by decide +kernel
theorem dX9_gone_86 : decode cX9_gone 86 = .ok (.goto (-41), 3) := by decide +kernel
theorem dX9_gone_62 : decode cX9_gone 62 = .ok (.iload_n 2, 1) := by decide +kernel
theorem dX9_gone_63 : decode cX9_gone 63 = .ok (.ireturn, 1) := by decide +kernel
theorem dX9_then_0 : decode cX9_then 0 = .ok (.aload_n 0, 1) := by decide +kernel
theorem dX9_then_1 : decode cX9_then 1 = .ok (.iload_n 1, 1) := by decide +kernel
theorem dX9_then_2 : decode cX9_then 2 = .ok (.invokevirtual 300, 3) := by decide +kernel
theorem dX9_then_5 : decode cX9_then 5 = .ok (.iload_n 3, 1) := by decide +kernel
theorem dX9_then_6 : decode cX9_then 6 = .ok (.bipush 6, 2) := by decide +kernel
theorem dX9_then_8 : decode cX9_then 8 = .ok (.invokestatic 303, 3) := by decide +kernel
theorem dX9_then_11 : decode cX9_then 11 = .ok (.iload_n 2, 1) := by decide +kernel
theorem dX9_then_12 : decode cX9_then 12 = .ok (.iconst 0, 1) := by decide +kernel
theorem dX9_then_13 : decode cX9_then 13 = .ok (.bipush 72, 2) := by decide +kernel
theorem dX9_then_15 : decode cX9_then 15 = .ok (.invokestatic 307, 3) := by decide +kernel
theorem dX9_then_18 : decode cX9_then 18 = .ok (.aload_n 0, 1) := by decide +kernel
theorem dX9_then_19 : decode cX9_then 19 = .ok (.getfield 54, 3) := by decide +kernel
theorem dX9_then_22 : decode cX9_then 22 = .ok (.aload_n 0, 1) := by decide +kernel
theorem dX9_then_23 : decode cX9_then 23 = .ok (.getfield 37, 3) := by decide +kernel
theorem dX9_then_26 : decode cX9_then 26 = .ok (.getfield 112, 3) := by decide +kernel
theorem dX9_then_29 : decode cX9_then 29 = .ok (.invokevirtual 311, 3) := by decide +kernel
theorem dX9_then_32 : decode cX9_then 32 = .ok (.iconst 0, 1) := by decide +kernel
theorem dX9_then_33 : decode cX9_then 33 = .ok (.istore 4, 2) := by decide +kernel
theorem dX9_then_35 : decode cX9_then 35 = .ok (.iload 4, 2) := by decide +kernel
theorem dX9_then_37 : decode cX9_then 37 = .ok (.iload_n 2, 1) := by decide +kernel
theorem dX9_then_38 : decode cX9_then 38 = .ok (.if_icmp .ge 28, 3) := by decide +kernel
theorem dX9_then_66 : decode cX9_then 66 = .ok (.aload_n 0, 1) := by decide +kernel
theorem dX9_then_67 : decode cX9_then 67 = .ok (.getfield 54, 3) := by decide +kernel
theorem dX9_then_70 : decode cX9_then 70 = .ok (.getfield 280, 3) := by decide +kernel
theorem dX9_then_73 : decode cX9_then 73 = .ok (.iload_n 1, 1) := by decide +kernel
theorem dX9_then_74 : decode cX9_then 74 = .ok (.aaload, 1) := by decide +kernel
theorem dX9_then_75 : decode cX9_then 75 = .ok (.astore 4, 2) := by decide +kernel
theorem dX9_then_77 : decode cX9_then 77 = .ok (.aload_n 0, 1) := by decide +kernel
theorem dX9_then_78 : decode cX9_then 78 = .ok (.getfield 30, 3) := by decide +kernel
theorem dX9_then_81 : decode cX9_then 81 = .ok (.getfield 187, 3) := by decide +kernel
theorem dX9_then_84 : decode cX9_then 84 = .ok (.iload_n 1, 1) := by decide +kernel
theorem dX9_then_85 : decode cX9_then 85 = .ok (.iaload, 1) := by decide +kernel
theorem dX9_then_86 : decode cX9_then 86 = .ok (.istore 5, 2) := by decide +kernel
theorem dX9_then_88 : decode cX9_then 88 = .ok (.iload_n 3, 1) := by decide +kernel
theorem dX9_then_89 : decode cX9_then 89 = .ok (.tableswitch 98 0 5 #[39, 47, 55, 63, 69, 81], 39) := by decide +kernel
theorem dX9_then_187 : decode cX9_then 187 = .ok (.aload 4, 2) := by decide +kernel
theorem dX9_then_189 : decode cX9_then 189 = .ok (.getfield 197, 3) := by decide +kernel
theorem dX9_then_192 : decode cX9_then 192 = .ok (.ireturn, 1) := by decide +kernel
theorem dX9_then_128 : decode cX9_then 128 = .ok (.aload 4, 2) := by decide +kernel
theorem dX9_then_130 : decode cX9_then 130 = .ok (.bipush 36, 2) := by decide +kernel
theorem dX9_then_132 : decode cX9_then 132 = .ok (.invokevirtual 196, 3) := by decide +kernel
theorem dX9_then_135 : decode cX9_then 135 = .ok (.ireturn, 1) := by decide +kernel
theorem dX9_then_136 : decode cX9_then 136 = .ok (.aload 4, 2) := by decide +kernel
theorem dX9_then_138 : decode cX9_then 138 = .ok (.bipush 12, 2) := by decide +kernel
theorem dX9_then_140 : decode cX9_then 140 = .ok (.invokevirtual 196, 3) := by decide +kernel
theorem dX9_then_143 : decode cX9_then 143 = .ok (.ireturn, 1) := by decide +kernel
theorem dX9_then_144 : decode cX9_then 144 = .ok (.aload 4, 2) := by decide +kernel
theorem dX9_then_146 : decode cX9_then 146 = .ok (.bipush 24, 2) := by decide +kernel
theorem dX9_then_148 : decode cX9_then 148 = .ok (.invokevirtual 196, 3) := by decide +kernel
theorem dX9_then_151 : decode cX9_then 151 = .ok (.ireturn, 1) := by decide +kernel
theorem dX9_then_152 : decode cX9_then 152 = .ok (.aload 4, 2) := by decide +kernel
theorem dX9_then_154 : decode cX9_then 154 = .ok (.getfield 193, 3) := by decide +kernel
theorem dX9_then_157 : decode cX9_then 157 = .ok (.ireturn, 1) := by decide +kernel
theorem dX9_then_158 : decode cX9_then 158 = .ok (.aload 4, 2) := by decide +kernel
theorem dX9_then_160 : decode cX9_then 160 = .ok (.iload 5, 2) := by decide +kernel
theorem dX9_then_162 : decode cX9_then 162 = .ok (.aload_n 0, 1) := by decide +kernel
theorem dX9_then_163 : decode cX9_then 163 = .ok (.getfield 30, 3) := by decide +kernel
theorem dX9_then_166 : decode cX9_then 166 = .ok (.invokevirtual 203, 3) := by decide +kernel
theorem dX9_then_169 : decode cX9_then 169 = .ok (.ireturn, 1) := by decide +kernel
theorem dX9_then_170 : decode cX9_then 170 = .ok (.aload 4, 2) := by decide +kernel
theorem dX9_then_172 : decode cX9_then 172 = .ok (.aload 4, 2) := by decide +kernel
theorem dX9_then_174 : decode cX9_then 174 = .ok (.iload 5, 2) := by decide +kernel
theorem dX9_then_176 : decode cX9_then 176 = .ok (.aload_n 0, 1) := by decide +kernel
theorem dX9_then_177 : decode cX9_then 177 = .ok (.getfield 30, 3) := by decide +kernel
theorem dX9_then_180 : decode cX9_then 180 = .ok (.invokevirtual 199, 3) := by decide +kernel
theorem dX9_then_183 : decode cX9_then 183 = .ok (.invokevirtual 313, 3) := by decide +kernel
theorem dX9_then_186 : decode cX9_then 186 = .ok (.ireturn, 1) := by decide +kernel
theorem dX9_then_41 : decode cX9_then 41 = .ok (.aload_n 0, 1) := by decide +kernel
theorem dX9_then_42 : decode cX9_then 42 = .ok (.getfield 54, 3) := by decide +kernel
theorem dX9_then_45 : decode cX9_then 45 = .ok (.aload_n 0, 1) := by decide +kernel
theorem dX9_then_46 : decode cX9_then 46 = .ok (.getfield 30, 3) := by decide +kernel
theorem dX9_then_49 : decode cX9_then 49 = .ok (.aload_n 0, 1) := by decide +kernel
theorem dX9_then_50 : decode cX9_then 50 = .ok (.getfield 30, 3) := by decide +kernel
theorem dX9_then_53 : decode cX9_then 53 = .ok (.invokevirtual 261, 3) := by decide +kernel
theorem dX9_then_56 : decode cX9_then 56 = .ok (.iconst 1, 1) := by decide +kernel
theorem dX9_then_57 : decode cX9_then 57 = .ok (.invokevirtual 264, 3) := by decide +kernel
theorem dX9_then_60 : decode cX9_then 60 = .ok (.iinc 4 1, 3) := by decide +kernel
theorem dX9_then_63 : decode cX9_then 63 = .ok (.goto (-28), 3) := by decide +kernel
theorem dX9_toWarm_0 : decode cX9_toWarm 0 = .ok (.aload_n 0, 1) := by decide +kernel
theorem dX9_toWarm_1 : decode cX9_toWarm 1 = .ok (.iload_n 1, 1) := by decide +kernel
theorem dX9_toWarm_2 : decode cX9_toWarm 2 = .ok (.invokevirtual 300, 3) := by decide +kernel
theorem dX9_toWarm_5 : decode cX9_toWarm 5 = .ok (.iload_n 2, 1) := by decide +kernel
theorem dX9_toWarm_6 : decode cX9_toWarm 6 = .ok (.iconst 1, 1) := by decide +kernel
theorem dX9_toWarm_7 : decode cX9_toWarm 7 = .ok (.bipush 24, 2) := by decide +kernel
theorem dX9_toWarm_9 : decode cX9_toWarm 9 = .ok (.invokestatic 307, 3) := by decide +kernel
theorem dX9_toWarm_12 : decode cX9_toWarm 12 = .ok (.iconst 1, 1) := by decide +kernel
theorem dX9_toWarm_13 : decode cX9_toWarm 13 = .ok (.istore_n 3, 1) := by decide +kernel
theorem dX9_toWarm_14 : decode cX9_toWarm 14 = .ok (.iload_n 3, 1) := by decide +kernel
theorem dX9_toWarm_15 : decode cX9_toWarm 15 = .ok (.bipush 50, 2) := by decide +kernel
theorem dX9_toWarm_17 : decode cX9_toWarm 17 = .ok (.if_icmp .gt 39, 3) := by decide +kernel
theorem dX9_toWarm_56 : decode cX9_toWarm 56 = .ok (.iconst (-1), 1) := by decide +kernel
theorem dX9_toWarm_57 : decode cX9_toWarm 57 = .ok (.ireturn, 1) := by decide +kernel
theorem dX9_toWarm_20 : decode cX9_toWarm 20 = .ok (.aload_n 0, 1) := by decide +kernel
theorem dX9_toWarm_21 : decode cX9_toWarm 21 = .ok (.getfield 48, 3) := by decide +kernel
theorem dX9_toWarm_24 : decode cX9_toWarm 24 = .ok (.aload_n 0, 1) := by decide +kernel
theorem dX9_toWarm_25 : decode cX9_toWarm 25 = .ok (.getfield 30, 3) := by decide +kernel
theorem dX9_toWarm_28 : decode cX9_toWarm 28 = .ok (.invokevirtual 104, 3) := by decide +kernel
theorem dX9_toWarm_31 : decode cX9_toWarm 31 = .ok (.aload_n 0, 1) := by decide +kernel
theorem dX9_toWarm_32 : decode cX9_toWarm 32 = .ok (.getfield 48, 3) := by decide +kernel
theorem dX9_toWarm_35 : decode cX9_toWarm 35 = .ok (.iload_n 3, 1) := by decide +kernel
theorem dX9_toWarm_36 : decode cX9_toWarm 36 = .ok (.invokevirtual 324, 3) := by decide +kernel
theorem dX9_toWarm_39 : decode cX9_toWarm 39 = .ok (.aload_n 0, 1) := by decide +kernel
theorem dX9_toWarm_40 : decode cX9_toWarm 40 = .ok (.iload_n 1, 1) := by decide +kernel
theorem dX9_toWarm_41 : decode cX9_toWarm 41 = .ok (.iload_n 2, 1) := by decide +kernel
theorem dX9_toWarm_42 : decode cX9_toWarm 42 = .ok (.invokevirtual 327, 3) := by decide +kernel
theorem dX9_toWarm_45 : decode cX9_toWarm 45 = .ok (.ifCond .eq 5, 3) := by decide +kernel
theorem dX9_toWarm_50 : decode cX9_toWarm 50 = .ok (.iinc 3 1, 3) := by decide +kernel
theorem dX9_toWarm_53 : decode cX9_toWarm 53 = .ok (.goto (-39), 3) := by decide +kernel
theorem dX9_toWarm_48 : decode cX9_toWarm 48 = .ok (.iload_n 3, 1) := by decide +kernel
theorem dX9_toWarm_49 : decode cX9_toWarm 49 = .ok (.ireturn, 1) := by decide +kernel
