-- decode rows of reftry
theorem dX10_once_0 : decode cX10_once 0 = .ok (.aload_n 0, 1) := by decide +kernel
theorem dX10_once_1 : decode cX10_once 1 = .ok (.iconst 0, 1) := by decide +kernel
theorem dX10_once_2 : decode cX10_once 2 = .ok (.putfield 110, 3) := by decide +kernel
theorem dX10_once_5 : decode cX10_once 5 = .ok (.aload_n 0, 1) := by decide +kernel
theorem dX10_once_6 : decode cX10_once 6 = .ok (.iload_n 1, 1) := by decide +kernel
theorem dX10_once_7 : decode cX10_once 7 = .ok (.invokevirtual 360, 3) := by decide +kernel
theorem dX10_once_10 : decode cX10_once 10 = .ok (.ifCond .eq 17, 3) := by decide +kernel
theorem dX10_once_13 : decode cX10_once 13 = .ok (.aload_n 0, 1) := by decide +kernel
theorem dX10_once_14 : decode cX10_once 14 = .ok (.iload_n 2, 1) := by decide +kernel
theorem dX10_once_15 : decode cX10_once 15 = .ok (.iconst 0, 1) := by decide +kernel
theorem dX10_once_16 : decode cX10_once 16 = .ok (.iconst 1, 1) := by decide +kernel
theorem dX10_once_17 : decode cX10_once 17 = .ok (.invokestatic 281, 3) := by decide +kernel
theorem dX10_once_20 : decode cX10_once 20 = .ok (.iconst 1, 1) := by decide +kernel
theorem dX10_once_21 : decode cX10_once 21 = .ok (.invokevirtual 324, 3) := by decide +kernel
theorem dX10_once_24 : decode cX10_once 24 = .ok (.ifCond .ne 5, 3) := by decide +kernel
theorem dX10_once_29 : decode cX10_once 29 = .ok (.aload_n 0, 1) := by decide +kernel
theorem dX10_once_30 : decode cX10_once 30 = .ok (.invokevirtual 409, 3) := by decide +kernel
theorem dX10_once_33 : decode cX10_once 33 = .ok (.iconst 0, 1) := by decide +kernel
theorem dX10_once_34 : decode cX10_once 34 = .ok (.istore_n 3, 1) := by decide +kernel
theorem dX10_once_35 : decode cX10_once 35 = .ok (.iload_n 3, 1) := by decide +kernel
theorem dX10_once_36 : decode cX10_once 36 = .ok (.bipush 72, 2) := by decide +kernel
theorem dX10_once_38 : decode cX10_once 38 = .ok (.if_icmp .gt 47, 3) := by decide +kernel
theorem dX10_once_85 : decode cX10_once 85 = .ok (.iconst (-1), 1) := by decide +kernel
theorem dX10_once_86 : decode cX10_once 86 = .ok (.ireturn, 1) := by decide +kernel
theorem dX10_once_41 : decode cX10_once 41 = .ok (.iload_n 2, 1) := by decide +kernel
theorem dX10_once_42 : decode cX10_once 42 = .ok (.ifCond .ne 17, 3) := by decide +kernel
theorem dX10_once_59 : decode cX10_once 59 = .ok (.aload_n 0, 1) := by decide +kernel
theorem dX10_once_60 : decode cX10_once 60 = .ok (.sipush 350, 3) := by decide +kernel
theorem dX10_once_63 : decode cX10_once 63 = .ok (.iload_n 1, 1) := by decide +kernel
theorem dX10_once_64 : decode cX10_once 64 = .ok (.invokevirtual 121, 3) := by decide +kernel
theorem dX10_once_67 : decode cX10_once 67 = .ok (.ifCond .ne 5, 3) := by decide +kernel
theorem dX10_once_72 : decode cX10_once 72 = .ok (.aload_n 0, 1) := by decide +kernel
theorem dX10_once_73 : decode cX10_once 73 = .ok (.sipush 350, 3) := by decide +kernel
theorem dX10_once_76 : decode cX10_once 76 = .ok (.invokevirtual 219, 3) := by decide +kernel
theorem dX10_once_79 : decode cX10_once 79 = .ok (.iinc 3 1, 3) := by decide +kernel
theorem dX10_once_82 : decode cX10_once 82 = .ok (.goto (-47), 3) := by decide +kernel
theorem dX10_once_70 : decode cX10_once 70 = .ok (.iload_n 3, 1) := by decide +kernel
theorem dX10_once_71 : decode cX10_once 71 = .ok (.ireturn, 1) := by decide +kernel
theorem dX10_once_45 : decode cX10_once 45 = .ok (.aload_n 0, 1) := by decide +kernel
theorem dX10_once_46 : decode cX10_once 46 = .ok (.sipush 350, 3) := by decide +kernel
theorem dX10_once_49 : decode cX10_once 49 = .ok (.iload_n 1, 1) := by decide +kernel
theorem dX10_once_50 : decode cX10_once 50 = .ok (.invokevirtual 366, 3) := by decide +kernel
theorem dX10_once_53 : decode cX10_once 53 = .ok (.ifCond .eq 19, 3) := by decide +kernel
theorem dX10_once_56 : decode cX10_once 56 = .ok (.goto 14, 3) := by decide +kernel
theorem dX10_once_27 : decode cX10_once 27 = .ok (.iconst 0, 1) := by decide +kernel
theorem dX10_once_28 : decode cX10_once 28 = .ok (.ireturn, 1) := by decide +kernel
theorem dX10_isNamed_2 : decode cX10_isNamed 2 = .ok (.iload_n 3, 1) := by decide +kernel
theorem dX10_isNamed_3 : decode cX10_isNamed 3 = .ok (.aload_n 0, 1) := by decide +kernel
theorem dX10_isNamed_4 : decode cX10_isNamed 4 = .ok (.getfield 198, 3) := by decide +kernel
theorem dX10_isNamed_7 : decode cX10_isNamed 7 = .ok (.if_icmp .ge 45, 3) := by decide +kernel
theorem dX10_isNamed_52 : decode cX10_isNamed 52 = .ok (.iconst 0, 1) := by decide +kernel
theorem dX10_isNamed_53 : decode cX10_isNamed 53 = .ok (.ireturn, 1) := by decide +kernel
theorem dX10_isNamed_10 : decode cX10_isNamed 10 = .ok (.iconst 0, 1) := by decide +kernel
theorem dX10_isNamed_11 : decode cX10_isNamed 11 = .ok (.istore 4, 2) := by decide +kernel
theorem dX10_isNamed_13 : decode cX10_isNamed 13 = .ok (.iload 4, 2) := by decide +kernel
theorem dX10_isNamed_15 : decode cX10_isNamed 15 = .ok (.aload_n 0, 1) := by decide +kernel
theorem dX10_isNamed_16 : decode cX10_isNamed 16 = .ok (.iload_n 1, 1) := by decide +kernel
theorem dX10_isNamed_17 : decode cX10_isNamed 17 = .ok (.iload_n 3, 1) := by decide +kernel
theorem dX10_isNamed_18 : decode cX10_isNamed 18 = .ok (.invokevirtual 121, 3) := by decide +kernel
theorem dX10_isNamed_21 : decode cX10_isNamed 21 = .ok (.if_icmp .ge 25, 3) := by decide +kernel
theorem dX10_isNamed_46 : decode cX10_isNamed 46 = .ok (.iinc 3 1, 3) := by decide +kernel
theorem dX10_isNamed_49 : decode cX10_isNamed 49 = .ok (.goto (-47), 3) := by decide +kernel
theorem dX10_isNamed_24 : decode cX10_isNamed 24 = .ok (.aload_n 0, 1) := by decide +kernel
theorem dX10_isNamed_25 : decode cX10_isNamed 25 = .ok (.iload_n 1, 1) := by decide +kernel
theorem dX10_isNamed_26 : decode cX10_isNamed 26 = .ok (.iload_n 3, 1) := by decide +kernel
theorem dX10_isNamed_27 : decode cX10_isNamed 27 = .ok (.iload 4, 2) := by decide +kernel
theorem dX10_isNamed_29 : decode cX10_isNamed 29 = .ok (.bipush 6, 2) := by decide +kernel
theorem dX10_isNamed_31 : decode cX10_isNamed 31 = .ok (.invokevirtual 117, 3) := by decide +kernel
theorem dX10_isNamed_34 : decode cX10_isNamed 34 = .ok (.iload_n 2, 1) := by decide +kernel
theorem dX10_isNamed_35 : decode cX10_isNamed 35 = .ok (.if_icmp .ne 5, 3) := by decide +kernel
theorem dX10_isNamed_40 : decode cX10_isNamed 40 = .ok (.iinc 4 1, 3) := by decide +kernel
theorem dX10_isNamed_43 : decode cX10_isNamed 43 = .ok (.goto (-30), 3) := by decide +kernel
theorem dX10_isNamed_38 : decode cX10_isNamed 38 = .ok (.iconst 1, 1) := by decide +kernel
theorem dX10_isNamed_39 : decode cX10_isNamed 39 = .ok (.ireturn, 1) := by decide +kernel
theorem dX10_isNamed_0 : decode cX10_isNamed 0 = .ok (.iconst 0, 1) := by decide +kernel
theorem dX10_isNamed_1 : decode cX10_isNamed 1 = .ok (.istore_n 3, 1) := by decide +kernel
theorem dX10_gone_0 : decode cX10_gone 0 = .ok (.aload_n 0, 1) := by decide +kernel
theorem dX10_gone_1 : decode cX10_gone 1 = .ok (.iconst 0, 1) := by decide +kernel
theorem dX10_gone_2 : decode cX10_gone 2 = .ok (.putfield 110, 3) := by decide +kernel
theorem dX10_gone_5 : decode cX10_gone 5 = .ok (.aload_n 0, 1) := by decide +kernel
theorem dX10_gone_6 : decode cX10_gone 6 = .ok (.iload_n 1, 1) := by decide +kernel
theorem dX10_gone_7 : decode cX10_gone 7 = .ok (.iconst 0, 1) := by decide +kernel
theorem dX10_gone_8 : decode cX10_gone 8 = .ok (.aload_n 0, 1) := by decide +kernel
theorem dX10_gone_9 : decode cX10_gone 9 = .ok (.getfield 9, 3) := by decide +kernel
theorem dX10_gone_12 : decode cX10_gone 12 = .ok (.iconst 1, 1) := by decide +kernel
theorem dX10_gone_13 : decode cX10_gone 13 = .ok (.iaload, 1) := by decide +kernel
theorem dX10_gone_14 : decode cX10_gone 14 = .ok (.iconst 1, 1) := by decide +kernel
theorem dX10_gone_15 : decode cX10_gone 15 = .ok (.isub, 1) := by decide +kernel
theorem dX10_gone_16 : decode cX10_gone 16 = .ok (.invokestatic 281, 3) := by decide +kernel
theorem dX10_gone_19 : decode cX10_gone 19 = .ok (.iconst 1, 1) := by decide +kernel
theorem dX10_gone_20 : decode cX10_gone 20 = .ok (.invokevirtual 324, 3) := by decide +kernel
theorem dX10_gone_23 : decode cX10_gone 23 = .ok (.ifCond .ne 5, 3) := by decide +kernel
theorem dX10_gone_28 : decode cX10_gone 28 = .ok (.aload_n 0, 1) := by decide +kernel
theorem dX10_gone_29 : decode cX10_gone 29 = .ok (.invokevirtual 409, 3) := by decide +kernel
theorem dX10_gone_32 : decode cX10_gone 32 = .ok (.iconst 0, 1) := by decide +kernel
theorem dX10_gone_33 : decode cX10_gone 33 = .ok (.istore_n 2, 1) := by decide +kernel
theorem dX10_gone_34 : decode cX10_gone 34 = .ok (.iload_n 2, 1) := by decide +kernel
theorem dX10_gone_35 : decode cX10_gone 35 = .ok (.bipush 72, 2) := by decide +kernel
theorem dX10_gone_37 : decode cX10_gone 37 = .ok (.if_icmp .gt 29, 3) := by decide +kernel
theorem dX10_gone_66 : decode cX10_gone 66 = .ok (.iconst (-1), 1) := by decide +kernel
theorem dX10_gone_67 : decode cX10_gone 67 = .ok (.ireturn, 1) := by decide +kernel
theorem dX10_gone_40 : decode cX10_gone 40 = .ok (.aload_n 0, 1) := by decide +kernel
theorem dX10_gone_41 : decode cX10_gone 41 = .ok (.sipush 350, 3) := by decide +kernel
theorem dX10_gone_44 : decode cX10_gone 44 = .ok (.iload_n 1, 1) := by decide +kernel
theorem dX10_gone_45 : decode cX10_gone 45 = .ok (.invokevirtual 412, 3) := by decide +kernel
theorem dX10_gone_48 : decode cX10_gone 48 = .ok (.ifCond .ne 5, 3) := by decide +kernel
theorem dX10_gone_53 : decode cX10_gone 53 = .ok (.aload_n 0, 1) := by decide +kernel
theorem dX10_gone_54 : decode cX10_gone 54 = .ok (.sipush 350, 3) := by decide +kernel
theorem dX10_gone_57 : decode cX10_gone 57 = .ok (.invokevirtual 219, 3) := by decide +kernel
theorem dX10_gone_60 : decode cX10_gone 60 = .ok (.iinc 2 1, 3) := by decide +kernel
theorem dX10_gone_63 : decode cX10_gone 63 = .ok (.goto (-29), 3) := by decide +kernel
theorem dX10_gone_51 : decode cX10_gone 51 = .ok (.iload_n 2, 1) := by decide +kernel
theorem dX10_gone_52 : decode cX10_gone 52 = .ok (.ireturn, 1) := by decide +kernel
theorem dX10_gone_26 : decode cX10_gone 26 = .ok (.iconst 0, 1) := by decide +kernel
theorem dX10_gone_27 : decode cX10_gone 27 = .ok (.ireturn, 1) := by decide +kernel
theorem dX10_ratioBehind_0 : decode cX10_ratioBehind 0 = .ok (.aload_n 0, 1) := by decide +kernel
theorem dX10_ratioBehind_1 : decode cX10_ratioBehind 1 = .ok (.invokevirtual 409, 3) := by decide +kernel
theorem dX10_ratioBehind_4 : decode cX10_ratioBehind 4 = .ok (.aload_n 0, 1) := by decide +kernel
theorem dX10_ratioBehind_5 : decode cX10_ratioBehind 5 = .ok (.sipush 350, 3) := by decide +kernel
theorem dX10_ratioBehind_8 : decode cX10_ratioBehind 8 = .ok (.iload_n 2, 1) := by decide +kernel
theorem dX10_ratioBehind_9 : decode cX10_ratioBehind 9 = .ok (.invokevirtual 400, 3) := by decide +kernel
theorem dX10_ratioBehind_12 : decode cX10_ratioBehind 12 = .ok (.aload_n 0, 1) := by decide +kernel
theorem dX10_ratioBehind_13 : decode cX10_ratioBehind 13 = .ok (.sipush 350, 3) := by decide +kernel
theorem dX10_ratioBehind_16 : decode cX10_ratioBehind 16 = .ok (.iload_n 1, 1) := by decide +kernel
theorem dX10_ratioBehind_17 : decode cX10_ratioBehind 17 = .ok (.invokevirtual 238, 3) := by decide +kernel
theorem dX10_ratioBehind_20 : decode cX10_ratioBehind 20 = .ok (.ireturn, 1) := by decide +kernel
theorem dX10_matters_0 : decode cX10_matters 0 = .ok (.aload_n 0, 1) := by decide +kernel
theorem dX10_matters_1 : decode cX10_matters 1 = .ok (.iconst 0, 1) := by decide +kernel
theorem dX10_matters_2 : decode cX10_matters 2 = .ok (.putfield 110, 3) := by decide +kernel
theorem dX10_matters_5 : decode cX10_matters 5 = .ok (.aload_n 0, 1) := by decide +kernel
theorem dX10_matters_6 : decode cX10_matters 6 = .ok (.iload_n 1, 1) := by decide +kernel
theorem dX10_matters_7 : decode cX10_matters 7 = .ok (.invokevirtual 360, 3) := by decide +kernel
theorem dX10_matters_10 : decode cX10_matters 10 = .ok (.ifCond .eq 32, 3) := by decide +kernel
theorem dX10_matters_13 : decode cX10_matters 13 = .ok (.aload_n 0, 1) := by decide +kernel
theorem dX10_matters_14 : decode cX10_matters 14 = .ok (.iload_n 3, 1) := by decide +kernel
theorem dX10_matters_15 : decode cX10_matters 15 = .ok (.iconst 0, 1) := by decide +kernel
theorem dX10_matters_16 : decode cX10_matters 16 = .ok (.iconst 1, 1) := by decide +kernel
theorem dX10_matters_17 : decode cX10_matters 17 = .ok (.invokestatic 281, 3) := by decide +kernel
theorem dX10_matters_20 : decode cX10_matters 20 = .ok (.iconst 1, 1) := by decide +kernel
theorem dX10_matters_21 : decode cX10_matters 21 = .ok (.invokevirtual 324, 3) := by decide +kernel
theorem dX10_matters_24 : decode cX10_matters 24 = .ok (.ifCond .eq 18, 3) := by decide +kernel
theorem dX10_matters_27 : decode cX10_matters 27 = .ok (.aload_n 0, 1) := by decide +kernel
theorem dX10_matters_28 : decode cX10_matters 28 = .ok (.iload_n 2, 1) := by decide +kernel
theorem dX10_matters_29 : decode cX10_matters 29 = .ok (.iconst 1, 1) := by decide +kernel
theorem dX10_matters_30 : decode cX10_matters 30 = .ok (.bipush 48, 2) := by decide +kernel
theorem dX10_matters_32 : decode cX10_matters 32 = .ok (.invokestatic 281, 3) := by decide +kernel
theorem dX10_matters_35 : decode cX10_matters 35 = .ok (.iconst 2, 1) := by decide +kernel
theorem dX10_matters_36 : decode cX10_matters 36 = .ok (.invokevirtual 324, 3) := by decide +kernel
theorem dX10_matters_39 : decode cX10_matters 39 = .ok (.ifCond .ne 5, 3) := by decide +kernel
theorem dX10_matters_44 : decode cX10_matters 44 = .ok (.aload_n 0, 1) := by decide +kernel
theorem dX10_matters_45 : decode cX10_matters 45 = .ok (.iload_n 1, 1) := by decide +kernel
theorem dX10_matters_46 : decode cX10_matters 46 = .ok (.iload_n 2, 1) := by decide +kernel
theorem dX10_matters_47 : decode cX10_matters 47 = .ok (.invokevirtual 418, 3) := by decide +kernel
theorem dX10_matters_50 : decode cX10_matters 50 = .ok (.istore 4, 2) := by decide +kernel
theorem dX10_matters_52 : decode cX10_matters 52 = .ok (.iconst (-1), 1) := by decide +kernel
theorem dX10_matters_53 : decode cX10_matters 53 = .ok (.istore 5, 2) := by decide +kernel
theorem dX10_matters_55 : decode cX10_matters 55 = .ok (.iconst 0, 1) := by decide +kernel
theorem dX10_matters_56 : decode cX10_matters 56 = .ok (.istore 6, 2) := by decide +kernel
theorem dX10_matters_58 : decode cX10_matters 58 = .ok (.iconst 0, 1) := by decide +kernel
theorem dX10_matters_59 : decode cX10_matters 59 = .ok (.istore 7, 2) := by decide +kernel
theorem dX10_matters_61 : decode cX10_matters 61 = .ok (.iload 7, 2) := by decide +kernel
theorem dX10_matters_63 : decode cX10_matters 63 = .ok (.aload_n 0, 1) := by decide +kernel
theorem dX10_matters_64 : decode cX10_matters 64 = .ok (.getfield 153, 3) := by decide +kernel
theorem dX10_matters_67 : decode cX10_matters 67 = .ok (.if_icmp .ge 47, 3) := by decide +kernel
theorem dX10_matters_114 : decode cX10_matters 114 = .ok (.aload_n 0, 1) := by decide +kernel
theorem dX10_matters_115 : decode cX10_matters 115 = .ok (.iconst (-1), 1) := by decide +kernel
theorem dX10_matters_116 : decode cX10_matters 116 = .ok (.putfield 53, 3) := by decide +kernel
theorem dX10_matters_119 : decode cX10_matters 119 = .ok (.iload_n 3, 1) := by decide +kernel
theorem dX10_matters_120 : decode cX10_matters 120 = .ok (.ifCond .ne 8, 3) := by decide +kernel
theorem dX10_matters_128 : decode cX10_matters 128 = .ok (.iload 6, 2) := by decide +kernel
theorem dX10_matters_130 : decode cX10_matters 130 = .ok (.ireturn, 1) := by decide +kernel
theorem dX10_matters_123 : decode cX10_matters 123 = .ok (.iload 5, 2) := by decide +kernel
theorem dX10_matters_125 : decode cX10_matters 125 = .ok (.goto 5, 3) := by decide +kernel
theorem dX10_matters_70 : decode cX10_matters 70 = .ok (.aload_n 0, 1) := by decide +kernel
theorem dX10_matters_71 : decode cX10_matters 71 = .ok (.iload 7, 2) := by decide +kernel
theorem dX10_matters_73 : decode cX10_matters 73 = .ok (.putfield 53, 3) := by decide +kernel
theorem dX10_matters_76 : decode cX10_matters 76 = .ok (.aload_n 0, 1) := by decide +kernel
theorem dX10_matters_77 : decode cX10_matters 77 = .ok (.iload_n 1, 1) := by decide +kernel
theorem dX10_matters_78 : decode cX10_matters 78 = .ok (.iload_n 2, 1) := by decide +kernel
theorem dX10_matters_79 : decode cX10_matters 79 = .ok (.invokevirtual 418, 3) := by decide +kernel
theorem dX10_matters_82 : decode cX10_matters 82 = .ok (.iload 4, 2) := by decide +kernel
theorem dX10_matters_84 : decode cX10_matters 84 = .ok (.isub, 1) := by decide +kernel
theorem dX10_matters_85 : decode cX10_matters 85 = .ok (.invokestatic 186, 3) := by decide +kernel
theorem dX10_matters_88 : decode cX10_matters 88 = .ok (.istore 8, 2) := by decide +kernel
theorem dX10_matters_90 : decode cX10_matters 90 = .ok (.iload 8, 2) := by decide +kernel
theorem dX10_matters_92 : decode cX10_matters 92 = .ok (.iload 6, 2) := by decide +kernel
theorem dX10_matters_94 : decode cX10_matters 94 = .ok (.if_icmp .gt 6, 3) := by decide +kernel
theorem dX10_matters_100 : decode cX10_matters 100 = .ok (.iload 7, 2) := by decide +kernel
theorem dX10_matters_102 : decode cX10_matters 102 = .ok (.istore 5, 2) := by decide +kernel
theorem dX10_matters_104 : decode cX10_matters 104 = .ok (.iload 8, 2) := by decide +kernel
theorem dX10_matters_106 : decode cX10_matters 106 = .ok (.istore 6, 2) := by decide +kernel
theorem dX10_matters_108 : decode cX10_matters 108 = .ok (.iinc 7 1, 3) := by decide +kernel
theorem dX10_matters_111 : decode cX10_matters 111 = .ok (.goto (-50), 3) := by decide +kernel
theorem dX10_matters_97 : decode cX10_matters 97 = .ok (.goto 11, 3) := by decide +kernel
theorem dX10_matters_42 : decode cX10_matters 42 = .ok (.iconst 0, 1) := by decide +kernel
theorem dX10_matters_43 : decode cX10_matters 43 = .ok (.ireturn, 1) := by decide +kernel
theorem dX10_toWarm_0 : decode cX10_toWarm 0 = .ok (.aload_n 0, 1) := by decide +kernel
theorem dX10_toWarm_1 : decode cX10_toWarm 1 = .ok (.iconst 0, 1) := by decide +kernel
theorem dX10_toWarm_2 : decode cX10_toWarm 2 = .ok (.putfield 110, 3) := by decide +kernel
theorem dX10_toWarm_5 : decode cX10_toWarm 5 = .ok (.aload_n 0, 1) := by decide +kernel
theorem dX10_toWarm_6 : decode cX10_toWarm 6 = .ok (.iload_n 1, 1) := by decide +kernel
theorem dX10_toWarm_7 : decode cX10_toWarm 7 = .ok (.invokevirtual 360, 3) := by decide +kernel
theorem dX10_toWarm_10 : decode cX10_toWarm 10 = .ok (.ifCond .eq 18, 3) := by decide +kernel
theorem dX10_toWarm_13 : decode cX10_toWarm 13 = .ok (.aload_n 0, 1) := by decide +kernel
theorem dX10_toWarm_14 : decode cX10_toWarm 14 = .ok (.iload_n 2, 1) := by decide +kernel
theorem dX10_toWarm_15 : decode cX10_toWarm 15 = .ok (.iconst 1, 1) := by decide +kernel
theorem dX10_toWarm_16 : decode cX10_toWarm 16 = .ok (.bipush 24, 2) := by decide +kernel
theorem dX10_toWarm_18 : decode cX10_toWarm 18 = .ok (.invokestatic 281, 3) := by decide +kernel
theorem dX10_toWarm_21 : decode cX10_toWarm 21 = .ok (.iconst 2, 1) := by decide +kernel
theorem dX10_toWarm_22 : decode cX10_toWarm 22 = .ok (.invokevirtual 324, 3) := by decide +kernel
theorem dX10_toWarm_25 : decode cX10_toWarm 25 = .ok (.ifCond .ne 5, 3) := by decide +kernel
theorem dX10_toWarm_30 : decode cX10_toWarm 30 = .ok (.iconst (-1), 1) := by decide +kernel
theorem dX10_toWarm_31 : decode cX10_toWarm 31 = .ok (.istore_n 3, 1) := by decide +kernel
theorem dX10_toWarm_32 : decode cX10_toWarm 32 = .ok (.iconst 1, 1) := by decide +kernel
theorem dX10_toWarm_33 : decode cX10_toWarm 33 = .ok (.istore 4, 2) := by decide +kernel
theorem dX10_toWarm_35 : decode cX10_toWarm 35 = .ok (.iload 4, 2) := by decide +kernel
theorem dX10_toWarm_37 : decode cX10_toWarm 37 = .ok (.bipush 50, 2) := by decide +kernel
theorem dX10_toWarm_39 : decode cX10_toWarm 39 = .ok (.if_icmp .gt 65, 3) := by decide +kernel
theorem dX10_toWarm_104 : decode cX10_toWarm 104 = .ok (.aload_n 0, 1) := by decide +kernel
theorem dX10_toWarm_105 : decode cX10_toWarm 105 = .ok (.iconst 0, 1) := by decide +kernel
theorem dX10_toWarm_106 : decode cX10_toWarm 106 = .ok (.putfield 160, 3) := by decide +kernel
theorem dX10_toWarm_109 : decode cX10_toWarm 109 = .ok (.iload_n 3, 1) := by decide +kernel
theorem dX10_toWarm_110 : decode cX10_toWarm 110 = .ok (.ireturn, 1) := by decide +kernel
theorem dX10_toWarm_42 : decode cX10_toWarm 42 = .ok (.iload_n 3, 1) := by decide +kernel
theorem dX10_toWarm_43 : decode cX10_toWarm 43 = .ok (.iconst (-1), 1) := by decide +kernel
theorem dX10_toWarm_44 : decode cX10_toWarm 44 = .ok (.if_icmp .ne 60, 3) := by decide +kernel
theorem dX10_toWarm_47 : decode cX10_toWarm 47 = .ok (.aload_n 0, 1) := by decide +kernel
theorem dX10_toWarm_48 : decode cX10_toWarm 48 = .ok (.invokevirtual 409, 3) := by decide +kernel
theorem dX10_toWarm_51 : decode cX10_toWarm 51 = .ok (.aload_n 0, 1) := by decide +kernel
theorem dX10_toWarm_52 : decode cX10_toWarm 52 = .ok (.iload 4, 2) := by decide +kernel
theorem dX10_toWarm_54 : decode cX10_toWarm 54 = .ok (.putfield 160, 3) := by decide +kernel
theorem dX10_toWarm_57 : decode cX10_toWarm 57 = .ok (.iconst 0, 1) := by decide +kernel
theorem dX10_toWarm_58 : decode cX10_toWarm 58 = .ok (.istore 5, 2) := by decide +kernel
theorem dX10_toWarm_60 : decode cX10_toWarm 60 = .ok (.iload 5, 2) := by decide +kernel
theorem dX10_toWarm_62 : decode cX10_toWarm 62 = .ok (.iload_n 2, 1) := by decide +kernel
theorem dX10_toWarm_63 : decode cX10_toWarm 63 = .ok (.if_icmp .ge 35, 3) := by decide +kernel
theorem dX10_toWarm_98 : decode cX10_toWarm 98 = .ok (.iinc 4 1, 3) := by decide +kernel
theorem dX10_toWarm_101 : decode cX10_toWarm 101 = .ok (.goto (-66), 3) := by decide +kernel
theorem dX10_toWarm_66 : decode cX10_toWarm 66 = .ok (.iload_n 3, 1) := by decide +kernel
theorem dX10_toWarm_67 : decode cX10_toWarm 67 = .ok (.iconst (-1), 1) := by decide +kernel
theorem dX10_toWarm_68 : decode cX10_toWarm 68 = .ok (.if_icmp .ne 30, 3) := by decide +kernel
theorem dX10_toWarm_71 : decode cX10_toWarm 71 = .ok (.aload_n 0, 1) := by decide +kernel
theorem dX10_toWarm_72 : decode cX10_toWarm 72 = .ok (.sipush 350, 3) := by decide +kernel
theorem dX10_toWarm_75 : decode cX10_toWarm 75 = .ok (.invokevirtual 219, 3) := by decide +kernel
theorem dX10_toWarm_78 : decode cX10_toWarm 78 = .ok (.aload_n 0, 1) := by decide +kernel
theorem dX10_toWarm_79 : decode cX10_toWarm 79 = .ok (.sipush 350, 3) := by decide +kernel
theorem dX10_toWarm_82 : decode cX10_toWarm 82 = .ok (.iload_n 1, 1) := by decide +kernel
theorem dX10_toWarm_83 : decode cX10_toWarm 83 = .ok (.invokevirtual 366, 3) := by decide +kernel
theorem dX10_toWarm_86 : decode cX10_toWarm 86 = .ok (.ifCond .eq 6, 3) := by decide +kernel
theorem dX10_toWarm_92 : decode cX10_toWarm 92 = .ok (.iinc 5 1, 3) := by decide +kernel
theorem dX10_toWarm_95 : decode cX10_toWarm 95 = .ok (.goto (-35), 3) := by decide +kernel
theorem dX10_toWarm_89 : decode cX10_toWarm 89 = .ok (.iload 4, 2) := by decide +kernel
theorem dX10_toWarm_91 : decode cX10_toWarm 91 = .ok (.istore_n 3, 1) := by decide +kernel
theorem dX10_toWarm_28 : decode cX10_toWarm 28 = .ok (.iconst 0, 1) := by decide +kernel
theorem dX10_toWarm_29 : decode cX10_toWarm 29 = .ok (.ireturn, 1) := by decide +kernel
