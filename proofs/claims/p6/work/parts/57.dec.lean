-- decode rows of read
theorem dX7_typeOf_0 : decode cX7_typeOf 0 = .ok (.iload_n 0, 1) := by decide +kernel
theorem dX7_typeOf_1 : decode cX7_typeOf 1 = .ok (.bipush 97, 2) := by decide +kernel
theorem dX7_typeOf_3 : decode cX7_typeOf 3 = .ok (.if_icmp .lt 11, 3) := by decide +kernel
theorem dX7_typeOf_14 : decode cX7_typeOf 14 = .ok (.iload_n 0, 1) := by decide +kernel
theorem dX7_typeOf_15 : decode cX7_typeOf 15 = .ok (.bipush 48, 2) := by decide +kernel
theorem dX7_typeOf_17 : decode cX7_typeOf 17 = .ok (.if_icmp .lt 11, 3) := by decide +kernel
theorem dX7_typeOf_28 : decode cX7_typeOf 28 = .ok (.iload_n 0, 1) := by decide +kernel
theorem dX7_typeOf_29 : decode cX7_typeOf 29 = .ok (.bipush 59, 2) := by decide +kernel
theorem dX7_typeOf_31 : decode cX7_typeOf 31 = .ok (.if_icmp .ne 7, 3) := by decide +kernel
theorem dX7_typeOf_38 : decode cX7_typeOf 38 = .ok (.iload_n 0, 1) := by decide +kernel
theorem dX7_typeOf_39 : decode cX7_typeOf 39 = .ok (.bipush 45, 2) := by decide +kernel
theorem dX7_typeOf_41 : decode cX7_typeOf 41 = .ok (.if_icmp .ne 7, 3) := by decide +kernel
theorem dX7_typeOf_48 : decode cX7_typeOf 48 = .ok (.iconst 5, 1) := by decide +kernel
theorem dX7_typeOf_49 : decode cX7_typeOf 49 = .ok (.ireturn, 1) := by decide +kernel
theorem dX7_typeOf_44 : decode cX7_typeOf 44 = .ok (.iconst 4, 1) := by decide +kernel
theorem dX7_typeOf_45 : decode cX7_typeOf 45 = .ok (.goto 4, 3) := by decide +kernel
theorem dX7_typeOf_34 : decode cX7_typeOf 34 = .ok (.iconst 3, 1) := by decide +kernel
theorem dX7_typeOf_35 : decode cX7_typeOf 35 = .ok (.goto 14, 3) := by decide +kernel
theorem dX7_typeOf_20 : decode cX7_typeOf 20 = .ok (.iload_n 0, 1) := by decide +kernel
theorem dX7_typeOf_21 : decode cX7_typeOf 21 = .ok (.bipush 57, 2) := by decide +kernel
theorem dX7_typeOf_23 : decode cX7_typeOf 23 = .ok (.if_icmp .gt 5, 3) := by decide +kernel
theorem dX7_typeOf_26 : decode cX7_typeOf 26 = .ok (.iconst 2, 1) := by decide +kernel
theorem dX7_typeOf_27 : decode cX7_typeOf 27 = .ok (.ireturn, 1) := by decide +kernel
theorem dX7_typeOf_6 : decode cX7_typeOf 6 = .ok (.iload_n 0, 1) := by decide +kernel
theorem dX7_typeOf_7 : decode cX7_typeOf 7 = .ok (.bipush 122, 2) := by decide +kernel
theorem dX7_typeOf_9 : decode cX7_typeOf 9 = .ok (.if_icmp .gt 5, 3) := by decide +kernel
theorem dX7_typeOf_12 : decode cX7_typeOf 12 = .ok (.iconst 1, 1) := by decide +kernel
theorem dX7_typeOf_13 : decode cX7_typeOf 13 = .ok (.ireturn, 1) := by decide +kernel
theorem dX7_peek_0 : decode cX7_peek 0 = .ok (.aload_n 0, 1) := by decide +kernel
theorem dX7_peek_1 : decode cX7_peek 1 = .ok (.aload_n 0, 1) := by decide +kernel
theorem dX7_peek_2 : decode cX7_peek 2 = .ok (.getfield 31, 3) := by decide +kernel
theorem dX7_peek_5 : decode cX7_peek 5 = .ok (.putfield 28, 3) := by decide +kernel
theorem dX7_peek_8 : decode cX7_peek 8 = .ok (.aload_n 0, 1) := by decide +kernel
theorem dX7_peek_9 : decode cX7_peek 9 = .ok (.getfield 28, 3) := by decide +kernel
theorem dX7_peek_12 : decode cX7_peek 12 = .ok (.aload_n 0, 1) := by decide +kernel
theorem dX7_peek_13 : decode cX7_peek 13 = .ok (.getfield 22, 3) := by decide +kernel
theorem dX7_peek_16 : decode cX7_peek 16 = .ok (.if_icmp .ge 44, 3) := by decide +kernel
theorem dX7_peek_60 : decode cX7_peek 60 = .ok (.aload_n 0, 1) := by decide +kernel
theorem dX7_peek_61 : decode cX7_peek 61 = .ok (.aload_n 0, 1) := by decide +kernel
theorem dX7_peek_62 : decode cX7_peek 62 = .ok (.getfield 28, 3) := by decide +kernel
theorem dX7_peek_65 : decode cX7_peek 65 = .ok (.aload_n 0, 1) := by decide +kernel
theorem dX7_peek_66 : decode cX7_peek 66 = .ok (.getfield 22, 3) := by decide +kernel
theorem dX7_peek_69 : decode cX7_peek 69 = .ok (.if_icmp .ge 18, 3) := by decide +kernel
theorem dX7_peek_87 : decode cX7_peek 87 = .ok (.iconst 0, 1) := by decide +kernel
theorem dX7_peek_88 : decode cX7_peek 88 = .ok (.putfield 25, 3) := by decide +kernel
theorem dX7_peek_91 : decode cX7_peek 91 = .ok (.aload_n 0, 1) := by decide +kernel
theorem dX7_peek_92 : decode cX7_peek 92 = .ok (.aload_n 0, 1) := by decide +kernel
theorem dX7_peek_93 : decode cX7_peek 93 = .ok (.getfield 28, 3) := by decide +kernel
theorem dX7_peek_96 : decode cX7_peek 96 = .ok (.aload_n 0, 1) := by decide +kernel
theorem dX7_peek_97 : decode cX7_peek 97 = .ok (.getfield 22, 3) := by decide +kernel
theorem dX7_peek_100 : decode cX7_peek 100 = .ok (.if_icmp .ge 12, 3) := by decide +kernel
theorem dX7_peek_112 : decode cX7_peek 112 = .ok (.aload_n 0, 1) := by decide +kernel
theorem dX7_peek_113 : decode cX7_peek 113 = .ok (.getfield 22, 3) := by decide +kernel
theorem dX7_peek_116 : decode cX7_peek 116 = .ok (.putfield 31, 3) := by decide +kernel
theorem dX7_peek_119 : decode cX7_peek 119 = .ok (.aload_n 0, 1) := by decide +kernel
theorem dX7_peek_120 : decode cX7_peek 120 = .ok (.getfield 25, 3) := by decide +kernel
theorem dX7_peek_123 : decode cX7_peek 123 = .ok (.iconst 1, 1) := by decide +kernel
theorem dX7_peek_124 : decode cX7_peek 124 = .ok (.if_icmp .eq 11, 3) := by decide +kernel
theorem dX7_peek_127 : decode cX7_peek 127 = .ok (.aload_n 0, 1) := by decide +kernel
theorem dX7_peek_128 : decode cX7_peek 128 = .ok (.getfield 25, 3) := by decide +kernel
theorem dX7_peek_131 : decode cX7_peek 131 = .ok (.iconst 2, 1) := by decide +kernel
theorem dX7_peek_132 : decode cX7_peek 132 = .ok (.if_icmp .ne 46, 3) := by decide +kernel
theorem dX7_peek_178 : decode cX7_peek 178 = .ok (.return_, 1) := by decide +kernel
theorem dX7_peek_103 : decode cX7_peek 103 = .ok (.aload_n 0, 1) := by decide +kernel
theorem dX7_peek_104 : decode cX7_peek 104 = .ok (.getfield 28, 3) := by decide +kernel
theorem dX7_peek_107 : decode cX7_peek 107 = .ok (.iconst 1, 1) := by decide +kernel
theorem dX7_peek_108 : decode cX7_peek 108 = .ok (.iadd, 1) := by decide +kernel
theorem dX7_peek_109 : decode cX7_peek 109 = .ok (.goto 7, 3) := by decide +kernel
theorem dX7_peek_72 : decode cX7_peek 72 = .ok (.aload_n 0, 1) := by decide +kernel
theorem dX7_peek_73 : decode cX7_peek 73 = .ok (.getfield 18, 3) := by decide +kernel
theorem dX7_peek_76 : decode cX7_peek 76 = .ok (.aload_n 0, 1) := by decide +kernel
theorem dX7_peek_77 : decode cX7_peek 77 = .ok (.getfield 28, 3) := by decide +kernel
theorem dX7_peek_80 : decode cX7_peek 80 = .ok (.baload, 1) := by decide +kernel
theorem dX7_peek_81 : decode cX7_peek 81 = .ok (.invokestatic 171, 3) := by decide +kernel
theorem dX7_peek_84 : decode cX7_peek 84 = .ok (.goto 4, 3) := by decide +kernel
theorem dX7_peek_135 : decode cX7_peek 135 = .ok (.aload_n 0, 1) := by decide +kernel
theorem dX7_peek_136 : decode cX7_peek 136 = .ok (.getfield 31, 3) := by decide +kernel
theorem dX7_peek_139 : decode cX7_peek 139 = .ok (.aload_n 0, 1) := by decide +kernel
theorem dX7_peek_140 : decode cX7_peek 140 = .ok (.getfield 22, 3) := by decide +kernel
theorem dX7_peek_143 : decode cX7_peek 143 = .ok (.if_icmp .ge 35, 3) := by decide +kernel
theorem dX7_peek_146 : decode cX7_peek 146 = .ok (.aload_n 0, 1) := by decide +kernel
theorem dX7_peek_147 : decode cX7_peek 147 = .ok (.getfield 18, 3) := by decide +kernel
theorem dX7_peek_150 : decode cX7_peek 150 = .ok (.aload_n 0, 1) := by decide +kernel
theorem dX7_peek_151 : decode cX7_peek 151 = .ok (.getfield 31, 3) := by decide +kernel
theorem dX7_peek_154 : decode cX7_peek 154 = .ok (.baload, 1) := by decide +kernel
theorem dX7_peek_155 : decode cX7_peek 155 = .ok (.invokestatic 171, 3) := by decide +kernel
theorem dX7_peek_158 : decode cX7_peek 158 = .ok (.aload_n 0, 1) := by decide +kernel
theorem dX7_peek_159 : decode cX7_peek 159 = .ok (.getfield 25, 3) := by decide +kernel
theorem dX7_peek_162 : decode cX7_peek 162 = .ok (.if_icmp .ne 16, 3) := by decide +kernel
theorem dX7_peek_165 : decode cX7_peek 165 = .ok (.aload_n 0, 1) := by decide +kernel
theorem dX7_peek_166 : decode cX7_peek 166 = .ok (.dup, 1) := by decide +kernel
theorem dX7_peek_167 : decode cX7_peek 167 = .ok (.getfield 31, 3) := by decide +kernel
theorem dX7_peek_170 : decode cX7_peek 170 = .ok (.iconst 1, 1) := by decide +kernel
theorem dX7_peek_171 : decode cX7_peek 171 = .ok (.iadd, 1) := by decide +kernel
theorem dX7_peek_172 : decode cX7_peek 172 = .ok (.putfield 31, 3) := by decide +kernel
theorem dX7_peek_175 : decode cX7_peek 175 = .ok (.goto (-40), 3) := by decide +kernel
theorem dX7_peek_19 : decode cX7_peek 19 = .ok (.aload_n 0, 1) := by decide +kernel
theorem dX7_peek_20 : decode cX7_peek 20 = .ok (.getfield 18, 3) := by decide +kernel
theorem dX7_peek_23 : decode cX7_peek 23 = .ok (.aload_n 0, 1) := by decide +kernel
theorem dX7_peek_24 : decode cX7_peek 24 = .ok (.getfield 28, 3) := by decide +kernel
theorem dX7_peek_27 : decode cX7_peek 27 = .ok (.baload, 1) := by decide +kernel
theorem dX7_peek_28 : decode cX7_peek 28 = .ok (.bipush 32, 2) := by decide +kernel
theorem dX7_peek_30 : decode cX7_peek 30 = .ok (.if_icmp .eq 17, 3) := by decide +kernel
theorem dX7_peek_47 : decode cX7_peek 47 = .ok (.aload_n 0, 1) := by decide +kernel
theorem dX7_peek_48 : decode cX7_peek 48 = .ok (.dup, 1) := by decide +kernel
theorem dX7_peek_49 : decode cX7_peek 49 = .ok (.getfield 28, 3) := by decide +kernel
theorem dX7_peek_52 : decode cX7_peek 52 = .ok (.iconst 1, 1) := by decide +kernel
theorem dX7_peek_53 : decode cX7_peek 53 = .ok (.iadd, 1) := by decide +kernel
theorem dX7_peek_54 : decode cX7_peek 54 = .ok (.putfield 28, 3) := by decide +kernel
theorem dX7_peek_57 : decode cX7_peek 57 = .ok (.goto (-49), 3) := by decide +kernel
theorem dX7_peek_33 : decode cX7_peek 33 = .ok (.aload_n 0, 1) := by decide +kernel
theorem dX7_peek_34 : decode cX7_peek 34 = .ok (.getfield 18, 3) := by decide +kernel
theorem dX7_peek_37 : decode cX7_peek 37 = .ok (.aload_n 0, 1) := by decide +kernel
theorem dX7_peek_38 : decode cX7_peek 38 = .ok (.getfield 28, 3) := by decide +kernel
theorem dX7_peek_41 : decode cX7_peek 41 = .ok (.baload, 1) := by decide +kernel
theorem dX7_peek_42 : decode cX7_peek 42 = .ok (.bipush 10, 2) := by decide +kernel
theorem dX7_peek_44 : decode cX7_peek 44 = .ok (.if_icmp .ne 16, 3) := by decide +kernel
theorem dX7_take_0 : decode cX7_take 0 = .ok (.aload_n 0, 1) := by decide +kernel
theorem dX7_take_1 : decode cX7_take 1 = .ok (.getfield 15, 3) := by decide +kernel
theorem dX7_take_4 : decode cX7_take 4 = .ok (.ifCond .ne 15, 3) := by decide +kernel
theorem dX7_take_19 : decode cX7_take 19 = .ok (.return_, 1) := by decide +kernel
theorem dX7_take_7 : decode cX7_take 7 = .ok (.aload_n 0, 1) := by decide +kernel
theorem dX7_take_8 : decode cX7_take 8 = .ok (.aload_n 0, 1) := by decide +kernel
theorem dX7_take_9 : decode cX7_take 9 = .ok (.getfield 28, 3) := by decide +kernel
theorem dX7_take_12 : decode cX7_take 12 = .ok (.putfield 34, 3) := by decide +kernel
theorem dX7_take_15 : decode cX7_take 15 = .ok (.aload_n 0, 1) := by decide +kernel
theorem dX7_take_16 : decode cX7_take 16 = .ok (.invokevirtual 54, 3) := by decide +kernel
theorem dX7_fail_0 : decode cX7_fail 0 = .ok (.aload_n 0, 1) := by decide +kernel
theorem dX7_fail_1 : decode cX7_fail 1 = .ok (.getfield 15, 3) := by decide +kernel
theorem dX7_fail_4 : decode cX7_fail 4 = .ok (.ifCond .ne 13, 3) := by decide +kernel
theorem dX7_fail_17 : decode cX7_fail 17 = .ok (.return_, 1) := by decide +kernel
theorem dX7_fail_7 : decode cX7_fail 7 = .ok (.aload_n 0, 1) := by decide +kernel
theorem dX7_fail_8 : decode cX7_fail 8 = .ok (.iload_n 1, 1) := by decide +kernel
theorem dX7_fail_9 : decode cX7_fail 9 = .ok (.putfield 15, 3) := by decide +kernel
theorem dX7_fail_12 : decode cX7_fail 12 = .ok (.aload_n 0, 1) := by decide +kernel
theorem dX7_fail_13 : decode cX7_fail 13 = .ok (.iload_n 2, 1) := by decide +kernel
theorem dX7_fail_14 : decode cX7_fail 14 = .ok (.putfield 9, 3) := by decide +kernel
theorem dX7_close_0 : decode cX7_close 0 = .ok (.aload_n 0, 1) := by decide +kernel
theorem dX7_close_1 : decode cX7_close 1 = .ok (.getfield 25, 3) := by decide +kernel
theorem dX7_close_4 : decode cX7_close 4 = .ok (.iconst 3, 1) := by decide +kernel
theorem dX7_close_5 : decode cX7_close 5 = .ok (.if_icmp .eq 12, 3) := by decide +kernel
theorem dX7_close_17 : decode cX7_close 17 = .ok (.aload_n 0, 1) := by decide +kernel
theorem dX7_close_18 : decode cX7_close 18 = .ok (.invokevirtual 98, 3) := by decide +kernel
theorem dX7_close_21 : decode cX7_close 21 = .ok (.return_, 1) := by decide +kernel
theorem dX7_close_8 : decode cX7_close 8 = .ok (.aload_n 0, 1) := by decide +kernel
theorem dX7_close_9 : decode cX7_close 9 = .ok (.iconst 1, 1) := by decide +kernel
theorem dX7_close_10 : decode cX7_close 10 = .ok (.aload_n 0, 1) := by decide +kernel
theorem dX7_close_11 : decode cX7_close 11 = .ok (.getfield 28, 3) := by decide +kernel
theorem dX7_close_14 : decode cX7_close 14 = .ok (.invokevirtual 91, 3) := by decide +kernel
theorem dX7_is_0 : decode cX7_is 0 = .ok (.aload_n 0, 1) := by decide +kernel
theorem dX7_is_1 : decode cX7_is 1 = .ok (.getfield 25, 3) := by decide +kernel
theorem dX7_is_4 : decode cX7_is 4 = .ok (.iconst 1, 1) := by decide +kernel
theorem dX7_is_5 : decode cX7_is 5 = .ok (.if_icmp .ne 19, 3) := by decide +kernel
theorem dX7_is_24 : decode cX7_is 24 = .ok (.iconst 0, 1) := by decide +kernel
theorem dX7_is_25 : decode cX7_is 25 = .ok (.ireturn, 1) := by decide +kernel
theorem dX7_is_8 : decode cX7_is 8 = .ok (.aload_n 0, 1) := by decide +kernel
theorem dX7_is_9 : decode cX7_is 9 = .ok (.getfield 31, 3) := by decide +kernel
theorem dX7_is_12 : decode cX7_is 12 = .ok (.aload_n 0, 1) := by decide +kernel
theorem dX7_is_13 : decode cX7_is 13 = .ok (.getfield 28, 3) := by decide +kernel
theorem dX7_is_16 : decode cX7_is 16 = .ok (.isub, 1) := by decide +kernel
theorem dX7_is_17 : decode cX7_is 17 = .ok (.aload_n 1, 1) := by decide +kernel
theorem dX7_is_18 : decode cX7_is 18 = .ok (.invokevirtual 162, 3) := by decide +kernel
theorem dX7_is_21 : decode cX7_is 21 = .ok (.if_icmp .eq 5, 3) := by decide +kernel
theorem dX7_is_26 : decode cX7_is 26 = .ok (.iconst 0, 1) := by decide +kernel
theorem dX7_is_27 : decode cX7_is 27 = .ok (.istore_n 2, 1) := by decide +kernel
theorem dX7_is_28 : decode cX7_is 28 = .ok (.iload_n 2, 1) := by decide +kernel
theorem dX7_is_29 : decode cX7_is 29 = .ok (.aload_n 1, 1) := by decide +kernel
theorem dX7_is_30 : decode cX7_is 30 = .ok (.invokevirtual 162, 3) := by decide +kernel
theorem dX7_is_33 : decode cX7_is 33 = .ok (.if_icmp .ge 30, 3) := by decide +kernel
theorem dX7_is_63 : decode cX7_is 63 = .ok (.iconst 1, 1) := by decide +kernel
theorem dX7_is_64 : decode cX7_is 64 = .ok (.ireturn, 1) := by decide +kernel
theorem dX7_is_36 : decode cX7_is 36 = .ok (.aload_n 0, 1) := by decide +kernel
theorem dX7_is_37 : decode cX7_is 37 = .ok (.getfield 18, 3) := by decide +kernel
theorem dX7_is_40 : decode cX7_is 40 = .ok (.aload_n 0, 1) := by decide +kernel
theorem dX7_is_41 : decode cX7_is 41 = .ok (.getfield 28, 3) := by decide +kernel
theorem dX7_is_44 : decode cX7_is 44 = .ok (.iload_n 2, 1) := by decide +kernel
theorem dX7_is_45 : decode cX7_is 45 = .ok (.iadd, 1) := by decide +kernel
theorem dX7_is_46 : decode cX7_is 46 = .ok (.baload, 1) := by decide +kernel
theorem dX7_is_47 : decode cX7_is 47 = .ok (.aload_n 1, 1) := by decide +kernel
theorem dX7_is_48 : decode cX7_is 48 = .ok (.iload_n 2, 1) := by decide +kernel
theorem dX7_is_49 : decode cX7_is 49 = .ok (.invokevirtual 167, 3) := by decide +kernel
theorem dX7_is_52 : decode cX7_is 52 = .ok (.if_icmp .eq 5, 3) := by decide +kernel
theorem dX7_is_57 : decode cX7_is 57 = .ok (.iinc 2 1, 3) := by decide +kernel
theorem dX7_is_60 : decode cX7_is 60 = .ok (.goto (-32), 3) := by decide +kernel
theorem dX7_is_55 : decode cX7_is 55 = .ok (.iconst 0, 1) := by decide +kernel
theorem dX7_is_56 : decode cX7_is 56 = .ok (.ireturn, 1) := by decide +kernel
theorem dX9_kindWord_0 : decode cX9_kindWord 0 = .ok (.iload_n 0, 1) := by decide +kernel
theorem dX9_kindWord_1 : decode cX9_kindWord 1 = .ok (.tableswitch 47 0 3 #[31, 35, 39, 43], 31) := by decide +kernel
theorem dX9_kindWord_48 : decode cX9_kindWord 48 = .ok (.ldc_w 503, 3) := by decide +kernel
theorem dX9_kindWord_51 : decode cX9_kindWord 51 = .ok (.areturn, 1) := by decide +kernel
theorem dX9_kindWord_32 : decode cX9_kindWord 32 = .ok (.ldc_w 495, 3) := by decide +kernel
theorem dX9_kindWord_35 : decode cX9_kindWord 35 = .ok (.areturn, 1) := by decide +kernel
theorem dX9_kindWord_36 : decode cX9_kindWord 36 = .ok (.ldc_w 497, 3) := by decide +kernel
theorem dX9_kindWord_39 : decode cX9_kindWord 39 = .ok (.areturn, 1) := by decide +kernel
theorem dX9_kindWord_40 : decode cX9_kindWord 40 = .ok (.ldc_w 499, 3) := by decide +kernel
theorem dX9_kindWord_43 : decode cX9_kindWord 43 = .ok (.areturn, 1) := by decide +kernel
theorem dX9_kindWord_44 : decode cX9_kindWord 44 = .ok (.ldc_w 501, 3) := by decide +kernel
theorem dX9_kindWord_47 : decode cX9_kindWord 47 = .ok (.areturn, 1) := by decide +kernel
theorem dX7_kind_0 : decode cX7_kind 0 = .ok (.iconst 0, 1) := by decide +kernel
theorem dX7_kind_1 : decode cX7_kind 1 = .ok (.istore_n 1, 1) := by decide +kernel
theorem dX7_kind_2 : decode cX7_kind 2 = .ok (.iload_n 1, 1) := by decide +kernel
theorem dX7_kind_3 : decode cX7_kind 3 = .ok (.iconst 5, 1) := by decide +kernel
theorem dX7_kind_4 : decode cX7_kind 4 = .ok (.if_icmp .ge 26, 3) := by decide +kernel
theorem dX7_kind_30 : decode cX7_kind 30 = .ok (.aload_n 0, 1) := by decide +kernel
theorem dX7_kind_31 : decode cX7_kind 31 = .ok (.iconst 1, 1) := by decide +kernel
theorem dX7_kind_32 : decode cX7_kind 32 = .ok (.aload_n 0, 1) := by decide +kernel
theorem dX7_kind_33 : decode cX7_kind 33 = .ok (.getfield 28, 3) := by decide +kernel
theorem dX7_kind_36 : decode cX7_kind 36 = .ok (.invokevirtual 91, 3) := by decide +kernel
theorem dX7_kind_39 : decode cX7_kind 39 = .ok (.iconst 0, 1) := by decide +kernel
theorem dX7_kind_40 : decode cX7_kind 40 = .ok (.ireturn, 1) := by decide +kernel
theorem dX7_kind_7 : decode cX7_kind 7 = .ok (.aload_n 0, 1) := by decide +kernel
theorem dX7_kind_8 : decode cX7_kind 8 = .ok (.iload_n 1, 1) := by decide +kernel
theorem dX7_kind_9 : decode cX7_kind 9 = .ok (.invokestatic 158, 3) := by decide +kernel
theorem dX7_kind_12 : decode cX7_kind 12 = .ok (.invokevirtual 63, 3) := by decide +kernel
theorem dX7_kind_15 : decode cX7_kind 15 = .ok (.ifCond .eq 9, 3) := by decide +kernel
theorem dX7_kind_24 : decode cX7_kind 24 = .ok (.iinc 1 1, 3) := by decide +kernel
theorem dX7_kind_27 : decode cX7_kind 27 = .ok (.goto (-25), 3) := by decide +kernel
theorem dX7_kind_18 : decode cX7_kind 18 = .ok (.aload_n 0, 1) := by decide +kernel
theorem dX7_kind_19 : decode cX7_kind 19 = .ok (.invokevirtual 98, 3) := by decide +kernel
theorem dX7_kind_22 : decode cX7_kind 22 = .ok (.iload_n 1, 1) := by decide +kernel
theorem dX7_kind_23 : decode cX7_kind 23 = .ok (.ireturn, 1) := by decide +kernel
theorem dX7_number_0 : decode cX7_number 0 = .ok (.aload_n 0, 1) := by decide +kernel
theorem dX7_number_1 : decode cX7_number 1 = .ok (.getfield 25, 3) := by decide +kernel
theorem dX7_number_4 : decode cX7_number 4 = .ok (.iconst 2, 1) := by decide +kernel
theorem dX7_number_5 : decode cX7_number 5 = .ok (.if_icmp .eq 14, 3) := by decide +kernel
theorem dX7_number_19 : decode cX7_number 19 = .ok (.iconst 0, 1) := by decide +kernel
theorem dX7_number_20 : decode cX7_number 20 = .ok (.istore_n 3, 1) := by decide +kernel
theorem dX7_number_21 : decode cX7_number 21 = .ok (.aload_n 0, 1) := by decide +kernel
theorem dX7_number_22 : decode cX7_number 22 = .ok (.getfield 28, 3) := by decide +kernel
theorem dX7_number_25 : decode cX7_number 25 = .ok (.istore 4, 2) := by decide +kernel
theorem dX7_number_27 : decode cX7_number 27 = .ok (.iload 4, 2) := by decide +kernel
theorem dX7_number_29 : decode cX7_number 29 = .ok (.aload_n 0, 1) := by decide +kernel
theorem dX7_number_30 : decode cX7_number 30 = .ok (.getfield 31, 3) := by decide +kernel
theorem dX7_number_33 : decode cX7_number 33 = .ok (.if_icmp .ge 30, 3) := by decide +kernel
theorem dX7_number_63 : decode cX7_number 63 = .ok (.aload_n 0, 1) := by decide +kernel
theorem dX7_number_64 : decode cX7_number 64 = .ok (.getfield 31, 3) := by decide +kernel
theorem dX7_number_67 : decode cX7_number 67 = .ok (.aload_n 0, 1) := by decide +kernel
theorem dX7_number_68 : decode cX7_number 68 = .ok (.getfield 28, 3) := by decide +kernel
theorem dX7_number_71 : decode cX7_number 71 = .ok (.isub, 1) := by decide +kernel
theorem dX7_number_72 : decode cX7_number 72 = .ok (.iconst 4, 1) := by decide +kernel
theorem dX7_number_73 : decode cX7_number 73 = .ok (.if_icmp .gt 13, 3) := by decide +kernel
theorem dX7_number_86 : decode cX7_number 86 = .ok (.aload_n 0, 1) := by decide +kernel
theorem dX7_number_87 : decode cX7_number 87 = .ok (.iconst 2, 1) := by decide +kernel
theorem dX7_number_88 : decode cX7_number 88 = .ok (.aload_n 0, 1) := by decide +kernel
theorem dX7_number_89 : decode cX7_number 89 = .ok (.getfield 28, 3) := by decide +kernel
theorem dX7_number_92 : decode cX7_number 92 = .ok (.invokevirtual 91, 3) := by decide +kernel
theorem dX7_number_95 : decode cX7_number 95 = .ok (.iconst 0, 1) := by decide +kernel
theorem dX7_number_96 : decode cX7_number 96 = .ok (.ireturn, 1) := by decide +kernel
theorem dX7_number_76 : decode cX7_number 76 = .ok (.iload_n 3, 1) := by decide +kernel
theorem dX7_number_77 : decode cX7_number 77 = .ok (.iload_n 1, 1) := by decide +kernel
theorem dX7_number_78 : decode cX7_number 78 = .ok (.if_icmp .lt 8, 3) := by decide +kernel
theorem dX7_number_81 : decode cX7_number 81 = .ok (.iload_n 3, 1) := by decide +kernel
theorem dX7_number_82 : decode cX7_number 82 = .ok (.iload_n 2, 1) := by decide +kernel
theorem dX7_number_83 : decode cX7_number 83 = .ok (.if_icmp .le 14, 3) := by decide +kernel
theorem dX7_number_97 : decode cX7_number 97 = .ok (.aload_n 0, 1) := by decide +kernel
theorem dX7_number_98 : decode cX7_number 98 = .ok (.invokevirtual 98, 3) := by decide +kernel
theorem dX7_number_101 : decode cX7_number 101 = .ok (.iload_n 3, 1) := by decide +kernel
theorem dX7_number_102 : decode cX7_number 102 = .ok (.ireturn, 1) := by decide +kernel
theorem dX7_number_36 : decode cX7_number 36 = .ok (.iload_n 3, 1) := by decide +kernel
theorem dX7_number_37 : decode cX7_number 37 = .ok (.iload_n 2, 1) := by decide +kernel
theorem dX7_number_38 : decode cX7_number 38 = .ok (.if_icmp .gt 25, 3) := by decide +kernel
theorem dX7_number_41 : decode cX7_number 41 = .ok (.bipush 10, 2) := by decide +kernel
theorem dX7_number_43 : decode cX7_number 43 = .ok (.iload_n 3, 1) := by decide +kernel
theorem dX7_number_44 : decode cX7_number 44 = .ok (.imul, 1) := by decide +kernel
theorem dX7_number_45 : decode cX7_number 45 = .ok (.aload_n 0, 1) := by decide +kernel
theorem dX7_number_46 : decode cX7_number 46 = .ok (.getfield 18, 3) := by decide +kernel
theorem dX7_number_49 : decode cX7_number 49 = .ok (.iload 4, 2) := by decide +kernel
theorem dX7_number_51 : decode cX7_number 51 = .ok (.baload, 1) := by decide +kernel
theorem dX7_number_52 : decode cX7_number 52 = .ok (.iadd, 1) := by decide +kernel
theorem dX7_number_53 : decode cX7_number 53 = .ok (.bipush 48, 2) := by decide +kernel
theorem dX7_number_55 : decode cX7_number 55 = .ok (.isub, 1) := by decide +kernel
theorem dX7_number_56 : decode cX7_number 56 = .ok (.istore_n 3, 1) := by decide +kernel
theorem dX7_number_57 : decode cX7_number 57 = .ok (.iinc 4 1, 3) := by decide +kernel
theorem dX7_number_60 : decode cX7_number 60 = .ok (.goto (-33), 3) := by decide +kernel
theorem dX7_number_8 : decode cX7_number 8 = .ok (.aload_n 0, 1) := by decide +kernel
theorem dX7_number_9 : decode cX7_number 9 = .ok (.iconst 1, 1) := by decide +kernel
theorem dX7_number_10 : decode cX7_number 10 = .ok (.aload_n 0, 1) := by decide +kernel
theorem dX7_number_11 : decode cX7_number 11 = .ok (.getfield 28, 3) := by decide +kernel
theorem dX7_number_14 : decode cX7_number 14 = .ok (.invokevirtual 91, 3) := by decide +kernel
theorem dX7_number_17 : decode cX7_number 17 = .ok (.iconst 0, 1) := by decide +kernel
theorem dX7_number_18 : decode cX7_number 18 = .ok (.ireturn, 1) := by decide +kernel
theorem dX7_readFall_0 : decode cX7_readFall 0 = .ok (.aload_n 0, 1) := by decide +kernel
theorem dX7_readFall_1 : decode cX7_readFall 1 = .ok (.ldc 149, 2) := by decide +kernel
theorem dX7_readFall_3 : decode cX7_readFall 3 = .ok (.invokevirtual 63, 3) := by decide +kernel
theorem dX7_readFall_6 : decode cX7_readFall 6 = .ok (.ifCond .eq 7, 3) := by decide +kernel
theorem dX7_readFall_13 : decode cX7_readFall 13 = .ok (.aload_n 0, 1) := by decide +kernel
theorem dX7_readFall_14 : decode cX7_readFall 14 = .ok (.ldc 151, 2) := by decide +kernel
theorem dX7_readFall_16 : decode cX7_readFall 16 = .ok (.invokevirtual 63, 3) := by decide +kernel
theorem dX7_readFall_19 : decode cX7_readFall 19 = .ok (.ifCond .eq 7, 3) := by decide +kernel
theorem dX7_readFall_26 : decode cX7_readFall 26 = .ok (.aload_n 0, 1) := by decide +kernel
theorem dX7_readFall_27 : decode cX7_readFall 27 = .ok (.ldc 153, 2) := by decide +kernel
theorem dX7_readFall_29 : decode cX7_readFall 29 = .ok (.invokevirtual 63, 3) := by decide +kernel
theorem dX7_readFall_32 : decode cX7_readFall 32 = .ok (.ifCond .eq 7, 3) := by decide +kernel
theorem dX7_readFall_39 : decode cX7_readFall 39 = .ok (.iconst 0, 1) := by decide +kernel
theorem dX7_readFall_40 : decode cX7_readFall 40 = .ok (.istore_n 1, 1) := by decide +kernel
theorem dX7_readFall_41 : decode cX7_readFall 41 = .ok (.iload_n 1, 1) := by decide +kernel
theorem dX7_readFall_42 : decode cX7_readFall 42 = .ok (.ifCond .eq 7, 3) := by decide +kernel
theorem dX7_readFall_49 : decode cX7_readFall 49 = .ok (.iload_n 1, 1) := by decide +kernel
theorem dX7_readFall_50 : decode cX7_readFall 50 = .ok (.ireturn, 1) := by decide +kernel
theorem dX7_readFall_35 : decode cX7_readFall 35 = .ok (.iconst 3, 1) := by decide +kernel
theorem dX7_readFall_36 : decode cX7_readFall 36 = .ok (.goto 4, 3) := by decide +kernel
theorem dX7_readFall_45 : decode cX7_readFall 45 = .ok (.aload_n 0, 1) := by decide +kernel
theorem dX7_readFall_46 : decode cX7_readFall 46 = .ok (.invokevirtual 98, 3) := by decide +kernel
theorem dX7_readFall_22 : decode cX7_readFall 22 = .ok (.iconst 2, 1) := by decide +kernel
theorem dX7_readFall_23 : decode cX7_readFall 23 = .ok (.goto 17, 3) := by decide +kernel
theorem dX7_readFall_9 : decode cX7_readFall 9 = .ok (.iconst 1, 1) := by decide +kernel
theorem dX7_readFall_10 : decode cX7_readFall 10 = .ok (.goto 30, 3) := by decide +kernel
