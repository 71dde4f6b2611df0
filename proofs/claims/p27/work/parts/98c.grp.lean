section
-- 98c.dec.lean.txt
-- decode rows of reftold
theorem dX10_saysKind_50 : decode cX10_saysKind 50 = .ok (.getstatic 244, 3) := by decide +kernel
theorem dX10_saysKind_53 : decode cX10_saysKind 53 = .ok (.iload_n 3, 1) := by decide +kernel
theorem dX10_saysKind_54 : decode cX10_saysKind 54 = .ok (.baload, 1) := by decide +kernel
theorem dX10_saysKind_55 : decode cX10_saysKind 55 = .ok (.bipush 32, 2) := by decide +kernel
theorem dX10_saysKind_57 : decode cX10_saysKind 57 = .ok (.if_icmp .eq 18, 3) := by decide +kernel
theorem dX10_saysKind_75 : decode cX10_saysKind 75 = .ok (.return_, 1) := by decide +kernel
theorem dX10_saysKind_60 : decode cX10_saysKind 60 = .ok (.aload_n 0, 1) := by decide +kernel
theorem dX10_saysKind_61 : decode cX10_saysKind 61 = .ok (.getstatic 244, 3) := by decide +kernel
theorem dX10_saysKind_64 : decode cX10_saysKind 64 = .ok (.iload_n 3, 1) := by decide +kernel
theorem dX10_saysKind_65 : decode cX10_saysKind 65 = .ok (.baload, 1) := by decide +kernel
theorem dX10_saysKind_66 : decode cX10_saysKind 66 = .ok (.invokevirtual 376, 3) := by decide +kernel
theorem dX10_saysKind_69 : decode cX10_saysKind 69 = .ok (.iinc 3 1, 3) := by decide +kernel
theorem dX10_saysKind_72 : decode cX10_saysKind 72 = .ok (.goto (-22), 3) := by decide +kernel
theorem dX10_saysKind_19 : decode cX10_saysKind 19 = .ok (.iload 4, 2) := by decide +kernel
theorem dX10_saysKind_21 : decode cX10_saysKind 21 = .ok (.iload_n 2, 1) := by decide +kernel
theorem dX10_saysKind_22 : decode cX10_saysKind 22 = .ok (.if_icmp .ge 28, 3) := by decide +kernel
theorem dX10_saysKind_25 : decode cX10_saysKind 25 = .ok (.getstatic 244, 3) := by decide +kernel
theorem dX10_saysKind_28 : decode cX10_saysKind 28 = .ok (.iload_n 3, 1) := by decide +kernel
theorem dX10_saysKind_29 : decode cX10_saysKind 29 = .ok (.baload, 1) := by decide +kernel
theorem dX10_saysKind_30 : decode cX10_saysKind 30 = .ok (.bipush 32, 2) := by decide +kernel
theorem dX10_saysKind_32 : decode cX10_saysKind 32 = .ok (.if_icmp .eq 9, 3) := by decide +kernel
theorem dX10_saysKind_41 : decode cX10_saysKind 41 = .ok (.iinc 3 1, 3) := by decide +kernel
theorem dX10_saysKind_44 : decode cX10_saysKind 44 = .ok (.iinc 4 1, 3) := by decide +kernel
theorem dX10_saysKind_47 : decode cX10_saysKind 47 = .ok (.goto (-28), 3) := by decide +kernel
theorem dX10_saysKind_35 : decode cX10_saysKind 35 = .ok (.iinc 3 1, 3) := by decide +kernel
theorem dX10_saysKind_38 : decode cX10_saysKind 38 = .ok (.goto (-13), 3) := by decide +kernel
theorem dX10_saysKind_0 : decode cX10_saysKind 0 = .ok (.iload_n 1, 1) := by decide +kernel
theorem dX10_saysKind_1 : decode cX10_saysKind 1 = .ok (.iconst 4, 1) := by decide +kernel
theorem dX10_saysKind_2 : decode cX10_saysKind 2 = .ok (.if_icmp .ne 7, 3) := by decide +kernel
theorem dX10_saysKind_9 : decode cX10_saysKind 9 = .ok (.bipush 9, 2) := by decide +kernel
theorem dX10_saysKind_11 : decode cX10_saysKind 11 = .ok (.iload_n 1, 1) := by decide +kernel
theorem dX10_saysKind_12 : decode cX10_saysKind 12 = .ok (.iadd, 1) := by decide +kernel
theorem dX10_saysKind_13 : decode cX10_saysKind 13 = .ok (.istore_n 2, 1) := by decide +kernel
theorem dX10_saysKind_14 : decode cX10_saysKind 14 = .ok (.iconst 0, 1) := by decide +kernel
theorem dX10_saysKind_15 : decode cX10_saysKind 15 = .ok (.istore_n 3, 1) := by decide +kernel
theorem dX10_saysKind_16 : decode cX10_saysKind 16 = .ok (.iconst 0, 1) := by decide +kernel
theorem dX10_saysKind_17 : decode cX10_saysKind 17 = .ok (.istore 4, 2) := by decide +kernel
theorem dX10_saysKind_5 : decode cX10_saysKind 5 = .ok (.iconst 5, 1) := by decide +kernel
theorem dX10_saysKind_6 : decode cX10_saysKind 6 = .ok (.goto 7, 3) := by decide +kernel
theorem dX10_told_0 : decode cX10_told 0 = .ok (.aload_n 0, 1) := by decide +kernel
theorem dX10_told_1 : decode cX10_told 1 = .ok (.iconst 0, 1) := by decide +kernel
theorem dX10_told_2 : decode cX10_told 2 = .ok (.putfield 110, 3) := by decide +kernel
theorem dX10_told_5 : decode cX10_told 5 = .ok (.aload_n 0, 1) := by decide +kernel
theorem dX10_told_6 : decode cX10_told 6 = .ok (.iload_n 1, 1) := by decide +kernel
theorem dX10_told_7 : decode cX10_told 7 = .ok (.iload_n 2, 1) := by decide +kernel
theorem dX10_told_8 : decode cX10_told 8 = .ok (.invokevirtual 370, 3) := by decide +kernel
theorem dX10_told_11 : decode cX10_told 11 = .ok (.ifCond .ne 5, 3) := by decide +kernel
theorem dX10_told_16 : decode cX10_told 16 = .ok (.aload_n 0, 1) := by decide +kernel
theorem dX10_told_17 : decode cX10_told 17 = .ok (.iconst 0, 1) := by decide +kernel
theorem dX10_told_18 : decode cX10_told 18 = .ok (.putfield 373, 3) := by decide +kernel
theorem dX10_told_21 : decode cX10_told 21 = .ok (.aload_n 0, 1) := by decide +kernel
theorem dX10_told_22 : decode cX10_told 22 = .ok (.aload_n 0, 1) := by decide +kernel
theorem dX10_told_23 : decode cX10_told 23 = .ok (.iconst 0, 1) := by decide +kernel
theorem dX10_told_24 : decode cX10_told 24 = .ok (.iload_n 1, 1) := by decide +kernel
theorem dX10_told_25 : decode cX10_told 25 = .ok (.iload_n 2, 1) := by decide +kernel
theorem dX10_told_26 : decode cX10_told 26 = .ok (.bipush 6, 2) := by decide +kernel
theorem dX10_told_28 : decode cX10_told 28 = .ok (.invokevirtual 117, 3) := by decide +kernel
theorem dX10_told_31 : decode cX10_told 31 = .ok (.invokevirtual 379, 3) := by decide +kernel
theorem dX10_told_34 : decode cX10_told 34 = .ok (.aload_n 0, 1) := by decide +kernel
theorem dX10_told_35 : decode cX10_told 35 = .ok (.bipush 32, 2) := by decide +kernel
theorem dX10_told_37 : decode cX10_told 37 = .ok (.invokevirtual 376, 3) := by decide +kernel
theorem dX10_told_40 : decode cX10_told 40 = .ok (.aload_n 0, 1) := by decide +kernel
theorem dX10_told_41 : decode cX10_told 41 = .ok (.aload_n 0, 1) := by decide +kernel
theorem dX10_told_42 : decode cX10_told 42 = .ok (.iconst 0, 1) := by decide +kernel
theorem dX10_told_43 : decode cX10_told 43 = .ok (.iload_n 1, 1) := by decide +kernel
theorem dX10_told_44 : decode cX10_told 44 = .ok (.iload_n 2, 1) := by decide +kernel
theorem dX10_told_45 : decode cX10_told 45 = .ok (.iconst 0, 1) := by decide +kernel
theorem dX10_told_46 : decode cX10_told 46 = .ok (.invokevirtual 117, 3) := by decide +kernel
theorem dX10_told_49 : decode cX10_told 49 = .ok (.invokevirtual 382, 3) := by decide +kernel
theorem dX10_told_52 : decode cX10_told 52 = .ok (.aload_n 0, 1) := by decide +kernel
theorem dX10_told_53 : decode cX10_told 53 = .ok (.bipush 111, 2) := by decide +kernel
theorem dX10_told_55 : decode cX10_told 55 = .ok (.bipush 102, 2) := by decide +kernel
theorem dX10_told_57 : decode cX10_told 57 = .ok (.invokevirtual 385, 3) := by decide +kernel
theorem dX10_told_60 : decode cX10_told 60 = .ok (.aload_n 0, 1) := by decide +kernel
theorem dX10_told_61 : decode cX10_told 61 = .ok (.aload_n 0, 1) := by decide +kernel
theorem dX10_told_62 : decode cX10_told 62 = .ok (.iconst 0, 1) := by decide +kernel
theorem dX10_told_63 : decode cX10_told 63 = .ok (.iload_n 1, 1) := by decide +kernel
theorem dX10_told_64 : decode cX10_told 64 = .ok (.iload_n 2, 1) := by decide +kernel
theorem dX10_told_65 : decode cX10_told 65 = .ok (.iconst 1, 1) := by decide +kernel
theorem dX10_told_66 : decode cX10_told 66 = .ok (.invokevirtual 117, 3) := by decide +kernel
theorem dX10_told_69 : decode cX10_told 69 = .ok (.invokevirtual 379, 3) := by decide +kernel
theorem dX10_told_72 : decode cX10_told 72 = .ok (.aload_n 0, 1) := by decide +kernel
theorem dX10_told_73 : decode cX10_told 73 = .ok (.iconst 0, 1) := by decide +kernel
theorem dX10_told_74 : decode cX10_told 74 = .ok (.iload_n 1, 1) := by decide +kernel
theorem dX10_told_75 : decode cX10_told 75 = .ok (.iload_n 2, 1) := by decide +kernel
theorem dX10_told_76 : decode cX10_told 76 = .ok (.iconst 2, 1) := by decide +kernel
theorem dX10_told_77 : decode cX10_told 77 = .ok (.invokevirtual 117, 3) := by decide +kernel
theorem dX10_told_80 : decode cX10_told 80 = .ok (.ifCond .le 45, 3) := by decide +kernel
theorem dX10_told_125 : decode cX10_told 125 = .ok (.aload_n 0, 1) := by decide +kernel
theorem dX10_told_126 : decode cX10_told 126 = .ok (.bipush 105, 2) := by decide +kernel
theorem dX10_told_128 : decode cX10_told 128 = .ok (.bipush 110, 2) := by decide +kernel
theorem dX10_told_130 : decode cX10_told 130 = .ok (.invokevirtual 385, 3) := by decide +kernel
theorem dX10_told_133 : decode cX10_told 133 = .ok (.aload_n 0, 1) := by decide +kernel
theorem dX10_told_134 : decode cX10_told 134 = .ok (.aload_n 0, 1) := by decide +kernel
theorem dX10_told_135 : decode cX10_told 135 = .ok (.iconst 0, 1) := by decide +kernel
theorem dX10_told_136 : decode cX10_told 136 = .ok (.iload_n 1, 1) := by decide +kernel
theorem dX10_told_137 : decode cX10_told 137 = .ok (.iload_n 2, 1) := by decide +kernel
theorem dX10_told_138 : decode cX10_told 138 = .ok (.iconst 3, 1) := by decide +kernel
theorem dX10_told_139 : decode cX10_told 139 = .ok (.invokevirtual 117, 3) := by decide +kernel
theorem dX10_told_142 : decode cX10_told 142 = .ok (.invokevirtual 379, 3) := by decide +kernel
theorem dX10_told_145 : decode cX10_told 145 = .ok (.aload_n 0, 1) := by decide +kernel
theorem dX10_told_146 : decode cX10_told 146 = .ok (.bipush 97, 2) := by decide +kernel
theorem dX10_told_148 : decode cX10_told 148 = .ok (.bipush 116, 2) := by decide +kernel
theorem dX10_told_150 : decode cX10_told 150 = .ok (.invokevirtual 385, 3) := by decide +kernel
theorem dX10_told_153 : decode cX10_told 153 = .ok (.aload_n 0, 1) := by decide +kernel
theorem dX10_told_154 : decode cX10_told 154 = .ok (.aload_n 0, 1) := by decide +kernel
theorem dX10_told_155 : decode cX10_told 155 = .ok (.iconst 0, 1) := by decide +kernel
theorem dX10_told_156 : decode cX10_told 156 = .ok (.iload_n 1, 1) := by decide +kernel
theorem dX10_told_157 : decode cX10_told 157 = .ok (.iload_n 2, 1) := by decide +kernel
theorem dX10_told_158 : decode cX10_told 158 = .ok (.iconst 4, 1) := by decide +kernel
theorem dX10_told_159 : decode cX10_told 159 = .ok (.invokevirtual 117, 3) := by decide +kernel
theorem dX10_told_162 : decode cX10_told 162 = .ok (.invokevirtual 379, 3) := by decide +kernel
theorem dX10_told_165 : decode cX10_told 165 = .ok (.aload_n 0, 1) := by decide +kernel
theorem dX10_told_166 : decode cX10_told 166 = .ok (.bipush 59, 2) := by decide +kernel
theorem dX10_told_168 : decode cX10_told 168 = .ok (.invokevirtual 376, 3) := by decide +kernel
theorem dX10_told_171 : decode cX10_told 171 = .ok (.iload_n 3, 1) := by decide +kernel
theorem dX10_told_172 : decode cX10_told 172 = .ok (.iconst (-1), 1) := by decide +kernel
theorem dX10_told_173 : decode cX10_told 173 = .ok (.if_icmp .ne 8, 3) := by decide +kernel
theorem dX10_told_181 : decode cX10_told 181 = .ok (.aload_n 0, 1) := by decide +kernel
theorem dX10_told_182 : decode cX10_told 182 = .ok (.iload_n 3, 1) := by decide +kernel
theorem dX10_told_183 : decode cX10_told 183 = .ok (.iconst 0, 1) := by decide +kernel
theorem dX10_told_184 : decode cX10_told 184 = .ok (.aload_n 0, 1) := by decide +kernel
theorem dX10_told_185 : decode cX10_told 185 = .ok (.getfield 373, 3) := by decide +kernel
theorem dX10_told_188 : decode cX10_told 188 = .ok (.iconst 1, 1) := by decide +kernel
theorem dX10_told_189 : decode cX10_told 189 = .ok (.isub, 1) := by decide +kernel
theorem dX10_told_190 : decode cX10_told 190 = .ok (.invokestatic 281, 3) := by decide +kernel
theorem dX10_told_193 : decode cX10_told 193 = .ok (.iconst 1, 1) := by decide +kernel
theorem dX10_told_194 : decode cX10_told 194 = .ok (.invokevirtual 324, 3) := by decide +kernel
theorem dX10_told_197 : decode cX10_told 197 = .ok (.ifCond .eq 12, 3) := by decide +kernel
theorem dX10_told_200 : decode cX10_told 200 = .ok (.aload_n 0, 1) := by decide +kernel
theorem dX10_told_201 : decode cX10_told 201 = .ok (.getfield 89, 3) := by decide +kernel
theorem dX10_told_204 : decode cX10_told 204 = .ok (.iload_n 3, 1) := by decide +kernel
theorem dX10_told_205 : decode cX10_told 205 = .ok (.iaload, 1) := by decide +kernel
theorem dX10_told_206 : decode cX10_told 206 = .ok (.goto 4, 3) := by decide +kernel
theorem dX10_told_210 : decode cX10_told 210 = .ok (.ireturn, 1) := by decide +kernel
theorem dX10_told_209 : decode cX10_told 209 = .ok (.iconst 0, 1) := by decide +kernel
theorem dX10_told_176 : decode cX10_told 176 = .ok (.aload_n 0, 1) := by decide +kernel
theorem dX10_told_177 : decode cX10_told 177 = .ok (.getfield 373, 3) := by decide +kernel
theorem dX10_told_180 : decode cX10_told 180 = .ok (.ireturn, 1) := by decide +kernel
theorem dX10_told_83 : decode cX10_told 83 = .ok (.aload_n 0, 1) := by decide +kernel
theorem dX10_told_84 : decode cX10_told 84 = .ok (.bipush 32, 2) := by decide +kernel
theorem dX10_told_86 : decode cX10_told 86 = .ok (.invokevirtual 376, 3) := by decide +kernel
theorem dX10_told_89 : decode cX10_told 89 = .ok (.aload_n 0, 1) := by decide +kernel
theorem dX10_told_90 : decode cX10_told 90 = .ok (.bipush 119, 2) := by decide +kernel
theorem dX10_told_92 : decode cX10_told 92 = .ok (.invokevirtual 376, 3) := by decide +kernel
theorem dX10_told_95 : decode cX10_told 95 = .ok (.aload_n 0, 1) := by decide +kernel
theorem dX10_told_96 : decode cX10_told 96 = .ok (.bipush 101, 2) := by decide +kernel
theorem dX10_told_98 : decode cX10_told 98 = .ok (.invokevirtual 376, 3) := by decide +kernel
theorem dX10_told_101 : decode cX10_told 101 = .ok (.aload_n 0, 1) := by decide +kernel
theorem dX10_told_102 : decode cX10_told 102 = .ok (.bipush 116, 2) := by decide +kernel
theorem dX10_told_104 : decode cX10_told 104 = .ok (.invokevirtual 376, 3) := by decide +kernel
theorem dX10_told_107 : decode cX10_told 107 = .ok (.aload_n 0, 1) := by decide +kernel
theorem dX10_told_108 : decode cX10_told 108 = .ok (.bipush 32, 2) := by decide +kernel
theorem dX10_told_110 : decode cX10_told 110 = .ok (.invokevirtual 376, 3) := by decide +kernel
theorem dX10_told_113 : decode cX10_told 113 = .ok (.aload_n 0, 1) := by decide +kernel
theorem dX10_told_114 : decode cX10_told 114 = .ok (.aload_n 0, 1) := by decide +kernel
theorem dX10_told_115 : decode cX10_told 115 = .ok (.iconst 0, 1) := by decide +kernel
theorem dX10_told_116 : decode cX10_told 116 = .ok (.iload_n 1, 1) := by decide +kernel
theorem dX10_told_117 : decode cX10_told 117 = .ok (.iload_n 2, 1) := by decide +kernel
theorem dX10_told_118 : decode cX10_told 118 = .ok (.iconst 2, 1) := by decide +kernel
theorem dX10_told_119 : decode cX10_told 119 = .ok (.invokevirtual 117, 3) := by decide +kernel
theorem dX10_told_122 : decode cX10_told 122 = .ok (.invokevirtual 379, 3) := by decide +kernel
theorem dX10_told_14 : decode cX10_told 14 = .ok (.iconst 0, 1) := by decide +kernel
theorem dX10_told_15 : decode cX10_told 15 = .ok (.ireturn, 1) := by decide +kernel
end
section
-- 99a.words.lean.txt
-- words of reftry
theorem q_1992 : (Jvm.Cond.methodLink "SnowRecorderModel" (412 : Nat) ({ cls := "SnowRecorderModel", name := "isNamed", desc := "(II)Z" } : Jvm.MethodName)) ∈ AW := AW_m9 72 (by decide +kernel) (by decide +kernel)
theorem q_1994 : (Jvm.Cond.instanceMethod ({ cls := "SnowRecorderModel", name := "isNamed", desc := "(II)Z" } : Jvm.MethodName)) ∈ AW := AW_m9 74 (by decide +kernel) (by decide +kernel)
theorem q_1995 : (Jvm.Cond.code ({ cls := "SnowRecorderModel", name := "isNamed", desc := "(II)Z" } : Jvm.MethodName) prog_12_method_92_code (5 : Nat) (Option.some Jvm.ClassFile.FieldType.boolean)) ∈ AW := AW_m9 75 (by decide +kernel) (by decide +kernel)
theorem q_2019 : (Jvm.Cond.methodLink "SnowRecorderModel" (418 : Nat) ({ cls := "SnowRecorderModel", name := "ratioBehind", desc := "(II)I" } : Jvm.MethodName)) ∈ AW := AW_m9 99 (by decide +kernel) (by decide +kernel)
theorem q_2021 : (Jvm.Cond.instanceMethod ({ cls := "SnowRecorderModel", name := "ratioBehind", desc := "(II)I" } : Jvm.MethodName)) ∈ AW := AW_m9 101 (by decide +kernel) (by decide +kernel)
theorem q_2022 : (Jvm.Cond.code ({ cls := "SnowRecorderModel", name := "ratioBehind", desc := "(II)I" } : Jvm.MethodName) prog_12_method_99_code (3 : Nat) (Option.some Jvm.ClassFile.FieldType.int)) ∈ AW := AW_m9 102 (by decide +kernel) (by decide +kernel)
theorem s_105 : Cond.selects "SnowRecorderModel" ({ cls := "SnowRecorderModel", name := "isNamed", desc := "(II)Z" } : Jvm.MethodName) ({ cls := "SnowRecorderModel", name := "isNamed", desc := "(II)Z" } : Jvm.MethodName) ∈ AW := AW_m 105 (by decide +kernel) (by decide +kernel)
theorem s_106 : Cond.selects "SnowRecorderModel" ({ cls := "SnowRecorderModel", name := "ratioBehind", desc := "(II)I" } : Jvm.MethodName) ({ cls := "SnowRecorderModel", name := "ratioBehind", desc := "(II)I" } : Jvm.MethodName) ∈ AW := AW_m 106 (by decide +kernel) (by decide +kernel)
theorem hd_yX10_isNamed : yX10_isNamed.cls ≠ "java/lang/invoke/MethodHandle" ∧ yX10_isNamed.cls ≠ "java/lang/invoke/VarHandle" ∧ (parseMethodDescriptor yX10_isNamed.desc).map (fun d => d.parameters.length) = some 2 := by decide +kernel
theorem hd_yX10_ratioBehind : yX10_ratioBehind.cls ≠ "java/lang/invoke/MethodHandle" ∧ yX10_ratioBehind.cls ≠ "java/lang/invoke/VarHandle" ∧ (parseMethodDescriptor yX10_ratioBehind.desc).map (fun d => d.parameters.length) = some 2 := by decide +kernel
theorem mv_yX10_isNamed : zWv yX10_isNamed cX10_isNamed 5 (some .boolean) := ⟨q_1994, s_105, q_15, q_1995⟩
theorem mv_yX10_ratioBehind : zWv yX10_ratioBehind cX10_ratioBehind 3 (some .int) := ⟨q_2021, s_106, q_15, q_2022⟩
end
section
-- 99b.dec.lean.txt
-- decode rows of reftry
theorem dX10_once_0 : decode cX10_once 0 = .ok (.aload_n 0, 1) := by decide +kernel
theorem dX10_once_1 : decode cX10_once 1 = .ok (.iconst 0, 1) := by decide +kernel
theorem dX10_once_2 : decode cX10_once 2 = .ok (.putfield 110, 3) := by decide +kernel
theorem dX10_once_5 : decode cX10_once 5 = .ok (.aload_n 0, 1) := by decide +kernel
theorem dX10_once_6 : decode cX10_once 6 = .ok (.iload_n 1, 1) := by decide +kernel
theorem dX10_once_7 : decode cX10_once 7 = .ok (.invokevirtual 360, 3) := by decide +kernel
theorem dX10_once_10 : decode cX10_once 10 = .ok (.ifCond .eq 17, 3) := by decide +kernel
theorem dX10_once_13 : decode cX10_once 13 = .ok (.aload_n 0, 1) := by decide +kernel
theorem dX10_once_14 : decode cX10_once 14 = .ok (.iload_n 2, 1) := by decide +kernel
theorem dX10_once_15 : decode cX10_once 15 = .ok (.iconst 0, 1) := by decide +kernel
theorem dX10_once_16 : decode cX10_once 16 = .ok (.iconst 1, 1) := by decide +kernel
theorem dX10_once_17 : decode cX10_once 17 = .ok (.invokestatic 281, 3) := by decide +kernel
theorem dX10_once_20 : decode cX10_once 20 = .ok (.iconst 1, 1) := by decide +kernel
theorem dX10_once_21 : decode cX10_once 21 = .ok (.invokevirtual 324, 3) := by decide +kernel
theorem dX10_once_24 : decode cX10_once 24 = .ok (.ifCond .ne 5, 3) := by decide +kernel
theorem dX10_once_29 : decode cX10_once 29 = .ok (.aload_n 0, 1) := by decide +kernel
theorem dX10_once_30 : decode cX10_once 30 = .ok (.invokevirtual 409, 3) := by decide +kernel
theorem dX10_once_33 : decode cX10_once 33 = .ok (.iconst 0, 1) := by decide +kernel
theorem dX10_once_34 : decode cX10_once 34 = .ok (.istore_n 3, 1) := by decide +kernel
theorem dX10_once_35 : decode cX10_once 35 = .ok (.iload_n 3, 1) := by decide +kernel
theorem dX10_once_36 : decode cX10_once 36 = .ok (.bipush 72, 2) := by decide +kernel
theorem dX10_once_38 : decode cX10_once 38 = .ok (.if_icmp .gt 47, 3) := by decide +kernel
theorem dX10_once_85 : decode cX10_once 85 = .ok (.iconst (-1), 1) := by decide +kernel
theorem dX10_once_86 : decode cX10_once 86 = .ok (.ireturn, 1) := by decide +kernel
theorem dX10_once_41 : decode cX10_once 41 = .ok (.iload_n 2, 1) := by decide +kernel
theorem dX10_once_42 : decode cX10_once 42 = .ok (.ifCond .ne 17, 3) := by decide +kernel
theorem dX10_once_59 : decode cX10_once 59 = .ok (.aload_n 0, 1) := by decide +kernel
theorem dX10_once_60 : decode cX10_once 60 = .ok (.sipush 350, 3) := by decide +kernel
theorem dX10_once_63 : decode cX10_once 63 = .ok (.iload_n 1, 1) := by decide +kernel
theorem dX10_once_64 : decode cX10_once 64 = .ok (.invokevirtual 121, 3) := by decide +kernel
theorem dX10_once_67 : decode cX10_once 67 = .ok (.ifCond .ne 5, 3) := by decide +kernel
theorem dX10_once_72 : decode cX10_once 72 = .ok (.aload_n 0, 1) := by decide +kernel
theorem dX10_once_73 : decode cX10_once 73 = .ok (.sipush 350, 3) := by decide +kernel
theorem dX10_once_76 : decode cX10_once 76 = .ok (.invokevirtual 219, 3) := by decide +kernel
theorem dX10_once_79 : decode cX10_once 79 = .ok (.iinc 3 1, 3) := by decide +kernel
theorem dX10_once_82 : decode cX10_once 82 = .ok (.goto (-47), 3) := by decide +kernel
theorem dX10_once_70 : decode cX10_once 70 = .ok (.iload_n 3, 1) := by decide +kernel
theorem dX10_once_71 : decode cX10_once 71 = .ok (.ireturn, 1) := by decide +kernel
theorem dX10_once_45 : decode cX10_once 45 = .ok (.aload_n 0, 1) := by decide +kernel
theorem dX10_once_46 : decode cX10_once 46 = .ok (.sipush 350, 3) := by decide +kernel
theorem dX10_once_49 : decode cX10_once 49 = .ok (.iload_n 1, 1) := by decide +kernel
theorem dX10_once_50 : decode cX10_once 50 = .ok (.invokevirtual 366, 3) := by decide +kernel
theorem dX10_once_53 : decode cX10_once 53 = .ok (.ifCond .eq 19, 3) := by decide +kernel
theorem dX10_once_56 : decode cX10_once 56 = .ok (.goto 14, 3) := by decide +kernel
theorem dX10_once_27 : decode cX10_once 27 = .ok (.iconst 0, 1) := by decide +kernel
theorem dX10_once_28 : decode cX10_once 28 = .ok (.ireturn, 1) := by decide +kernel
theorem dX10_isNamed_2 : decode cX10_isNamed 2 = .ok (.iload_n 3, 1) := by decide +kernel
theorem dX10_isNamed_3 : decode cX10_isNamed 3 = .ok (.aload_n 0, 1) := by decide +kernel
theorem dX10_isNamed_4 : decode cX10_isNamed 4 = .ok (.getfield 198, 3) := by decide +kernel
theorem dX10_isNamed_7 : decode cX10_isNamed 7 = .ok (.if_icmp .ge 45, 3) := by decide +kernel
theorem dX10_isNamed_52 : decode cX10_isNamed 52 = .ok (.iconst 0, 1) := by decide +kernel
theorem dX10_isNamed_53 : decode cX10_isNamed 53 = .ok (.ireturn, 1) := by decide +kernel
theorem dX10_isNamed_10 : decode cX10_isNamed 10 = .ok (.iconst 0, 1) := by decide +kernel
theorem dX10_isNamed_11 : decode cX10_isNamed 11 = .ok (.istore 4, 2) := by decide +kernel
theorem dX10_isNamed_13 : decode cX10_isNamed 13 = .ok (.iload 4, 2) := by decide +kernel
theorem dX10_isNamed_15 : decode cX10_isNamed 15 = .ok (.aload_n 0, 1) := by decide +kernel
theorem dX10_isNamed_16 : decode cX10_isNamed 16 = .ok (.iload_n 1, 1) := by decide +kernel
theorem dX10_isNamed_17 : decode cX10_isNamed 17 = .ok (.iload_n 3, 1) := by decide +kernel
theorem dX10_isNamed_18 : decode cX10_isNamed 18 = .ok (.invokevirtual 121, 3) := by decide +kernel
theorem dX10_isNamed_21 : decode cX10_isNamed 21 = .ok (.if_icmp .ge 25, 3) := by decide +kernel
theorem dX10_isNamed_46 : decode cX10_isNamed 46 = .ok (.iinc 3 1, 3) := by decide +kernel
theorem dX10_isNamed_49 : decode cX10_isNamed 49 = .ok (.goto (-47), 3) := by decide +kernel
theorem dX10_isNamed_24 : decode cX10_isNamed 24 = .ok (.aload_n 0, 1) := by decide +kernel
theorem dX10_isNamed_25 : decode cX10_isNamed 25 = .ok (.iload_n 1, 1) := by decide +kernel
theorem dX10_isNamed_26 : decode cX10_isNamed 26 = .ok (.iload_n 3, 1) := by decide +kernel
theorem dX10_isNamed_27 : decode cX10_isNamed 27 = .ok (.iload 4, 2) := by decide +kernel
theorem dX10_isNamed_29 : decode cX10_isNamed 29 = .ok (.bipush 6, 2) := by decide +kernel
theorem dX10_isNamed_31 : decode cX10_isNamed 31 = .ok (.invokevirtual 117, 3) := by decide +kernel
theorem dX10_isNamed_34 : decode cX10_isNamed 34 = .ok (.iload_n 2, 1) := by decide +kernel
theorem dX10_isNamed_35 : decode cX10_isNamed 35 = .ok (.if_icmp .ne 5, 3) := by decide +kernel
theorem dX10_isNamed_40 : decode cX10_isNamed 40 = .ok (.iinc 4 1, 3) := by decide +kernel
theorem dX10_isNamed_43 : decode cX10_isNamed 43 = .ok (.goto (-30), 3) := by decide +kernel
theorem dX10_isNamed_38 : decode cX10_isNamed 38 = .ok (.iconst 1, 1) := by decide +kernel
theorem dX10_isNamed_39 : decode cX10_isNamed 39 = .ok (.ireturn, 1) := by decide +kernel
theorem dX10_isNamed_0 : decode cX10_isNamed 0 = .ok (.iconst 0, 1) := by decide +kernel
theorem dX10_isNamed_1 : decode cX10_isNamed 1 = .ok (.istore_n 3, 1) := by decide +kernel
theorem dX10_gone_0 : decode cX10_gone 0 = .ok (.aload_n 0, 1) := by decide +kernel
theorem dX10_gone_1 : decode cX10_gone 1 = .ok (.iconst 0, 1) := by decide +kernel
theorem dX10_gone_2 : decode cX10_gone 2 = .ok (.putfield 110, 3) := by decide +kernel
theorem dX10_gone_5 : decode cX10_gone 5 = .ok (.aload_n 0, 1) := by decide +kernel
theorem dX10_gone_6 : decode cX10_gone 6 = .ok (.iload_n 1, 1) := by decide +kernel
theorem dX10_gone_7 : decode cX10_gone 7 = .ok (.iconst 0, 1) := by decide +kernel
theorem dX10_gone_8 : decode cX10_gone 8 = .ok (.aload_n 0, 1) := by decide +kernel
theorem dX10_gone_9 : decode cX10_gone 9 = .ok (.getfield 9, 3) := by decide +kernel
theorem dX10_gone_12 : decode cX10_gone 12 = .ok (.iconst 1, 1) := by decide +kernel
theorem dX10_gone_13 : decode cX10_gone 13 = .ok (.iaload, 1) := by decide +kernel
theorem dX10_gone_14 : decode cX10_gone 14 = .ok (.iconst 1, 1) := by decide +kernel
theorem dX10_gone_15 : decode cX10_gone 15 = .ok (.isub, 1) := by decide +kernel
theorem dX10_gone_16 : decode cX10_gone 16 = .ok (.invokestatic 281, 3) := by decide +kernel
theorem dX10_gone_19 : decode cX10_gone 19 = .ok (.iconst 1, 1) := by decide +kernel
theorem dX10_gone_20 : decode cX10_gone 20 = .ok (.invokevirtual 324, 3) := by decide +kernel
theorem dX10_gone_23 : decode cX10_gone 23 = .ok (.ifCond .ne 5, 3) := by decide +kernel
theorem dX10_gone_28 : decode cX10_gone 28 = .ok (.aload_n 0, 1) := by decide +kernel
theorem dX10_gone_29 : decode cX10_gone 29 = .ok (.invokevirtual 409, 3) := by decide +kernel
theorem dX10_gone_32 : decode cX10_gone 32 = .ok (.iconst 0, 1) := by decide +kernel
theorem dX10_gone_33 : decode cX10_gone 33 = .ok (.istore_n 2, 1) := by decide +kernel
theorem dX10_gone_34 : decode cX10_gone 34 = .ok (.iload_n 2, 1) := by decide +kernel
theorem dX10_gone_35 : decode cX10_gone 35 = .ok (.bipush 72, 2) := by decide +kernel
theorem dX10_gone_37 : decode cX10_gone 37 = .ok (.if_icmp .gt 29, 3) := by decide +kernel
theorem dX10_gone_66 : decode cX10_gone 66 = .ok (.iconst (-1), 1) := by decide +kernel
theorem dX10_gone_67 : decode cX10_gone 67 = .ok (.ireturn, 1) := by decide +kernel
theorem dX10_gone_40 : decode cX10_gone 40 = .ok (.aload_n 0, 1) := by decide +kernel
theorem dX10_gone_41 : decode cX10_gone 41 = .ok (.sipush 350, 3) := by decide +kernel
theorem dX10_gone_44 : decode cX10_gone 44 = .ok (.iload_n 1, 1) := by decide +kernel
theorem dX10_gone_45 : decode cX10_gone 45 = .ok (.invokevirtual 412, 3) := by decide +kernel
theorem dX10_gone_48 : decode cX10_gone 48 = .ok (.ifCond .ne 5, 3) := by decide +kernel
theorem dX10_gone_53 : decode cX10_gone 53 = .ok (.aload_n 0, 1) := by decide +kernel
theorem dX10_gone_54 : decode cX10_gone 54 = .ok (.sipush 350, 3) := by decide +kernel
theorem dX10_gone_57 : decode cX10_gone 57 = .ok (.invokevirtual 219, 3) := by decide +kernel
theorem dX10_gone_60 : decode cX10_gone 60 = .ok (.iinc 2 1, 3) := by decide +kernel
theorem dX10_gone_63 : decode cX10_gone 63 = .ok (.goto (-29), 3) := by decide +kernel
theorem dX10_gone_51 : decode cX10_gone 51 = .ok (.iload_n 2, 1) := by decide +kernel
theorem dX10_gone_52 : decode cX10_gone 52 = .ok (.ireturn, 1) := by decide +kernel
theorem dX10_gone_26 : decode cX10_gone 26 = .ok (.iconst 0, 1) := by decide +kernel
theorem dX10_gone_27 : decode cX10_gone 27 = .ok (.ireturn, 1) := by decide +kernel
theorem dX10_ratioBehind_0 : decode cX10_ratioBehind 0 = .ok (.aload_n 0, 1) := by decide +kernel
theorem dX10_ratioBehind_1 : decode cX10_ratioBehind 1 = .ok (.invokevirtual 409, 3) := by decide +kernel
theorem dX10_ratioBehind_4 : decode cX10_ratioBehind 4 = .ok (.aload_n 0, 1) := by decide +kernel
theorem dX10_ratioBehind_5 : decode cX10_ratioBehind 5 = .ok (.sipush 350, 3) := by decide +kernel
theorem dX10_ratioBehind_8 : decode cX10_ratioBehind 8 = .ok (.iload_n 2, 1) := by decide +kernel
theorem dX10_ratioBehind_9 : decode cX10_ratioBehind 9 = .ok (.invokevirtual 400, 3) := by decide +kernel
theorem dX10_ratioBehind_12 : decode cX10_ratioBehind 12 = .ok (.aload_n 0, 1) := by decide +kernel
theorem dX10_ratioBehind_13 : decode cX10_ratioBehind 13 = .ok (.sipush 350, 3) := by decide +kernel
theorem dX10_ratioBehind_16 : decode cX10_ratioBehind 16 = .ok (.iload_n 1, 1) := by decide +kernel
theorem dX10_ratioBehind_17 : decode cX10_ratioBehind 17 = .ok (.invokevirtual 238, 3) := by decide +kernel
theorem dX10_ratioBehind_20 : decode cX10_ratioBehind 20 = .ok (.ireturn, 1) := by decide +kernel
theorem dX10_matters_0 : decode cX10_matters 0 = .ok (.aload_n 0, 1) := by decide +kernel
theorem dX10_matters_1 : decode cX10_matters 1 = .ok (.iconst 0, 1) := by decide +kernel
theorem dX10_matters_2 : decode cX10_matters 2 = .ok (.putfield 110, 3) := by decide +kernel
theorem dX10_matters_5 : decode cX10_matters 5 = .ok (.aload_n 0, 1) := by decide +kernel
theorem dX10_matters_6 : decode cX10_matters 6 = .ok (.iload_n 1, 1) := by decide +kernel
theorem dX10_matters_7 : decode cX10_matters 7 = .ok (.invokevirtual 360, 3) := by decide +kernel
theorem dX10_matters_10 : decode cX10_matters 10 = .ok (.ifCond .eq 32, 3) := by decide +kernel
theorem dX10_matters_13 : decode cX10_matters 13 = .ok (.aload_n 0, 1) := by decide +kernel
theorem dX10_matters_14 : decode cX10_matters 14 = .ok (.iload_n 3, 1) := by decide +kernel
theorem dX10_matters_15 : decode cX10_matters 15 = .ok (.iconst 0, 1) := by decide +kernel
theorem dX10_matters_16 : decode cX10_matters 16 = .ok (.iconst 1, 1) := by decide +kernel
theorem dX10_matters_17 : decode cX10_matters 17 = .ok (.invokestatic 281, 3) := by decide +kernel
theorem dX10_matters_20 : decode cX10_matters 20 = .ok (.iconst 1, 1) := by decide +kernel
theorem dX10_matters_21 : decode cX10_matters 21 = .ok (.invokevirtual 324, 3) := by decide +kernel
theorem dX10_matters_24 : decode cX10_matters 24 = .ok (.ifCond .eq 18, 3) := by decide +kernel
theorem dX10_matters_27 : decode cX10_matters 27 = .ok (.aload_n 0, 1) := by decide +kernel
theorem dX10_matters_28 : decode cX10_matters 28 = .ok (.iload_n 2, 1) := by decide +kernel
theorem dX10_matters_29 : decode cX10_matters 29 = .ok (.iconst 1, 1) := by decide +kernel
theorem dX10_matters_30 : decode cX10_matters 30 = .ok (.bipush 48, 2) := by decide +kernel
theorem dX10_matters_32 : decode cX10_matters 32 = .ok (.invokestatic 281, 3) := by decide +kernel
theorem dX10_matters_35 : decode cX10_matters 35 = .ok (.iconst 2, 1) := by decide +kernel
theorem dX10_matters_36 : decode cX10_matters 36 = .ok (.invokevirtual 324, 3) := by decide +kernel
theorem dX10_matters_39 : decode cX10_matters 39 = .ok (.ifCond .ne 5, 3) := by decide +kernel
theorem dX10_matters_44 : decode cX10_matters 44 = .ok (.aload_n 0, 1) := by decide +kernel
theorem dX10_matters_45 : decode cX10_matters 45 = .ok (.iload_n 1, 1) := by decide +kernel
theorem dX10_matters_46 : decode cX10_matters 46 = .ok (.iload_n 2, 1) := by decide +kernel
theorem dX10_matters_47 : decode cX10_matters 47 = .ok (.invokevirtual 418, 3) := by decide +kernel
theorem dX10_matters_50 : decode cX10_matters 50 = .ok (.istore 4, 2) := by decide +kernel
theorem dX10_matters_52 : decode cX10_matters 52 = .ok (.iconst (-1), 1) := by decide +kernel
theorem dX10_matters_53 : decode cX10_matters 53 = .ok (.istore 5, 2) := by decide +kernel
theorem dX10_matters_55 : decode cX10_matters 55 = .ok (.iconst 0, 1) := by decide +kernel
theorem dX10_matters_56 : decode cX10_matters 56 = .ok (.istore 6, 2) := by decide +kernel
theorem dX10_matters_58 : decode cX10_matters 58 = .ok (.iconst 0, 1) := by decide +kernel
theorem dX10_matters_59 : decode cX10_matters 59 = .ok (.istore 7, 2) := by decide +kernel
theorem dX10_matters_61 : decode cX10_matters 61 = .ok (.iload 7, 2) := by decide +kernel
theorem dX10_matters_63 : decode cX10_matters 63 = .ok (.aload_n 0, 1) := by decide +kernel
theorem dX10_matters_64 : decode cX10_matters 64 = .ok (.getfield 153, 3) := by decide +kernel
theorem dX10_matters_67 : decode cX10_matters 67 = .ok (.if_icmp .ge 47, 3) := by decide +kernel
theorem dX10_matters_114 : decode cX10_matters 114 = .ok (.aload_n 0, 1) := by decide +kernel
theorem dX10_matters_115 : decode cX10_matters 115 = .ok (.iconst (-1), 1) := by decide +kernel
theorem dX10_matters_116 : decode cX10_matters 116 = .ok (.putfield 53, 3) := by decide +kernel
theorem dX10_matters_119 : decode cX10_matters 119 = .ok (.iload_n 3, 1) := by decide +kernel
theorem dX10_matters_120 : decode cX10_matters 120 = .ok (.ifCond .ne 8, 3) := by decide +kernel
theorem dX10_matters_128 : decode cX10_matters 128 = .ok (.iload 6, 2) := by decide +kernel
theorem dX10_matters_130 : decode cX10_matters 130 = .ok (.ireturn, 1) := by decide +kernel
theorem dX10_matters_123 : decode cX10_matters 123 = .ok (.iload 5, 2) := by decide +kernel
theorem dX10_matters_125 : decode cX10_matters 125 = .ok (.goto 5, 3) := by decide +kernel
theorem dX10_matters_70 : decode cX10_matters 70 = .ok (.aload_n 0, 1) := by decide +kernel
theorem dX10_matters_71 : decode cX10_matters 71 = .ok (.iload 7, 2) := by decide +kernel
theorem dX10_matters_73 : decode cX10_matters 73 = .ok (.putfield 53, 3) := by decide +kernel
theorem dX10_matters_76 : decode cX10_matters 76 = .ok (.aload_n 0, 1) := by decide +kernel
theorem dX10_matters_77 : decode cX10_matters 77 = .ok (.iload_n 1, 1) := by decide +kernel
theorem dX10_matters_78 : decode cX10_matters 78 = .ok (.iload_n 2, 1) := by decide +kernel
theorem dX10_matters_79 : decode cX10_matters 79 = .ok (.invokevirtual 418, 3) := by decide +kernel
theorem dX10_matters_82 : decode cX10_matters 82 = .ok (.iload 4, 2) := by decide +kernel
theorem dX10_matters_84 : decode cX10_matters 84 = .ok (.isub, 1) := by decide +kernel
theorem dX10_matters_85 : decode cX10_matters 85 = .ok (.invokestatic 186, 3) := by decide +kernel
theorem dX10_matters_88 : decode cX10_matters 88 = .ok (.istore 8, 2) := by decide +kernel
theorem dX10_matters_90 : decode cX10_matters 90 = .ok (.iload 8, 2) := by decide +kernel
theorem dX10_matters_92 : decode cX10_matters 92 = .ok (.iload 6, 2) := by decide +kernel
theorem dX10_matters_94 : decode cX10_matters 94 = .ok (.if_icmp .gt 6, 3) := by decide +kernel
theorem dX10_matters_100 : decode cX10_matters 100 = .ok (.iload 7, 2) := by decide +kernel
theorem dX10_matters_102 : decode cX10_matters 102 = .ok (.istore 5, 2) := by decide +kernel
theorem dX10_matters_104 : decode cX10_matters 104 = .ok (.iload 8, 2) := by decide +kernel
theorem dX10_matters_106 : decode cX10_matters 106 = .ok (.istore 6, 2) := by decide +kernel
theorem dX10_matters_108 : decode cX10_matters 108 = .ok (.iinc 7 1, 3) := by decide +kernel
theorem dX10_matters_111 : decode cX10_matters 111 = .ok (.goto (-50), 3) := by decide +kernel
theorem dX10_matters_97 : decode cX10_matters 97 = .ok (.goto 11, 3) := by decide +kernel
theorem dX10_matters_42 : decode cX10_matters 42 = .ok (.iconst 0, 1) := by decide +kernel
theorem dX10_matters_43 : decode cX10_matters 43 = .ok (.ireturn, 1) := by decide +kernel
theorem dX10_toWarm_0 : decode cX10_toWarm 0 = .ok (.aload_n 0, 1) := by decide +kernel
theorem dX10_toWarm_1 : decode cX10_toWarm 1 = .ok (.iconst 0, 1) := by decide +kernel
theorem dX10_toWarm_2 : decode cX10_toWarm 2 = .ok (.putfield 110, 3) := by decide +kernel
theorem dX10_toWarm_5 : decode cX10_toWarm 5 = .ok (.aload_n 0, 1) := by decide +kernel
theorem dX10_toWarm_6 : decode cX10_toWarm 6 = .ok (.iload_n 1, 1) := by decide +kernel
theorem dX10_toWarm_7 : decode cX10_toWarm 7 = .ok (.invokevirtual 360, 3) := by decide +kernel
theorem dX10_toWarm_10 : decode cX10_toWarm 10 = .ok (.ifCond .eq 18, 3) := by decide +kernel
theorem dX10_toWarm_13 : decode cX10_toWarm 13 = .ok (.aload_n 0, 1) := by decide +kernel
theorem dX10_toWarm_14 : decode cX10_toWarm 14 = .ok (.iload_n 2, 1) := by decide +kernel
theorem dX10_toWarm_15 : decode cX10_toWarm 15 = .ok (.iconst 1, 1) := by decide +kernel
theorem dX10_toWarm_16 : decode cX10_toWarm 16 = .ok (.bipush 24, 2) := by decide +kernel
theorem dX10_toWarm_18 : decode cX10_toWarm 18 = .ok (.invokestatic 281, 3) := by decide +kernel
theorem dX10_toWarm_21 : decode cX10_toWarm 21 = .ok (.iconst 2, 1) := by decide +kernel
theorem dX10_toWarm_22 : decode cX10_toWarm 22 = .ok (.invokevirtual 324, 3) := by decide +kernel
theorem dX10_toWarm_25 : decode cX10_toWarm 25 = .ok (.ifCond .ne 5, 3) := by decide +kernel
theorem dX10_toWarm_30 : decode cX10_toWarm 30 = .ok (.iconst (-1), 1) := by decide +kernel
theorem dX10_toWarm_31 : decode cX10_toWarm 31 = .ok (.istore_n 3, 1) := by decide +kernel
theorem dX10_toWarm_32 : decode cX10_toWarm 32 = .ok (.iconst 1, 1) := by decide +kernel
theorem dX10_toWarm_33 : decode cX10_toWarm 33 = .ok (.istore 4, 2) := by decide +kernel
theorem dX10_toWarm_35 : decode cX10_toWarm 35 = .ok (.iload 4, 2) := by decide +kernel
theorem dX10_toWarm_37 : decode cX10_toWarm 37 = .ok (.bipush 50, 2) := by decide +kernel
theorem dX10_toWarm_39 : decode cX10_toWarm 39 = .ok (.if_icmp .gt 65, 3) := by decide +kernel
theorem dX10_toWarm_104 : decode cX10_toWarm 104 = .ok (.aload_n 0, 1) := by decide +kernel
theorem dX10_toWarm_105 : decode cX10_toWarm 105 = .ok (.iconst 0, 1) := by decide +kernel
theorem dX10_toWarm_106 : decode cX10_toWarm 106 = .ok (.putfield 160, 3) := by decide +kernel
theorem dX10_toWarm_109 : decode cX10_toWarm 109 = .ok (.iload_n 3, 1) := by decide +kernel
theorem dX10_toWarm_110 : decode cX10_toWarm 110 = .ok (.ireturn, 1) := by decide +kernel
theorem dX10_toWarm_42 : decode cX10_toWarm 42 = .ok (.iload_n 3, 1) := by decide +kernel
theorem dX10_toWarm_43 : decode cX10_toWarm 43 = .ok (.iconst (-1), 1) := by decide +kernel
theorem dX10_toWarm_44 : decode cX10_toWarm 44 = .ok (.if_icmp .ne 60, 3) := by decide +kernel
theorem dX10_toWarm_47 : decode cX10_toWarm 47 = .ok (.aload_n 0, 1) := by decide +kernel
theorem dX10_toWarm_48 : decode cX10_toWarm 48 = .ok (.invokevirtual 409, 3) := by decide +kernel
theorem dX10_toWarm_51 : decode cX10_toWarm 51 = .ok (.aload_n 0, 1) := by decide +kernel
theorem dX10_toWarm_52 : decode cX10_toWarm 52 = .ok (.iload 4, 2) := by decide +kernel
theorem dX10_toWarm_54 : decode cX10_toWarm 54 = .ok (.putfield 160, 3) := by decide +kernel
theorem dX10_toWarm_57 : decode cX10_toWarm 57 = .ok (.iconst 0, 1) := by decide +kernel
theorem dX10_toWarm_58 : decode cX10_toWarm 58 = .ok (.istore 5, 2) := by decide +kernel
theorem dX10_toWarm_60 : decode cX10_toWarm 60 = .ok (.iload 5, 2) := by decide +kernel
theorem dX10_toWarm_62 : decode cX10_toWarm 62 = .ok (.iload_n 2, 1) := by decide +kernel
theorem dX10_toWarm_63 : decode cX10_toWarm 63 = .ok (.if_icmp .ge 35, 3) := by decide +kernel
theorem dX10_toWarm_98 : decode cX10_toWarm 98 = .ok (.iinc 4 1, 3) := by decide +kernel
theorem dX10_toWarm_101 : decode cX10_toWarm 101 = .ok (.goto (-66), 3) := by decide +kernel
theorem dX10_toWarm_66 : decode cX10_toWarm 66 = .ok (.iload_n 3, 1) := by decide +kernel
theorem dX10_toWarm_67 : decode cX10_toWarm 67 = .ok (.iconst (-1), 1) := by decide +kernel
theorem dX10_toWarm_68 : decode cX10_toWarm 68 = .ok (.if_icmp .ne 30, 3) := by decide +kernel
theorem dX10_toWarm_71 : decode cX10_toWarm 71 = .ok (.aload_n 0, 1) := by decide +kernel
theorem dX10_toWarm_72 : decode cX10_toWarm 72 = .ok (.sipush 350, 3) := by decide +kernel
theorem dX10_toWarm_75 : decode cX10_toWarm 75 = .ok (.invokevirtual 219, 3) := by decide +kernel
theorem dX10_toWarm_78 : decode cX10_toWarm 78 = .ok (.aload_n 0, 1) := by decide +kernel
theorem dX10_toWarm_79 : decode cX10_toWarm 79 = .ok (.sipush 350, 3) := by decide +kernel
theorem dX10_toWarm_82 : decode cX10_toWarm 82 = .ok (.iload_n 1, 1) := by decide +kernel
theorem dX10_toWarm_83 : decode cX10_toWarm 83 = .ok (.invokevirtual 366, 3) := by decide +kernel
theorem dX10_toWarm_86 : decode cX10_toWarm 86 = .ok (.ifCond .eq 6, 3) := by decide +kernel
theorem dX10_toWarm_92 : decode cX10_toWarm 92 = .ok (.iinc 5 1, 3) := by decide +kernel
theorem dX10_toWarm_95 : decode cX10_toWarm 95 = .ok (.goto (-35), 3) := by decide +kernel
theorem dX10_toWarm_89 : decode cX10_toWarm 89 = .ok (.iload 4, 2) := by decide +kernel
theorem dX10_toWarm_91 : decode cX10_toWarm 91 = .ok (.istore_n 3, 1) := by decide +kernel
theorem dX10_toWarm_28 : decode cX10_toWarm 28 = .ok (.iconst 0, 1) := by decide +kernel
theorem dX10_toWarm_29 : decode cX10_toWarm 29 = .ok (.ireturn, 1) := by decide +kernel
end
section
-- 99c.reftry.lean.txt
set_option maxRecDepth 100000 in
set_option maxHeartbeats 4000000 in
theorem c_X10_once_a (l : Launch) (D : va_G) (A : Nat → Prop) (cs : Nat → ClassId) (tt : Nat) (N : Nat) (ad : Nat → Nat) (g : Nat → va_E) (i : Nat) (hN : i + 30 ≤ N) (x : Int) (hx : 0 ≤ x ∧ x ≤ 512) (F r : Nat → Int) {st op ai fa mu tb tp : Nat → Int} (hM : okMr cs ad g i x F r st op ai fa mu tb tp) (n : Nat) (hn4 : n < 4) (z1 : Int) (hz1 : -2147483648 ≤ z1 ∧ z1 ≤ 2147483647) : zM l yX10_once cX10_once 4 (some .int) ({ frames := 11, cells := 0, slots := 0, locals := 660 } : Room) D A cs tt N ad g [.ref (ad i), .int (zI ((n : Int))), .int (zI (z1))] (rI0 N ad fun q g' => (-2147483648 ≤ q ∧ q ≤ 2147483647) ∧ (∃ F' r' : Nat → Int, okMr cs ad g' i (x + 1) F' r' st op ai fa mu tb tp ∧ (F' 13 = F 13 ∧ F' 14 = F 14 ∧ F' 17 = F 17 ∧ F' 20 = F 20 ∧ F' 21 = F 21 ∧ F' 23 = F 23 ∧ F' 24 = F 24)) ∧ ∀ j, j < i ∨ i + 30 ≤ j → g' j = g j) := by
  obtain ⟨hg, ⟨⟨e13, e14, e25, e27, e29⟩, k15, k16, k17, k18, k19, k20, k23, k21⟩, hRD, hTx, hA, ns, nh, nd, rf, pi, te, ki, li, ok1, ok2, fo, dd, dps, ⟨ha1, ha2, ha3, ha4, ha5, ha6, ha7, ha8, ha9, ha10, ha11, ha12, ha13, ha14, ha15, ha24, ha25, ha26, ha27, ha28, ha29⟩, hEv, hPt, hns, htp⟩ := id hM
  obtain ⟨-, hop, hai, hfa, hT, hT1⟩ := id hEv
  have hay1 : zAt ad (i) (ad i) := rfl
  have hay2 : zAt ad (i + 1) (ad (i + 1)) := rfl
  have hay3 : zAt ad (i + 2) (ad (i + 2)) := rfl
  have hay4 : zAt ad (i + 3) (ad (i + 3)) := rfl
  have hay5 : zAt ad (i + 4) (ad (i + 4)) := rfl
  have hay6 : zAt ad (i + 5) (ad (i + 5)) := rfl
  have hay7 : zAt ad (i + 6) (ad (i + 6)) := rfl
  have hay8 : zAt ad (i + 7) (ad (i + 7)) := rfl
  have hay9 : zAt ad (i + 8) (ad (i + 8)) := rfl
  have hay10 : zAt ad (i + 9) (ad (i + 9)) := rfl
  have hay11 : zAt ad (i + 10) (ad (i + 10)) := rfl
  have hay12 : zAt ad (i + 11) (ad (i + 11)) := rfl
  have hay13 : zAt ad (i + 12) (ad (i + 12)) := rfl
  have hay14 : zAt ad (i + 13) (ad (i + 13)) := rfl
  have hay15 : zAt ad (i + 14) (ad (i + 14)) := rfl
  have hay16 : zAt ad (i + 15) (ad (i + 15)) := rfl
  have hay17 : zAt ad (i + 24) (ad (i + 24)) := rfl
  have hay18 : zAt ad (i + 25) (ad (i + 25)) := rfl
  have hay19 : zAt ad (i + 26) (ad (i + 26)) := rfl
  have hay20 : zAt ad (i + 27) (ad (i + 27)) := rfl
  have hay21 : zAt ad (i + 28) (ad (i + 28)) := rfl
  have hay22 : zAt ad (i + 29) (ad (i + 29)) := rfl
  obtain ⟨⟨hsyy23, htyy23, hnyy23, hpyy23⟩, hlyy23⟩ := okA.at0 hA
  simp only [Nat.zero_add] at hsyy23 hnyy23 hpyy23
  have hmn : ∀ s, s < 4 → 0 ≤ r (6 + 86 * s) ∧ r (6 + 86 * s) ≤ 12 := fun s hs => (hsyy23 s hs).1
  have h5 : 0 ≤ r 5 ∧ r 5 ≤ 6 := hpyy23
  refine z_of (by decide) (Nat.le_of_ble_eq_true rfl) ?_
  intro pZ eZ sZ mZ below meth cZ C hr hlk hnm
  refine z_lv (lv' := [(0, .ref (ad i)), (1, .int (zI ((n : Int)))), (2, .int (zI (z1)))]) [0, 1, 2] rfl ?_
  refine z_aload_n C 0 dX10_once_0 rfl ?_
  refine z_iconst (z := 0) C dX10_once_1 rfl ?_
  refine z_put (fs' := mF ad (i) (uZ F 12 (0))) C (lt_A0 hN rfl) hay1 hg tyX10 tyX10_ok nmX10 rfl inA_X10 12 (by decide) q_1471 rfl rfl rfl rfl (Nat.le_of_ble_eq_true rfl) rfl dX10_once_2 (fun gy24 egy25 => ?_)
  have hgy26 := up_s egy25
  refine z_aload_n C 0 dX10_once_5 rfl ?_
  refine z_iload_n C 1 dX10_once_6 rfl ?_
  have h13vy27 : (uZ F 12 (0)) 13 = F 13 := (fn rfl (by decide))
  have hey28 : (uZ F 12 (0)) 12 = 0 := (uZ_s _ _ _)
  refine z_cV (As := [.int (zI ((n : Int)))]) (rest := []) (ci := 12) C (c_X10_isSlope l D A cs tt N ad _ i hN _ hgy26 (by omega) (by omega) ((n : Int)) (by omega)) (lt_A0 hN rfl) hay1 hgy26 rfl rfl mv_yX10_isSlope q_1803 hd_yX10_isSlope (by decide) (Nat.le_of_ble_eq_true rfl) (by decide) dX10_once_7 rfl (kI0 fun vy27 gvy27 hvy27 => ?_)
  rw [h13vy27] at hvy27
  obtain ⟨hrvy27, ⟨Fvy27, hcvy27, htvy27, hFvy27⟩, hfvy27⟩ := hvy27
  rcases (show vy27 = 1 ∨ vy27 = 0 by omega) with rfl | rfl
  · have hxvy27 := hrvy27.2 rfl
    refine z_if_eq (tgt := 27) C dX10_once_10 (by decide) (by omega) (fun h => absurd h (by omega)) (fun _ => ?_)
    refine z_aload_n C 0 dX10_once_13 rfl ?_
    refine z_iload_n C 2 dX10_once_14 rfl ?_
    refine z_iconst (z := 0) C dX10_once_15 rfl ?_
    refine z_iconst (z := 1) C dX10_once_16 rfl ?_
    refine z_cS (As := [.int (zI (z1)), .int (zI (0)), .int (zI (1))]) (rest := [.ref (ad i)]) C (c_X10_within l D A cs tt N ad _ (z1) (by omega) (0) (by omega) (1) (by omega)) ms_yX10_within q_1686 hd_yX10_within (by decide) (Nat.le_of_ble_eq_true rfl) (by decide) dX10_once_17 rfl (kI0 fun vy29 gvy29 hvy29 => ?_)
    obtain ⟨hvy29, rfl⟩ := hvy29
    rcases hvy29 with ⟨rfl, hxvy29⟩ | ⟨rfl, hxvy29⟩
    · refine z_iconst (z := 1) C dX10_once_20 rfl ?_
      have hey31 : Fvy27 12 = Fvy27 12 := rfl
      refine z_cV (As := [.int (zI (1)), .int (zI (1))]) (rest := []) (ci := 12) C (c_X10_right l D A cs tt N ad _ i hN _ hcvy27 (by omega) (1) (by omega) (1) (by omega)) (lt_A0 hN rfl) hay1 hcvy27 rfl rfl mv_yX10_right q_1648 hd_yX10_right (by decide) (Nat.le_of_ble_eq_true rfl) (by decide) dX10_once_21 rfl (kI0 fun vy30 gvy30 hvy30 => ?_)
      obtain ⟨hrvy30, ⟨Fvy30, hcvy30, htvy30, hFvy30⟩, hfvy30⟩ := hvy30
      rcases (show vy30 = 1 ∨ vy30 = 0 by omega) with rfl | rfl
      · refine z_if_ne (tgt := 29) C dX10_once_24 (by decide) (by omega) (fun _ => ?_) (fun h => absurd h (by omega))
        refine z_aload_n C 0 dX10_once_29 rfl ?_
        have hgy32 := up_n egy25 ha1 (ne_o (i := i) (c := 1) (d := 0) rfl)
        have hgy33 := (hfvy27 (i + 1) (ne_o (i := i) (c := 1) (d := 0) rfl)).trans hgy32
        have hgy34 := (hfvy30 (i + 1) (ne_o (i := i) (c := 1) (d := 0) rfl)).trans hgy33
        refine z_cV (As := []) (rest := []) (ci := 12) C (c_X10_tries l D A cs tt N ad _ i hN _ hcvy30 _ hgy34 (x) hA) (lt_A0 hN rfl) hay1 hcvy30 rfl rfl mv_yX10_tries q_1980 hd_yX10_tries (by decide) (Nat.le_of_ble_eq_true rfl) (by decide) dX10_once_30 rfl (kV0 fun gvy35 hvy35 => ?_)
        obtain ⟨⟨rvy35, hdvy35, hAvy35, hWvy35, h0vy35, hyvy35⟩, hfvy35⟩ := hvy35
        obtain ⟨⟨hsyy36, htyy36, hnyy36, hpyy36⟩, hlyy36⟩ := okA.at0 hAvy35
        simp only [Nat.zero_add] at hsyy36 hnyy36 hpyy36
        have hmn : ∀ s, s < 4 → 0 ≤ rvy35 (6 + 86 * s) ∧ rvy35 (6 + 86 * s) ≤ 12 := fun s hs => (hsyy36 s hs).1
        have h5 : 0 ≤ rvy35 5 ∧ rvy35 5 ≤ 6 := hpyy36
        refine z_iconst (z := 0) C dX10_once_33 rfl ?_
        refine z_istore_n (lv' := [(3, .int (zI (0))), (0, .ref (ad i)), (1, .int (zI ((n : Int)))), (2, .int (zI (z1)))]) C dX10_once_34 rfl (by decide) rfl ?_
        have lp1 : ∀ (n9 : Nat) (nn : Int) (F9 : Nat → Int) (r9 : Nat → Int) (g1 : Nat → va_E), (73 - nn).toNat = n9 → (okMr cs ad g1 i x F9 r9 st op ai fa mu tb tp) → ((∀ f, f ≠ 12 → F9 f = F f)) → (okW r9 350 (x)) → (∀ j, j < i ∨ i + 30 ≤ j → g1 j = g j) → (0 ≤ nn ∧ nn ≤ 73) → (r9 350 ≤ 2000 + nn) → zV pZ l eZ ({ frames := 11, cells := 0, slots := 0, locals := 660 } : Room) sZ mZ ([.ref (ad i), .int (zI ((n : Int))), .int (zI (z1))] : List Value).toArray below meth cZ (MQ below (zPost D A (rI0 N ad fun q g' => (-2147483648 ≤ q ∧ q ≤ 2147483647) ∧ (∃ F' r' : Nat → Int, okMr cs ad g' i (x + 1) F' r' st op ai fa mu tb tp ∧ (F' 13 = F 13 ∧ F' 14 = F 14 ∧ F' 17 = F 17 ∧ F' 20 = F 20 ∧ F' 21 = F 21 ∧ F' 23 = F 23 ∧ F' 24 = F 24)) ∧ ∀ j, j < i ∨ i + 30 ≤ j → g' j = g j)) ([.ref (ad i), .int (zI ((n : Int))), .int (zI (z1))] : List Value).toArray sZ ({ frames := 11, cells := 0, slots := 0, locals := 660 } : Room).cells ({ frames := 11, cells := 0, slots := 0, locals := 660 } : Room).slots A) D A 4 (N) ad g1 (0) (0) 35 [(0, .ref (ad i)), (1, .int (zI ((n : Int)))), (2, .int (zI (z1))), (3, .int (zI (nn)))] [] := by
          intro n9
          induction n9 using Nat.strongRecOn with
          | ind n9 ih_lp1 =>
            intro nn F9 r9 g1 hm9 fM fF fW f3 hvlp10 hvlp11
            obtain ⟨hg_y37, ⟨⟨e13_y37, e14_y37, e25_y37, e27_y37, e29_y37⟩, k15_y37, k16_y37, k17_y37, k18_y37, k19_y37, k20_y37, k23_y37, k21_y37⟩, hRD_y37, hTx_y37, hA_y37, ns_y37, nh_y37, nd_y37, rf_y37, pi_y37, te_y37, ki_y37, li_y37, ok1_y37, ok2_y37, fo_y37, dd_y37, dps_y37, ⟨ha1_y37, ha2_y37, ha3_y37, ha4_y37, ha5_y37, ha6_y37, ha7_y37, ha8_y37, ha9_y37, ha10_y37, ha11_y37, ha12_y37, ha13_y37, ha14_y37, ha15_y37, ha24_y37, ha25_y37, ha26_y37, ha27_y37, ha28_y37, ha29_y37⟩, hEv_y37, hPt_y37, hns_y37, htp_y37⟩ := id fM
            obtain ⟨-, hop_y37, hai_y37, hfa_y37, hT_y37, hT1_y37⟩ := id hEv_y37
            have e14 := e14_y37
            have e25 := e25_y37
            have e27 := e27_y37
            have e29 := e29_y37
            have hop := hop_y37
            have hai := hai_y37
            have hfa := hfa_y37
            have hT := hT_y37
            have hT1 := hT1_y37
            have hEv := hEv_y37
            have htp := htp_y37
            have hns := hns_y37
            have hPt := hPt_y37
            have hay38 : zAt ad (i) (ad i) := rfl
            have hay39 : zAt ad (i + 1) (ad (i + 1)) := rfl
            have hay40 : zAt ad (i + 2) (ad (i + 2)) := rfl
            have hay41 : zAt ad (i + 3) (ad (i + 3)) := rfl
            have hay42 : zAt ad (i + 4) (ad (i + 4)) := rfl
            have hay43 : zAt ad (i + 5) (ad (i + 5)) := rfl
            have hay44 : zAt ad (i + 6) (ad (i + 6)) := rfl
            have hay45 : zAt ad (i + 7) (ad (i + 7)) := rfl
            have hay46 : zAt ad (i + 8) (ad (i + 8)) := rfl
            have hay47 : zAt ad (i + 9) (ad (i + 9)) := rfl
            have hay48 : zAt ad (i + 10) (ad (i + 10)) := rfl
            have hay49 : zAt ad (i + 11) (ad (i + 11)) := rfl
            have hay50 : zAt ad (i + 12) (ad (i + 12)) := rfl
            have hay51 : zAt ad (i + 13) (ad (i + 13)) := rfl
            have hay52 : zAt ad (i + 14) (ad (i + 14)) := rfl
            have hay53 : zAt ad (i + 15) (ad (i + 15)) := rfl
            have hay54 : zAt ad (i + 24) (ad (i + 24)) := rfl
            have hay55 : zAt ad (i + 25) (ad (i + 25)) := rfl
            have hay56 : zAt ad (i + 26) (ad (i + 26)) := rfl
            have hay57 : zAt ad (i + 27) (ad (i + 27)) := rfl
            have hay58 : zAt ad (i + 28) (ad (i + 28)) := rfl
            have hay59 : zAt ad (i + 29) (ad (i + 29)) := rfl
            obtain ⟨⟨hsyy60, htyy60, hnyy60, hpyy60⟩, hlyy60⟩ := okA.at0 hA_y37
            simp only [Nat.zero_add] at hsyy60 hnyy60 hpyy60
            have hmn : ∀ s, s < 4 → 0 ≤ r9 (6 + 86 * s) ∧ r9 (6 + 86 * s) ≤ 12 := fun s hs => (hsyy60 s hs).1
            have h5 : 0 ≤ r9 5 ∧ r9 5 ≤ 6 := hpyy60
            have h13e : F9 13 = F 13 := fF 13 (by decide)
            have h14e : F9 14 = F 14 := fF 14 (by decide)
            have h17e : F9 17 = F 17 := fF 17 (by decide)
            have h20e : F9 20 = F 20 := fF 20 (by decide)
            have h21e : F9 21 = F 21 := fF 21 (by decide)
            have h23e : F9 23 = F 23 := fF 23 (by decide)
            have h24e : F9 24 = F 24 := fF 24 (by decide)
            have hW2 := fW.2.1
            refine z_iload_n C 3 dX10_once_35 rfl ?_
            refine z_bipush (z := 72) C dX10_once_36 (by decide) ?_
            refine z_icmp_gt (tgt := 85) C dX10_once_38 (by decide) (by omega) (by omega) (fun hby61 => ?_) (fun hby61 => ?_)
            · refine z_iconst (z := -1) C dX10_once_85 rfl ?_
              have hMy62 : okMr cs ad g1 i (x + 1) F9 r9 st op ai fa mu tb tp := okMr.upd fM hg_y37 fM.2.1 (fun f _ => rfl) ha1_y37 (hA_y37.mono (by omega)) (fun j a b => by
                  exact Or.inl (by rfl))
              have hkpy63 : F9 13 = F9 13 := rfl
              have hkpy64 : F9 14 = F9 14 := rfl
              have hkpy65 : F9 17 = F9 17 := rfl
              have hkpy66 : F9 20 = F9 20 := rfl
              have hkpy67 : F9 21 = F9 21 := rfl
              have hkpy68 : F9 23 = F9 23 := rfl
              have hkpy69 : F9 24 = F9 24 := rfl
              exact z_iret C hr hlk dX10_once_86 (by decide) (by decide) ⟨-1, rfl, rfl, rfl, by omega, ⟨_, _, hMy62, ⟨(by omega), (by omega), (by omega), (by omega), (by omega), (by omega), (by omega)⟩⟩, fun j j1 => by exact f3 j j1⟩
            · refine z_iload_n C 2 dX10_once_41 rfl ?_
              refine z_if_ne (tgt := 59) C dX10_once_42 (by decide) (by omega) (fun hby70 => ?_) (fun hby70 => ?_)
              · refine z_aload_n C 0 dX10_once_59 rfl ?_
                refine z_sipush (z := 350) C dX10_once_60 (by decide) ?_
                refine z_iload_n C 1 dX10_once_63 rfl ?_
                obtain ⟨py71, hpy71⟩ : ∃ p9 : Nat, 350 + 6 + 86 * n = p9 := ⟨_, rfl⟩
                have hmyy72 := (fW.1 n (by omega)).1
                rw [hpy71] at hmyy72
                refine z_cV (As := [.int (zI (350)), .int (zI ((n : Int)))]) (rest := []) (ci := 12) C (c_X10_many l D A cs tt N ad _ i hN _ hg_y37 _ ha1_y37 350 n py71 hpy71 (by omega) (by omega)) (lt_A0 hN rfl) hay38 hg_y37 rfl rfl mv_yX10_many q_1733 hd_yX10_many (by decide) (Nat.le_of_ble_eq_true rfl) (by decide) dX10_once_64 rfl (kI0 fun vy73 gvy73 hvy73 => ?_)
                obtain ⟨rfl, rfl⟩ := hvy73
                refine z_if_ne (tgt := 72) C dX10_once_67 (by decide) (by omega) (fun hby74 => ?_) (fun hby74 => ?_)
                · refine z_aload_n C 0 dX10_once_72 rfl ?_
                  refine z_sipush (z := 350) C dX10_once_73 (by decide) ?_
                  have hey76 : F9 13 = F9 13 := rfl
                  have hey77 : F9 14 = F9 14 := rfl
                  have hey78 : F9 25 = F9 25 := rfl
                  have hey79 : F9 27 = F9 27 := rfl
                  have hey80 : F9 28 = F9 28 := rfl
                  have hey81 : F9 29 = F9 29 := rfl
                  have hEvy75 : okEnv F9 _ _ _ _ _ := ⟨by omega, hop, hai, hfa, hT, hT1⟩
                  refine z_cV (As := [.int (zI (350))]) (rest := []) (ci := 12) C (c_X10_hour l D A cs tt N ad _ i hN _ hg_y37 _ ha1_y37 _ ha3_y37 _ ha4_y37 _ ha5_y37 _ ha6_y37 _ ha7_y37 _ ha14_y37 _ ha15_y37 350 (by omega) hEvy75 (x) (by omega) fW (by omega) (by omega)) (lt_A0 hN rfl) hay38 hg_y37 rfl rfl mv_yX10_hour q_1885 hd_yX10_hour (by decide) (Nat.le_of_ble_eq_true rfl) (by decide) dX10_once_76 rfl (kV0 fun gvy82 hvy82 => ?_)
                  obtain ⟨⟨rvy82, hcvy82, hwvy82, htvy82, hyvy82⟩, ⟨t4vy82, h4vy82⟩, ⟨t5vy82, h5vy82⟩, hfvy82⟩ := hvy82
                  have hAy83 : okA rvy82 (x) := okA.tried hA_y37 (fun j a => hyvy82 j (by omega))
                  obtain ⟨⟨hsyy84, htyy84, hnyy84, hpyy84⟩, hlyy84⟩ := okA.at0 hAy83
                  simp only [Nat.zero_add] at hsyy84 hnyy84 hpyy84
                  have hmn : ∀ s, s < 4 → 0 ≤ rvy82 (6 + 86 * s) ∧ rvy82 (6 + 86 * s) ≤ 12 := fun s hs => (hsyy84 s hs).1
                  have h5 : 0 ≤ rvy82 5 ∧ rvy82 5 ≤ 6 := hpyy84
                  refine z_iinc (z := nn + 1) (lv' := [(3, .int (zI (nn + 1))), (0, .ref (ad i)), (1, .int (zI ((n : Int)))), (2, .int (zI (z1)))]) (j := 3) C dX10_once_79 rfl rfl (by decide) rfl ?_
                  refine z_goto (tgt := 35) C dX10_once_82 (by decide) ?_
                  have hgy85 := (hfvy82 (i) (ne_o (i := i) (c := 0) (d := 1) rfl) (ne_o (i := i) (c := 0) (d := 14) rfl) (ne_o (i := i) (c := 0) (d := 15) rfl)).trans hg_y37
                  have hMy86 : okMr cs ad gvy82 i (x) F9 rvy82 st op ai fa mu tb tp := okMr.upd fM hgy85 fM.2.1 (fun f _ => rfl) hcvy82 (hAy83.mono (by omega)) (fun j a b => by
                      by_cases e0 : j = i + 14
                      · exact Or.inr ⟨14, _, e0, lsP.l (by decide), by rw [e0]; exact h4vy82⟩
                      by_cases e1 : j = i + 15
                      · exact Or.inr ⟨15, _, e1, lsP.l (by decide), by rw [e1]; exact h5vy82⟩
                      exact Or.inl (by rw [hfvy82 _ (by omega) (by omega) (by omega)]))
                  have hFF : (∀ f, f ≠ 12 → F9 f = F f) := fun f n12 => fF f n12
                  have hey87 : F9 13 = F9 13 := rfl
                  have hey88 : F9 14 = F9 14 := rfl
                  refine z_lv (lv' := [(0, .ref (ad i)), (1, .int (zI ((n : Int)))), (2, .int (zI (z1))), (3, .int (zI (nn + 1)))]) [1, 2, 3, 0] rfl ?_
                  exact ih_lp1 _ (by omega) (nn + 1) _ _ gvy82 rfl hMy86 hFF hwvy82 (fun j j1 => by rw [hfvy82 _ (by omega) (by omega) (by omega)]; exact f3 j j1) (by omega) (by omega)
                · refine z_iload_n C 3 dX10_once_70 rfl ?_
                  have hMy89 : okMr cs ad g1 i (x + 1) F9 r9 st op ai fa mu tb tp := okMr.upd fM hg_y37 fM.2.1 (fun f _ => rfl) ha1_y37 (hA_y37.mono (by omega)) (fun j a b => by
                      exact Or.inl (by rfl))
                  have hkpy90 : F9 13 = F9 13 := rfl
                  have hkpy91 : F9 14 = F9 14 := rfl
                  have hkpy92 : F9 17 = F9 17 := rfl
                  have hkpy93 : F9 20 = F9 20 := rfl
                  have hkpy94 : F9 21 = F9 21 := rfl
                  have hkpy95 : F9 23 = F9 23 := rfl
                  have hkpy96 : F9 24 = F9 24 := rfl
                  exact z_iret C hr hlk dX10_once_71 (by decide) (by decide) ⟨nn, rfl, rfl, rfl, by omega, ⟨_, _, hMy89, ⟨(by omega), (by omega), (by omega), (by omega), (by omega), (by omega), (by omega)⟩⟩, fun j j1 => by exact f3 j j1⟩
              · refine z_aload_n C 0 dX10_once_45 rfl ?_
                refine z_sipush (z := 350) C dX10_once_46 (by decide) ?_
                refine z_iload_n C 1 dX10_once_49 rfl ?_
                obtain ⟨py97, hpy97⟩ : ∃ p9 : Nat, 350 + 6 + 86 * n = p9 := ⟨_, rfl⟩
                have hqy99 : qS r9 py97 := ((fW.1 n (by omega)).of (p2 := py97) (by omega)).q (by have hb9 := mBb (t := r9 350 + x) (by omega); omega)
                have hmky100 := hqy99.1
                refine z_cV (As := [.int (zI (350)), .int (zI ((n : Int)))]) (rest := []) (ci := 12) C (c_X10_isUnstable l D A cs tt N ad _ i hN _ hg_y37 _ ha1_y37 _ ha2_y37 _ ha7_y37 350 n py97 hpy97 (by omega) (by omega) hqy99) (lt_A0 hN rfl) hay38 hg_y37 rfl rfl mv_yX10_isUnstable q_1811 hd_yX10_isUnstable (by decide) (Nat.le_of_ble_eq_true rfl) (by decide) dX10_once_50 rfl (kI0 fun vy98 gvy98 hvy98 => ?_)
                obtain ⟨hvy98, rfl⟩ := hvy98
                refine z_if_eq (tgt := 72) C dX10_once_53 (by decide) (by omega) (fun hby101 => ?_) (fun hby101 => ?_)
                · refine z_aload_n C 0 dX10_once_72 rfl ?_
                  refine z_sipush (z := 350) C dX10_once_73 (by decide) ?_
                  have hey103 : F9 13 = F9 13 := rfl
                  have hey104 : F9 14 = F9 14 := rfl
                  have hey105 : F9 25 = F9 25 := rfl
                  have hey106 : F9 27 = F9 27 := rfl
                  have hey107 : F9 28 = F9 28 := rfl
                  have hey108 : F9 29 = F9 29 := rfl
                  have hEvy102 : okEnv F9 _ _ _ _ _ := ⟨by omega, hop, hai, hfa, hT, hT1⟩
                  refine z_cV (As := [.int (zI (350))]) (rest := []) (ci := 12) C (c_X10_hour l D A cs tt N ad _ i hN _ hg_y37 _ ha1_y37 _ ha3_y37 _ ha4_y37 _ ha5_y37 _ ha6_y37 _ ha7_y37 _ ha14_y37 _ ha15_y37 350 (by omega) hEvy102 (x) (by omega) fW (by omega) (by omega)) (lt_A0 hN rfl) hay38 hg_y37 rfl rfl mv_yX10_hour q_1885 hd_yX10_hour (by decide) (Nat.le_of_ble_eq_true rfl) (by decide) dX10_once_76 rfl (kV0 fun gvy109 hvy109 => ?_)
                  obtain ⟨⟨rvy109, hcvy109, hwvy109, htvy109, hyvy109⟩, ⟨t4vy109, h4vy109⟩, ⟨t5vy109, h5vy109⟩, hfvy109⟩ := hvy109
                  have hAy110 : okA rvy109 (x) := okA.tried hA_y37 (fun j a => hyvy109 j (by omega))
                  obtain ⟨⟨hsyy111, htyy111, hnyy111, hpyy111⟩, hlyy111⟩ := okA.at0 hAy110
                  simp only [Nat.zero_add] at hsyy111 hnyy111 hpyy111
                  have hmn : ∀ s, s < 4 → 0 ≤ rvy109 (6 + 86 * s) ∧ rvy109 (6 + 86 * s) ≤ 12 := fun s hs => (hsyy111 s hs).1
                  have h5 : 0 ≤ rvy109 5 ∧ rvy109 5 ≤ 6 := hpyy111
                  refine z_iinc (z := nn + 1) (lv' := [(3, .int (zI (nn + 1))), (0, .ref (ad i)), (1, .int (zI ((n : Int)))), (2, .int (zI (z1)))]) (j := 3) C dX10_once_79 rfl rfl (by decide) rfl ?_
                  refine z_goto (tgt := 35) C dX10_once_82 (by decide) ?_
                  have hgy112 := (hfvy109 (i) (ne_o (i := i) (c := 0) (d := 1) rfl) (ne_o (i := i) (c := 0) (d := 14) rfl) (ne_o (i := i) (c := 0) (d := 15) rfl)).trans hg_y37
                  have hMy113 : okMr cs ad gvy109 i (x) F9 rvy109 st op ai fa mu tb tp := okMr.upd fM hgy112 fM.2.1 (fun f _ => rfl) hcvy109 (hAy110.mono (by omega)) (fun j a b => by
                      by_cases e0 : j = i + 14
                      · exact Or.inr ⟨14, _, e0, lsP.l (by decide), by rw [e0]; exact h4vy109⟩
                      by_cases e1 : j = i + 15
                      · exact Or.inr ⟨15, _, e1, lsP.l (by decide), by rw [e1]; exact h5vy109⟩
                      exact Or.inl (by rw [hfvy109 _ (by omega) (by omega) (by omega)]))
                  have hFF : (∀ f, f ≠ 12 → F9 f = F f) := fun f n12 => fF f n12
                  have hey114 : F9 13 = F9 13 := rfl
                  have hey115 : F9 14 = F9 14 := rfl
                  refine z_lv (lv' := [(0, .ref (ad i)), (1, .int (zI ((n : Int)))), (2, .int (zI (z1))), (3, .int (zI (nn + 1)))]) [1, 2, 3, 0] rfl ?_
                  exact ih_lp1 _ (by omega) (nn + 1) _ _ gvy109 rfl hMy113 hFF hwvy109 (fun j j1 => by rw [hfvy109 _ (by omega) (by omega) (by omega)]; exact f3 j j1) (by omega) (by omega)
                · refine z_goto (tgt := 70) C dX10_once_56 (by decide) ?_
                  refine z_iload_n C 3 dX10_once_70 rfl ?_
                  have hMy116 : okMr cs ad g1 i (x + 1) F9 r9 st op ai fa mu tb tp := okMr.upd fM hg_y37 fM.2.1 (fun f _ => rfl) ha1_y37 (hA_y37.mono (by omega)) (fun j a b => by
                      exact Or.inl (by rfl))
                  have hkpy117 : F9 13 = F9 13 := rfl
                  have hkpy118 : F9 14 = F9 14 := rfl
                  have hkpy119 : F9 17 = F9 17 := rfl
                  have hkpy120 : F9 20 = F9 20 := rfl
                  have hkpy121 : F9 21 = F9 21 := rfl
                  have hkpy122 : F9 23 = F9 23 := rfl
                  have hkpy123 : F9 24 = F9 24 := rfl
                  exact z_iret C hr hlk dX10_once_71 (by decide) (by decide) ⟨nn, rfl, rfl, rfl, by omega, ⟨_, _, hMy116, ⟨(by omega), (by omega), (by omega), (by omega), (by omega), (by omega), (by omega)⟩⟩, fun j j1 => by exact f3 j j1⟩
        have hgy124 := (hfvy35 (i) (ne_o (i := i) (c := 0) (d := 1) rfl)).trans hcvy30
        have hFy125 : ∀ f, f ≠ 12 → Fvy30 f = F f := fun f n12 => ((hFvy30 f n12).trans ((hFvy27 f n12).trans ((uZ_n _ _ n12).trans rfl)))
        have hey126 : Fvy30 13 = F 13 := ((hFvy30 13 (by decide)).trans ((hFvy27 13 (by decide)).trans (fn rfl (by decide))))
        have hey127 : Fvy30 14 = F 14 := ((hFvy30 14 (by decide)).trans ((hFvy27 14 (by decide)).trans (fn rfl (by decide))))
        have hey128 : Fvy30 15 = F 15 := ((hFvy30 15 (by decide)).trans ((hFvy27 15 (by decide)).trans (fn rfl (by decide))))
        have hey129 : Fvy30 16 = F 16 := ((hFvy30 16 (by decide)).trans ((hFvy27 16 (by decide)).trans (fn rfl (by decide))))
        have hey130 : Fvy30 17 = F 17 := ((hFvy30 17 (by decide)).trans ((hFvy27 17 (by decide)).trans (fn rfl (by decide))))
        have hey131 : Fvy30 18 = F 18 := ((hFvy30 18 (by decide)).trans ((hFvy27 18 (by decide)).trans (fn rfl (by decide))))
        have hey132 : Fvy30 19 = F 19 := ((hFvy30 19 (by decide)).trans ((hFvy27 19 (by decide)).trans (fn rfl (by decide))))
        have hey133 : Fvy30 20 = F 20 := ((hFvy30 20 (by decide)).trans ((hFvy27 20 (by decide)).trans (fn rfl (by decide))))
        have hey134 : Fvy30 21 = F 21 := ((hFvy30 21 (by decide)).trans ((hFvy27 21 (by decide)).trans (fn rfl (by decide))))
        have hey135 : Fvy30 23 = F 23 := ((hFvy30 23 (by decide)).trans ((hFvy27 23 (by decide)).trans (fn rfl (by decide))))
        have hey136 : Fvy30 25 = F 25 := ((hFvy30 25 (by decide)).trans ((hFvy27 25 (by decide)).trans (fn rfl (by decide))))
        have hey137 : Fvy30 27 = F 27 := ((hFvy30 27 (by decide)).trans ((hFvy27 27 (by decide)).trans (fn rfl (by decide))))
        have hey138 : Fvy30 28 = F 28 := ((hFvy30 28 (by decide)).trans ((hFvy27 28 (by decide)).trans (fn rfl (by decide))))
        have hey139 : Fvy30 29 = F 29 := ((hFvy30 29 (by decide)).trans ((hFvy27 29 (by decide)).trans (fn rfl (by decide))))
        have hKy140 : okF Fvy30 := okF.mv hM.2.1 hey126 hey127 hey128 hey129 hey130 hey131 hey132 hey133 hey134 hey135 hey136 hey137 hey138 hey139
        have hMy141 : okMr cs ad gvy35 i (x) Fvy30 rvy35 st op ai fa mu tb tp := okMr.upd hM hgy124 hKy140 (fun f a => hFy125 f (by omega)) hdvy35 (hAvy35.mono (by omega)) (fun j a b => by
            exact Or.inl (by rw [hfvy35 _ (by omega)]; rw [hfvy30 _ (by omega)]; rw [hfvy27 _ (by omega)]; rw [egy25, va_up_ne _ _ (by omega)]))
        have hFy142 : ∀ f, f ≠ 12 → Fvy30 f = F f := fun f n12 => ((hFvy30 f n12).trans ((hFvy27 f n12).trans ((uZ_n _ _ n12).trans rfl)))
        have hFF : (∀ f, f ≠ 12 → Fvy30 f = F f) := fun f n12 => (hFy142 f n12)
        have hey143 : Fvy30 13 = F 13 := ((hFvy30 13 (by decide)).trans ((hFvy27 13 (by decide)).trans (fn rfl (by decide))))
        have hey144 : Fvy30 14 = F 14 := ((hFvy30 14 (by decide)).trans ((hFvy27 14 (by decide)).trans (fn rfl (by decide))))
        refine z_lv (lv' := [(0, .ref (ad i)), (1, .int (zI ((n : Int)))), (2, .int (zI (z1))), (3, .int (zI (0)))]) [1, 2, 3, 0] rfl ?_
        exact lp1 _ (0) _ _ gvy35 rfl hMy141 hFF hWvy35 (fun j j1 => by rw [hfvy35 _ (by omega)]; rw [hfvy30 _ (by omega)]; rw [hfvy27 _ (by omega)]; rw [egy25, va_up_ne _ _ (by omega)]) (by omega) (by omega)
      · refine z_if_ne (tgt := 29) C dX10_once_24 (by decide) (by omega) (fun h => absurd h (by omega)) (fun _ => ?_)
        refine z_iconst (z := 0) C dX10_once_27 rfl ?_
        have hgy145 := up_n egy25 ha1 (ne_o (i := i) (c := 1) (d := 0) rfl)
        have hgy146 := (hfvy27 (i + 1) (ne_o (i := i) (c := 1) (d := 0) rfl)).trans hgy145
        have hgy147 := (hfvy30 (i + 1) (ne_o (i := i) (c := 1) (d := 0) rfl)).trans hgy146
        have hFy148 : ∀ f, f ≠ 12 → Fvy30 f = F f := fun f n12 => ((hFvy30 f n12).trans ((hFvy27 f n12).trans ((uZ_n _ _ n12).trans rfl)))
        have hey149 : Fvy30 13 = F 13 := ((hFvy30 13 (by decide)).trans ((hFvy27 13 (by decide)).trans (fn rfl (by decide))))
        have hey150 : Fvy30 14 = F 14 := ((hFvy30 14 (by decide)).trans ((hFvy27 14 (by decide)).trans (fn rfl (by decide))))
        have hey151 : Fvy30 15 = F 15 := ((hFvy30 15 (by decide)).trans ((hFvy27 15 (by decide)).trans (fn rfl (by decide))))
        have hey152 : Fvy30 16 = F 16 := ((hFvy30 16 (by decide)).trans ((hFvy27 16 (by decide)).trans (fn rfl (by decide))))
        have hey153 : Fvy30 17 = F 17 := ((hFvy30 17 (by decide)).trans ((hFvy27 17 (by decide)).trans (fn rfl (by decide))))
        have hey154 : Fvy30 18 = F 18 := ((hFvy30 18 (by decide)).trans ((hFvy27 18 (by decide)).trans (fn rfl (by decide))))
        have hey155 : Fvy30 19 = F 19 := ((hFvy30 19 (by decide)).trans ((hFvy27 19 (by decide)).trans (fn rfl (by decide))))
        have hey156 : Fvy30 20 = F 20 := ((hFvy30 20 (by decide)).trans ((hFvy27 20 (by decide)).trans (fn rfl (by decide))))
        have hey157 : Fvy30 21 = F 21 := ((hFvy30 21 (by decide)).trans ((hFvy27 21 (by decide)).trans (fn rfl (by decide))))
        have hey158 : Fvy30 23 = F 23 := ((hFvy30 23 (by decide)).trans ((hFvy27 23 (by decide)).trans (fn rfl (by decide))))
        have hey159 : Fvy30 25 = F 25 := ((hFvy30 25 (by decide)).trans ((hFvy27 25 (by decide)).trans (fn rfl (by decide))))
        have hey160 : Fvy30 27 = F 27 := ((hFvy30 27 (by decide)).trans ((hFvy27 27 (by decide)).trans (fn rfl (by decide))))
        have hey161 : Fvy30 28 = F 28 := ((hFvy30 28 (by decide)).trans ((hFvy27 28 (by decide)).trans (fn rfl (by decide))))
        have hey162 : Fvy30 29 = F 29 := ((hFvy30 29 (by decide)).trans ((hFvy27 29 (by decide)).trans (fn rfl (by decide))))
        have hKy163 : okF Fvy30 := okF.mv hM.2.1 hey149 hey150 hey151 hey152 hey153 hey154 hey155 hey156 hey157 hey158 hey159 hey160 hey161 hey162
        have hMy164 : okMr cs ad gvy30 i (x + 1) Fvy30 r st op ai fa mu tb tp := okMr.upd hM hcvy30 hKy163 (fun f a => hFy148 f (by omega)) hgy147 (hA.mono (by omega)) (fun j a b => by
            exact Or.inl (by rw [hfvy30 _ (by omega)]; rw [hfvy27 _ (by omega)]; rw [egy25, va_up_ne _ _ (by omega)]))
        have hkpy165 : Fvy30 13 = F 13 := ((hFvy30 13 (by decide)).trans ((hFvy27 13 (by decide)).trans (fn rfl (by decide))))
        have hkpy166 : Fvy30 14 = F 14 := ((hFvy30 14 (by decide)).trans ((hFvy27 14 (by decide)).trans (fn rfl (by decide))))
        have hkpy167 : Fvy30 17 = F 17 := ((hFvy30 17 (by decide)).trans ((hFvy27 17 (by decide)).trans (fn rfl (by decide))))
        have hkpy168 : Fvy30 20 = F 20 := ((hFvy30 20 (by decide)).trans ((hFvy27 20 (by decide)).trans (fn rfl (by decide))))
        have hkpy169 : Fvy30 21 = F 21 := ((hFvy30 21 (by decide)).trans ((hFvy27 21 (by decide)).trans (fn rfl (by decide))))
        have hkpy170 : Fvy30 23 = F 23 := ((hFvy30 23 (by decide)).trans ((hFvy27 23 (by decide)).trans (fn rfl (by decide))))
        have hkpy171 : Fvy30 24 = F 24 := ((hFvy30 24 (by decide)).trans ((hFvy27 24 (by decide)).trans (fn rfl (by decide))))
        exact z_iret C hr hlk dX10_once_28 (by decide) (by decide) ⟨0, rfl, rfl, rfl, by omega, ⟨_, _, hMy164, ⟨hkpy165, hkpy166, hkpy167, hkpy168, hkpy169, hkpy170, hkpy171⟩⟩, fun j j1 => by rw [hfvy30 _ (by omega)]; rw [hfvy27 _ (by omega)]; rw [egy25, va_up_ne _ _ (by omega)]⟩
    · refine z_iconst (z := 1) C dX10_once_20 rfl ?_
      have hey173 : Fvy27 12 = Fvy27 12 := rfl
      refine z_cV (As := [.int (zI (0)), .int (zI (1))]) (rest := []) (ci := 12) C (c_X10_right l D A cs tt N ad _ i hN _ hcvy27 (by omega) (0) (by omega) (1) (by omega)) (lt_A0 hN rfl) hay1 hcvy27 rfl rfl mv_yX10_right q_1648 hd_yX10_right (by decide) (Nat.le_of_ble_eq_true rfl) (by decide) dX10_once_21 rfl (kI0 fun vy172 gvy172 hvy172 => ?_)
      obtain ⟨hrvy172, ⟨Fvy172, hcvy172, htvy172, hFvy172⟩, hfvy172⟩ := hvy172
      obtain rfl : vy172 = 0 := by omega
      refine z_if_ne (tgt := 29) C dX10_once_24 (by decide) (by omega) (fun h => absurd h (by omega)) (fun _ => ?_)
      refine z_iconst (z := 0) C dX10_once_27 rfl ?_
      have hgy174 := up_n egy25 ha1 (ne_o (i := i) (c := 1) (d := 0) rfl)
      have hgy175 := (hfvy27 (i + 1) (ne_o (i := i) (c := 1) (d := 0) rfl)).trans hgy174
      have hgy176 := (hfvy172 (i + 1) (ne_o (i := i) (c := 1) (d := 0) rfl)).trans hgy175
      have hFy177 : ∀ f, f ≠ 12 → Fvy172 f = F f := fun f n12 => ((hFvy172 f n12).trans ((hFvy27 f n12).trans ((uZ_n _ _ n12).trans rfl)))
      have hey178 : Fvy172 13 = F 13 := ((hFvy172 13 (by decide)).trans ((hFvy27 13 (by decide)).trans (fn rfl (by decide))))
      have hey179 : Fvy172 14 = F 14 := ((hFvy172 14 (by decide)).trans ((hFvy27 14 (by decide)).trans (fn rfl (by decide))))
      have hey180 : Fvy172 15 = F 15 := ((hFvy172 15 (by decide)).trans ((hFvy27 15 (by decide)).trans (fn rfl (by decide))))
      have hey181 : Fvy172 16 = F 16 := ((hFvy172 16 (by decide)).trans ((hFvy27 16 (by decide)).trans (fn rfl (by decide))))
      have hey182 : Fvy172 17 = F 17 := ((hFvy172 17 (by decide)).trans ((hFvy27 17 (by decide)).trans (fn rfl (by decide))))
      have hey183 : Fvy172 18 = F 18 := ((hFvy172 18 (by decide)).trans ((hFvy27 18 (by decide)).trans (fn rfl (by decide))))
      have hey184 : Fvy172 19 = F 19 := ((hFvy172 19 (by decide)).trans ((hFvy27 19 (by decide)).trans (fn rfl (by decide))))
      have hey185 : Fvy172 20 = F 20 := ((hFvy172 20 (by decide)).trans ((hFvy27 20 (by decide)).trans (fn rfl (by decide))))
      have hey186 : Fvy172 21 = F 21 := ((hFvy172 21 (by decide)).trans ((hFvy27 21 (by decide)).trans (fn rfl (by decide))))
      have hey187 : Fvy172 23 = F 23 := ((hFvy172 23 (by decide)).trans ((hFvy27 23 (by decide)).trans (fn rfl (by decide))))
      have hey188 : Fvy172 25 = F 25 := ((hFvy172 25 (by decide)).trans ((hFvy27 25 (by decide)).trans (fn rfl (by decide))))
      have hey189 : Fvy172 27 = F 27 := ((hFvy172 27 (by decide)).trans ((hFvy27 27 (by decide)).trans (fn rfl (by decide))))
      have hey190 : Fvy172 28 = F 28 := ((hFvy172 28 (by decide)).trans ((hFvy27 28 (by decide)).trans (fn rfl (by decide))))
      have hey191 : Fvy172 29 = F 29 := ((hFvy172 29 (by decide)).trans ((hFvy27 29 (by decide)).trans (fn rfl (by decide))))
      have hKy192 : okF Fvy172 := okF.mv hM.2.1 hey178 hey179 hey180 hey181 hey182 hey183 hey184 hey185 hey186 hey187 hey188 hey189 hey190 hey191
      have hMy193 : okMr cs ad gvy172 i (x + 1) Fvy172 r st op ai fa mu tb tp := okMr.upd hM hcvy172 hKy192 (fun f a => hFy177 f (by omega)) hgy176 (hA.mono (by omega)) (fun j a b => by
          exact Or.inl (by rw [hfvy172 _ (by omega)]; rw [hfvy27 _ (by omega)]; rw [egy25, va_up_ne _ _ (by omega)]))
      have hkpy194 : Fvy172 13 = F 13 := ((hFvy172 13 (by decide)).trans ((hFvy27 13 (by decide)).trans (fn rfl (by decide))))
      have hkpy195 : Fvy172 14 = F 14 := ((hFvy172 14 (by decide)).trans ((hFvy27 14 (by decide)).trans (fn rfl (by decide))))
      have hkpy196 : Fvy172 17 = F 17 := ((hFvy172 17 (by decide)).trans ((hFvy27 17 (by decide)).trans (fn rfl (by decide))))
      have hkpy197 : Fvy172 20 = F 20 := ((hFvy172 20 (by decide)).trans ((hFvy27 20 (by decide)).trans (fn rfl (by decide))))
      have hkpy198 : Fvy172 21 = F 21 := ((hFvy172 21 (by decide)).trans ((hFvy27 21 (by decide)).trans (fn rfl (by decide))))
      have hkpy199 : Fvy172 23 = F 23 := ((hFvy172 23 (by decide)).trans ((hFvy27 23 (by decide)).trans (fn rfl (by decide))))
      have hkpy200 : Fvy172 24 = F 24 := ((hFvy172 24 (by decide)).trans ((hFvy27 24 (by decide)).trans (fn rfl (by decide))))
      exact z_iret C hr hlk dX10_once_28 (by decide) (by decide) ⟨0, rfl, rfl, rfl, by omega, ⟨_, _, hMy193, ⟨hkpy194, hkpy195, hkpy196, hkpy197, hkpy198, hkpy199, hkpy200⟩⟩, fun j j1 => by rw [hfvy172 _ (by omega)]; rw [hfvy27 _ (by omega)]; rw [egy25, va_up_ne _ _ (by omega)]⟩
  · refine z_if_eq (tgt := 27) C dX10_once_10 (by decide) (by omega) (fun _ => ?_) (fun h => absurd h (by omega))
    refine z_iconst (z := 0) C dX10_once_27 rfl ?_
    have hgy201 := up_n egy25 ha1 (ne_o (i := i) (c := 1) (d := 0) rfl)
    have hgy202 := (hfvy27 (i + 1) (ne_o (i := i) (c := 1) (d := 0) rfl)).trans hgy201
    have hFy203 : ∀ f, f ≠ 12 → Fvy27 f = F f := fun f n12 => ((hFvy27 f n12).trans ((uZ_n _ _ n12).trans rfl))
    have hey204 : Fvy27 13 = F 13 := ((hFvy27 13 (by decide)).trans (fn rfl (by decide)))
    have hey205 : Fvy27 14 = F 14 := ((hFvy27 14 (by decide)).trans (fn rfl (by decide)))
    have hey206 : Fvy27 15 = F 15 := ((hFvy27 15 (by decide)).trans (fn rfl (by decide)))
    have hey207 : Fvy27 16 = F 16 := ((hFvy27 16 (by decide)).trans (fn rfl (by decide)))
    have hey208 : Fvy27 17 = F 17 := ((hFvy27 17 (by decide)).trans (fn rfl (by decide)))
    have hey209 : Fvy27 18 = F 18 := ((hFvy27 18 (by decide)).trans (fn rfl (by decide)))
    have hey210 : Fvy27 19 = F 19 := ((hFvy27 19 (by decide)).trans (fn rfl (by decide)))
    have hey211 : Fvy27 20 = F 20 := ((hFvy27 20 (by decide)).trans (fn rfl (by decide)))
    have hey212 : Fvy27 21 = F 21 := ((hFvy27 21 (by decide)).trans (fn rfl (by decide)))
    have hey213 : Fvy27 23 = F 23 := ((hFvy27 23 (by decide)).trans (fn rfl (by decide)))
    have hey214 : Fvy27 25 = F 25 := ((hFvy27 25 (by decide)).trans (fn rfl (by decide)))
    have hey215 : Fvy27 27 = F 27 := ((hFvy27 27 (by decide)).trans (fn rfl (by decide)))
    have hey216 : Fvy27 28 = F 28 := ((hFvy27 28 (by decide)).trans (fn rfl (by decide)))
    have hey217 : Fvy27 29 = F 29 := ((hFvy27 29 (by decide)).trans (fn rfl (by decide)))
    have hKy218 : okF Fvy27 := okF.mv hM.2.1 hey204 hey205 hey206 hey207 hey208 hey209 hey210 hey211 hey212 hey213 hey214 hey215 hey216 hey217
    have hMy219 : okMr cs ad gvy27 i (x + 1) Fvy27 r st op ai fa mu tb tp := okMr.upd hM hcvy27 hKy218 (fun f a => hFy203 f (by omega)) hgy202 (hA.mono (by omega)) (fun j a b => by
        exact Or.inl (by rw [hfvy27 _ (by omega)]; rw [egy25, va_up_ne _ _ (by omega)]))
    have hkpy220 : Fvy27 13 = F 13 := ((hFvy27 13 (by decide)).trans (fn rfl (by decide)))
    have hkpy221 : Fvy27 14 = F 14 := ((hFvy27 14 (by decide)).trans (fn rfl (by decide)))
    have hkpy222 : Fvy27 17 = F 17 := ((hFvy27 17 (by decide)).trans (fn rfl (by decide)))
    have hkpy223 : Fvy27 20 = F 20 := ((hFvy27 20 (by decide)).trans (fn rfl (by decide)))
    have hkpy224 : Fvy27 21 = F 21 := ((hFvy27 21 (by decide)).trans (fn rfl (by decide)))
    have hkpy225 : Fvy27 23 = F 23 := ((hFvy27 23 (by decide)).trans (fn rfl (by decide)))
    have hkpy226 : Fvy27 24 = F 24 := ((hFvy27 24 (by decide)).trans (fn rfl (by decide)))
    exact z_iret C hr hlk dX10_once_28 (by decide) (by decide) ⟨0, rfl, rfl, rfl, by omega, ⟨_, _, hMy219, ⟨hkpy220, hkpy221, hkpy222, hkpy223, hkpy224, hkpy225, hkpy226⟩⟩, fun j j1 => by rw [hfvy27 _ (by omega)]; rw [egy25, va_up_ne _ _ (by omega)]⟩

set_option maxRecDepth 100000 in
set_option maxHeartbeats 4000000 in
theorem c_X10_once_b (l : Launch) (D : va_G) (A : Nat → Prop) (cs : Nat → ClassId) (tt : Nat) (N : Nat) (ad : Nat → Nat) (g : Nat → va_E) (i : Nat) (hN : i + 30 ≤ N) (x : Int) (hx : 0 ≤ x ∧ x ≤ 512) (F r : Nat → Int) {st op ai fa mu tb tp : Nat → Int} (hM : okMr cs ad g i x F r st op ai fa mu tb tp) (z : Int) (hz : -2147483648 ≤ z ∧ z ≤ 2147483647) (hzo : z < 0 ∨ 3 < z) (z1 : Int) (hz1 : -2147483648 ≤ z1 ∧ z1 ≤ 2147483647) : zM l yX10_once cX10_once 4 (some .int) ({ frames := 11, cells := 0, slots := 0, locals := 660 } : Room) D A cs tt N ad g [.ref (ad i), .int (zI (z)), .int (zI (z1))] (rI0 N ad fun q g' => (-2147483648 ≤ q ∧ q ≤ 2147483647) ∧ (∃ F' r' : Nat → Int, okMr cs ad g' i (x + 1) F' r' st op ai fa mu tb tp ∧ (F' 13 = F 13 ∧ F' 14 = F 14 ∧ F' 17 = F 17 ∧ F' 20 = F 20 ∧ F' 21 = F 21 ∧ F' 23 = F 23 ∧ F' 24 = F 24)) ∧ ∀ j, j < i ∨ i + 30 ≤ j → g' j = g j) := by
  obtain ⟨hg, ⟨⟨e13, e14, e25, e27, e29⟩, k15, k16, k17, k18, k19, k20, k23, k21⟩, hRD, hTx, hA, ns, nh, nd, rf, pi, te, ki, li, ok1, ok2, fo, dd, dps, ⟨ha1, ha2, ha3, ha4, ha5, ha6, ha7, ha8, ha9, ha10, ha11, ha12, ha13, ha14, ha15, ha24, ha25, ha26, ha27, ha28, ha29⟩, hEv, hPt, hns, htp⟩ := id hM
  obtain ⟨-, hop, hai, hfa, hT, hT1⟩ := id hEv
  have hay1 : zAt ad (i) (ad i) := rfl
  have hay2 : zAt ad (i + 1) (ad (i + 1)) := rfl
  have hay3 : zAt ad (i + 2) (ad (i + 2)) := rfl
  have hay4 : zAt ad (i + 3) (ad (i + 3)) := rfl
  have hay5 : zAt ad (i + 4) (ad (i + 4)) := rfl
  have hay6 : zAt ad (i + 5) (ad (i + 5)) := rfl
  have hay7 : zAt ad (i + 6) (ad (i + 6)) := rfl
  have hay8 : zAt ad (i + 7) (ad (i + 7)) := rfl
  have hay9 : zAt ad (i + 8) (ad (i + 8)) := rfl
  have hay10 : zAt ad (i + 9) (ad (i + 9)) := rfl
  have hay11 : zAt ad (i + 10) (ad (i + 10)) := rfl
  have hay12 : zAt ad (i + 11) (ad (i + 11)) := rfl
  have hay13 : zAt ad (i + 12) (ad (i + 12)) := rfl
  have hay14 : zAt ad (i + 13) (ad (i + 13)) := rfl
  have hay15 : zAt ad (i + 14) (ad (i + 14)) := rfl
  have hay16 : zAt ad (i + 15) (ad (i + 15)) := rfl
  have hay17 : zAt ad (i + 24) (ad (i + 24)) := rfl
  have hay18 : zAt ad (i + 25) (ad (i + 25)) := rfl
  have hay19 : zAt ad (i + 26) (ad (i + 26)) := rfl
  have hay20 : zAt ad (i + 27) (ad (i + 27)) := rfl
  have hay21 : zAt ad (i + 28) (ad (i + 28)) := rfl
  have hay22 : zAt ad (i + 29) (ad (i + 29)) := rfl
  obtain ⟨⟨hsyy23, htyy23, hnyy23, hpyy23⟩, hlyy23⟩ := okA.at0 hA
  simp only [Nat.zero_add] at hsyy23 hnyy23 hpyy23
  have hmn : ∀ s, s < 4 → 0 ≤ r (6 + 86 * s) ∧ r (6 + 86 * s) ≤ 12 := fun s hs => (hsyy23 s hs).1
  have h5 : 0 ≤ r 5 ∧ r 5 ≤ 6 := hpyy23
  refine z_of (by decide) (Nat.le_of_ble_eq_true rfl) ?_
  intro pZ eZ sZ mZ below meth cZ C hr hlk hnm
  refine z_lv (lv' := [(0, .ref (ad i)), (1, .int (zI (z))), (2, .int (zI (z1)))]) [0, 1, 2] rfl ?_
  refine z_aload_n C 0 dX10_once_0 rfl ?_
  refine z_iconst (z := 0) C dX10_once_1 rfl ?_
  refine z_put (fs' := mF ad (i) (uZ F 12 (0))) C (lt_A0 hN rfl) hay1 hg tyX10 tyX10_ok nmX10 rfl inA_X10 12 (by decide) q_1471 rfl rfl rfl rfl (Nat.le_of_ble_eq_true rfl) rfl dX10_once_2 (fun gy24 egy25 => ?_)
  have hgy26 := up_s egy25
  refine z_aload_n C 0 dX10_once_5 rfl ?_
  refine z_iload_n C 1 dX10_once_6 rfl ?_
  have h13vy27 : (uZ F 12 (0)) 13 = F 13 := (fn rfl (by decide))
  have hey28 : (uZ F 12 (0)) 12 = 0 := (uZ_s _ _ _)
  refine z_cV (As := [.int (zI (z))]) (rest := []) (ci := 12) C (c_X10_isSlope l D A cs tt N ad _ i hN _ hgy26 (by omega) (by omega) (z) (by omega)) (lt_A0 hN rfl) hay1 hgy26 rfl rfl mv_yX10_isSlope q_1803 hd_yX10_isSlope (by decide) (Nat.le_of_ble_eq_true rfl) (by decide) dX10_once_7 rfl (kI0 fun vy27 gvy27 hvy27 => ?_)
  rw [h13vy27] at hvy27
  obtain ⟨hrvy27, ⟨Fvy27, hcvy27, htvy27, hFvy27⟩, hfvy27⟩ := hvy27
  obtain rfl : vy27 = 0 := by omega
  refine z_if_eq (tgt := 27) C dX10_once_10 (by decide) (by omega) (fun _ => ?_) (fun h => absurd h (by omega))
  refine z_iconst (z := 0) C dX10_once_27 rfl ?_
  have hgy29 := up_n egy25 ha1 (ne_o (i := i) (c := 1) (d := 0) rfl)
  have hgy30 := (hfvy27 (i + 1) (ne_o (i := i) (c := 1) (d := 0) rfl)).trans hgy29
  have hFy31 : ∀ f, f ≠ 12 → Fvy27 f = F f := fun f n12 => ((hFvy27 f n12).trans ((uZ_n _ _ n12).trans rfl))
  have hey32 : Fvy27 13 = F 13 := ((hFvy27 13 (by decide)).trans (fn rfl (by decide)))
  have hey33 : Fvy27 14 = F 14 := ((hFvy27 14 (by decide)).trans (fn rfl (by decide)))
  have hey34 : Fvy27 15 = F 15 := ((hFvy27 15 (by decide)).trans (fn rfl (by decide)))
  have hey35 : Fvy27 16 = F 16 := ((hFvy27 16 (by decide)).trans (fn rfl (by decide)))
  have hey36 : Fvy27 17 = F 17 := ((hFvy27 17 (by decide)).trans (fn rfl (by decide)))
  have hey37 : Fvy27 18 = F 18 := ((hFvy27 18 (by decide)).trans (fn rfl (by decide)))
  have hey38 : Fvy27 19 = F 19 := ((hFvy27 19 (by decide)).trans (fn rfl (by decide)))
  have hey39 : Fvy27 20 = F 20 := ((hFvy27 20 (by decide)).trans (fn rfl (by decide)))
  have hey40 : Fvy27 21 = F 21 := ((hFvy27 21 (by decide)).trans (fn rfl (by decide)))
  have hey41 : Fvy27 23 = F 23 := ((hFvy27 23 (by decide)).trans (fn rfl (by decide)))
  have hey42 : Fvy27 25 = F 25 := ((hFvy27 25 (by decide)).trans (fn rfl (by decide)))
  have hey43 : Fvy27 27 = F 27 := ((hFvy27 27 (by decide)).trans (fn rfl (by decide)))
  have hey44 : Fvy27 28 = F 28 := ((hFvy27 28 (by decide)).trans (fn rfl (by decide)))
  have hey45 : Fvy27 29 = F 29 := ((hFvy27 29 (by decide)).trans (fn rfl (by decide)))
  have hKy46 : okF Fvy27 := okF.mv hM.2.1 hey32 hey33 hey34 hey35 hey36 hey37 hey38 hey39 hey40 hey41 hey42 hey43 hey44 hey45
  have hMy47 : okMr cs ad gvy27 i (x + 1) Fvy27 r st op ai fa mu tb tp := okMr.upd hM hcvy27 hKy46 (fun f a => hFy31 f (by omega)) hgy30 (hA.mono (by omega)) (fun j a b => by
      exact Or.inl (by rw [hfvy27 _ (by omega)]; rw [egy25, va_up_ne _ _ (by omega)]))
  have hkpy48 : Fvy27 13 = F 13 := ((hFvy27 13 (by decide)).trans (fn rfl (by decide)))
  have hkpy49 : Fvy27 14 = F 14 := ((hFvy27 14 (by decide)).trans (fn rfl (by decide)))
  have hkpy50 : Fvy27 17 = F 17 := ((hFvy27 17 (by decide)).trans (fn rfl (by decide)))
  have hkpy51 : Fvy27 20 = F 20 := ((hFvy27 20 (by decide)).trans (fn rfl (by decide)))
  have hkpy52 : Fvy27 21 = F 21 := ((hFvy27 21 (by decide)).trans (fn rfl (by decide)))
  have hkpy53 : Fvy27 23 = F 23 := ((hFvy27 23 (by decide)).trans (fn rfl (by decide)))
  have hkpy54 : Fvy27 24 = F 24 := ((hFvy27 24 (by decide)).trans (fn rfl (by decide)))
  exact z_iret C hr hlk dX10_once_28 (by decide) (by decide) ⟨0, rfl, rfl, rfl, by omega, ⟨_, _, hMy47, ⟨hkpy48, hkpy49, hkpy50, hkpy51, hkpy52, hkpy53, hkpy54⟩⟩, fun j j1 => by rw [hfvy27 _ (by omega)]; rw [egy25, va_up_ne _ _ (by omega)]⟩

set_option maxRecDepth 100000 in
set_option maxHeartbeats 4000000 in
theorem c_X10_once (l : Launch) (D : va_G) (A : Nat → Prop) (cs : Nat → ClassId) (tt : Nat) (N : Nat) (ad : Nat → Nat) (g : Nat → va_E) (i : Nat) (hN : i + 30 ≤ N) (x : Int) (hx : 0 ≤ x ∧ x ≤ 512) (F r : Nat → Int) {st op ai fa mu tb tp : Nat → Int} (hM : okMr cs ad g i x F r st op ai fa mu tb tp) (z : Int) (hz : -2147483648 ≤ z ∧ z ≤ 2147483647) (z1 : Int) (hz1 : -2147483648 ≤ z1 ∧ z1 ≤ 2147483647) : zM l yX10_once cX10_once 4 (some .int) ({ frames := 11, cells := 0, slots := 0, locals := 660 } : Room) D A cs tt N ad g [.ref (ad i), .int (zI (z)), .int (zI (z1))] (rI0 N ad fun q g' => (-2147483648 ≤ q ∧ q ≤ 2147483647) ∧ (∃ F' r' : Nat → Int, okMr cs ad g' i (x + 1) F' r' st op ai fa mu tb tp ∧ (F' 13 = F 13 ∧ F' 14 = F 14 ∧ F' 17 = F 17 ∧ F' 20 = F 20 ∧ F' 21 = F 21 ∧ F' 23 = F 23 ∧ F' 24 = F 24)) ∧ ∀ j, j < i ∨ i + 30 ≤ j → g' j = g j) := by
  by_cases h9 : 0 ≤ z ∧ z ≤ 3
  · obtain ⟨n, rfl⟩ : ∃ n : Nat, z = (n : Int) := ⟨z.toNat, by omega⟩
    exact c_X10_once_a l D A cs tt N ad g i hN x hx F r hM n (by omega) z1 hz1
  · exact c_X10_once_b l D A cs tt N ad g i hN x hx F r hM z hz (by omega) z1 hz1

set_option maxRecDepth 100000 in
set_option maxHeartbeats 4000000 in
theorem c_X10_isNamed (l : Launch) (D : va_G) (A : Nat → Prop) (cs : Nat → ClassId) (tt : Nat) (N : Nat) (ad : Nat → Nat) (g : Nat → va_E) (i : Nat) (hN : i + 30 ≤ N) (F : Nat → Int) (hg : g i = mC ad i F) (r : Nat → Int) (ha1 : g (i + 1) = iA cs 29200 r) (b : Nat) (hb : b + 350 ≤ 29200) (hmn : ∀ s, s < 4 → 0 ≤ r (b + 6 + 86 * s) ∧ r (b + 6 + 86 * s) ≤ 12) (h13 : 0 ≤ F 13 ∧ F 13 ≤ 4) (z : Int) (hz : -2147483648 ≤ z ∧ z ≤ 2147483647) : zM l yX10_isNamed cX10_isNamed 5 (some .boolean) ({ frames := 3, cells := 0, slots := 0, locals := 180 } : Room) D A cs tt N ad g [.ref (ad i), .int (zI ((b : Int))), .int (zI (z))] (rI0 N ad fun r g' => (0 ≤ r ∧ r ≤ 1) ∧ g = g') := by
  have hay1 : zAt ad (i) (ad i) := rfl
  have hay2 : zAt ad (i + 1) (ad (i + 1)) := rfl
  refine z_of (by decide) (Nat.le_of_ble_eq_true rfl) ?_
  intro pZ eZ sZ mZ below meth cZ C hr hlk hnm
  refine z_lv (lv' := [(0, .ref (ad i)), (1, .int (zI ((b : Int)))), (2, .int (zI (z)))]) [0, 1, 2] rfl ?_
  have lpo : ∀ (n9 : Nat) (ss : Int) (g1 : Nat → va_E), (5 - ss).toNat = n9 → (g = g1) → (0 ≤ ss ∧ ss ≤ F 13) → zV pZ l eZ ({ frames := 3, cells := 0, slots := 0, locals := 180 } : Room) sZ mZ ([.ref (ad i), .int (zI ((b : Int))), .int (zI (z))] : List Value).toArray below meth cZ (MQ below (zPost D A (rI0 N ad fun r g' => (0 ≤ r ∧ r ≤ 1) ∧ g = g')) ([.ref (ad i), .int (zI ((b : Int))), .int (zI (z))] : List Value).toArray sZ ({ frames := 3, cells := 0, slots := 0, locals := 180 } : Room).cells ({ frames := 3, cells := 0, slots := 0, locals := 180 } : Room).slots A) D A 5 (N) ad g1 (0) (0) 2 [(0, .ref (ad i)), (1, .int (zI ((b : Int)))), (2, .int (zI (z))), (3, .int (zI (ss)))] [] := by
    intro n9
    induction n9 using Nat.strongRecOn with
    | ind n9 ih_lpo =>
      intro ss g1 hm9 hg1 hvo
      subst hg1
      refine z_iload_n C 3 dX10_isNamed_2 rfl ?_
      refine z_aload_n C 0 dX10_isNamed_3 rfl ?_
      refine z_get (v := .int (zI (F 13))) C (lt_A0 hN rfl) hay1 hg rfl inA_X10 13 (by decide) q_1472 rfl (fv (F := F) (f := 13) rfl) dX10_isNamed_4 ?_
      refine z_icmp_ge (tgt := 52) C dX10_isNamed_7 (by decide) (by omega) (by omega) (fun hby3 => ?_) (fun hby3 => ?_)
      · refine z_iconst (z := 0) C dX10_isNamed_52 rfl ?_
        exact z_zret C hr hlk dX10_isNamed_53 (by decide) (by decide) (by decide) ⟨0, rfl, rfl, rfl, by omega, rfl⟩
      · refine z_iconst (z := 0) C dX10_isNamed_10 rfl ?_
        refine z_istore (lv' := [(4, .int (zI (0))), (0, .ref (ad i)), (1, .int (zI ((b : Int)))), (2, .int (zI (z))), (3, .int (zI (ss)))]) C dX10_isNamed_11 (by decide) rfl ?_
        have lpi : ∀ (n9 : Nat) (s2 : Int) (ll : Int) (g1 : Nat → va_E), (13 - ll).toNat = n9 → (g = g1) → (s2 = ss) → (0 ≤ ll ∧ ll ≤ 12) → zV pZ l eZ ({ frames := 3, cells := 0, slots := 0, locals := 180 } : Room) sZ mZ ([.ref (ad i), .int (zI ((b : Int))), .int (zI (z))] : List Value).toArray below meth cZ (MQ below (zPost D A (rI0 N ad fun r g' => (0 ≤ r ∧ r ≤ 1) ∧ g = g')) ([.ref (ad i), .int (zI ((b : Int))), .int (zI (z))] : List Value).toArray sZ ({ frames := 3, cells := 0, slots := 0, locals := 180 } : Room).cells ({ frames := 3, cells := 0, slots := 0, locals := 180 } : Room).slots A) D A 5 (N) ad g1 (0) (0) 13 [(0, .ref (ad i)), (1, .int (zI ((b : Int)))), (2, .int (zI (z))), (3, .int (zI (s2))), (4, .int (zI (ll)))] [] := by
          intro n9
          induction n9 using Nat.strongRecOn with
          | ind n9 ih_lpi =>
            intro s2 ll g1 hm9 hg2 hvs hvi
            subst hg2
            refine z_iload C 4 dX10_isNamed_13 rfl ?_
            refine z_aload_n C 0 dX10_isNamed_15 rfl ?_
            refine z_iload_n C 1 dX10_isNamed_16 rfl ?_
            refine z_iload_n C 3 dX10_isNamed_17 rfl ?_
            obtain ⟨ny4, hny4⟩ : ∃ n9 : Nat, s2 = (n9 : Int) := ⟨(s2).toNat, by omega⟩
            rw [hny4]
            obtain ⟨py5, hpy5⟩ : ∃ p9 : Nat, b + 6 + 86 * ny4 = p9 := ⟨_, rfl⟩
            have hmpy5 := hmn ny4 (by omega)
            rw [hpy5] at hmpy5
            refine z_cV (As := [.int (zI ((b : Int))), .int (zI ((ny4 : Int)))]) (rest := [.int (zI (ll))]) (ci := 12) C (c_X10_many l D A cs tt N ad _ i hN _ hg _ ha1 b ny4 py5 hpy5 (by omega) (by omega)) (lt_A0 hN rfl) hay1 hg rfl rfl mv_yX10_many q_1733 hd_yX10_many (by decide) (Nat.le_of_ble_eq_true rfl) (by decide) dX10_isNamed_18 rfl (kI0 fun vy6 gvy6 hvy6 => ?_)
            obtain ⟨rfl, rfl⟩ := hvy6
            refine z_icmp_ge (tgt := 46) C dX10_isNamed_21 (by decide) (by omega) (by omega) (fun hby7 => ?_) (fun hby7 => ?_)
            · refine z_iinc (z := (ny4 : Int) + 1) (lv' := [(3, .int (zI ((ny4 : Int) + 1))), (0, .ref (ad i)), (1, .int (zI ((b : Int)))), (2, .int (zI (z))), (4, .int (zI (ll)))]) (j := 3) C dX10_isNamed_46 rfl rfl (by decide) rfl ?_
              refine z_goto (tgt := 2) C dX10_isNamed_49 (by decide) ?_
              refine z_lv (lv' := [(0, .ref (ad i)), (1, .int (zI ((b : Int)))), (2, .int (zI (z))), (3, .int (zI ((ny4 : Int) + 1)))]) [1, 2, 3, 0] rfl ?_
              exact ih_lpo _ (by omega) ((ny4 : Int) + 1) _ rfl rfl (by omega)
            · refine z_aload_n C 0 dX10_isNamed_24 rfl ?_
              refine z_iload_n C 1 dX10_isNamed_25 rfl ?_
              refine z_iload_n C 3 dX10_isNamed_26 rfl ?_
              refine z_iload C 4 dX10_isNamed_27 rfl ?_
              refine z_bipush (z := 6) C dX10_isNamed_29 (by decide) ?_
              obtain ⟨ky8, hky8⟩ : ∃ k9 : Nat, (ll) = (k9 : Int) := ⟨((ll) : Int).toNat, by omega⟩
              obtain ⟨qy9, hqy9⟩ : ∃ q9 : Nat, py5 + 2 + 7 * ky8 = q9 := ⟨_, rfl⟩
              refine z_cV (As := [.int (zI ((b : Int))), .int (zI ((ny4 : Int))), .int (zI (ll)), .int (zI (6))]) (rest := []) (ci := 12) C (c_X10_of l D A cs tt N ad _ i hN _ hg _ ha1 b ny4 py5 hpy5 (by omega) (by omega) (ll) (6) (qy9 + 6) (by omega) (by omega) (by omega)) (lt_A0 hN rfl) hay1 hg rfl rfl mv_yX10_of q_1749 hd_yX10_of (by decide) (Nat.le_of_ble_eq_true rfl) (by decide) dX10_isNamed_31 rfl (kI0 fun vy10 gvy10 hvy10 => ?_)
              obtain ⟨rfl, rfl⟩ := hvy10
              refine z_iload_n C 2 dX10_isNamed_34 rfl ?_
              obtain ⟨xy11, exy12, hxy13⟩ := zI_of (zI (r (qy9 + 6)))
              rw [exy12]
              refine z_icmp_ne (tgt := 40) C dX10_isNamed_35 (by decide) (by omega) (by omega) (fun hby14 => ?_) (fun hby14 => ?_)
              · refine z_iinc (z := ll + 1) (lv' := [(4, .int (zI (ll + 1))), (0, .ref (ad i)), (1, .int (zI ((b : Int)))), (2, .int (zI (z))), (3, .int (zI ((ny4 : Int))))]) (j := 4) C dX10_isNamed_40 rfl rfl (by decide) rfl ?_
                refine z_goto (tgt := 13) C dX10_isNamed_43 (by decide) ?_
                refine z_lv (lv' := [(0, .ref (ad i)), (1, .int (zI ((b : Int)))), (2, .int (zI (z))), (3, .int (zI ((ny4 : Int)))), (4, .int (zI (ll + 1)))]) [1, 2, 3, 4, 0] rfl ?_
                exact ih_lpi _ (by omega) ((ny4 : Int)) (ll + 1) _ rfl rfl (by omega) (by omega)
              · refine z_iconst (z := 1) C dX10_isNamed_38 rfl ?_
                exact z_zret C hr hlk dX10_isNamed_39 (by decide) (by decide) (by decide) ⟨1, rfl, rfl, rfl, by omega, rfl⟩
        refine z_lv (lv' := [(0, .ref (ad i)), (1, .int (zI ((b : Int)))), (2, .int (zI (z))), (3, .int (zI (ss))), (4, .int (zI (0)))]) [1, 2, 3, 4, 0] rfl ?_
        exact lpi _ (ss) (0) _ rfl rfl (by omega) (by omega)
  refine z_iconst (z := 0) C dX10_isNamed_0 rfl ?_
  refine z_istore_n (lv' := [(3, .int (zI (0))), (0, .ref (ad i)), (1, .int (zI ((b : Int)))), (2, .int (zI (z)))]) C dX10_isNamed_1 rfl (by decide) rfl ?_
  refine z_lv (lv' := [(0, .ref (ad i)), (1, .int (zI ((b : Int)))), (2, .int (zI (z))), (3, .int (zI (0)))]) [1, 2, 3, 0] rfl ?_
  exact lpo _ (0) _ rfl rfl (by omega)

set_option maxRecDepth 100000 in
set_option maxHeartbeats 4000000 in
theorem c_X10_gone (l : Launch) (D : va_G) (A : Nat → Prop) (cs : Nat → ClassId) (tt : Nat) (N : Nat) (ad : Nat → Nat) (g : Nat → va_E) (i : Nat) (hN : i + 30 ≤ N) (x : Int) (hx : 0 ≤ x ∧ x ≤ 512) (F r : Nat → Int) {st op ai fa mu tb tp : Nat → Int} (hM : okMr cs ad g i x F r st op ai fa mu tb tp) (z : Int) (hz : -2147483648 ≤ z ∧ z ≤ 2147483647) : zM l yX10_gone cX10_gone 3 (some .int) ({ frames := 9, cells := 0, slots := 0, locals := 540 } : Room) D A cs tt N ad g [.ref (ad i), .int (zI (z))] (rI0 N ad fun q g' => (-2147483648 ≤ q ∧ q ≤ 2147483647) ∧ (∃ F' r' : Nat → Int, okMr cs ad g' i (x + 1) F' r' st op ai fa mu tb tp ∧ (F' 13 = F 13 ∧ F' 14 = F 14 ∧ F' 17 = F 17 ∧ F' 20 = F 20 ∧ F' 21 = F 21 ∧ F' 23 = F 23 ∧ F' 24 = F 24)) ∧ ∀ j, j < i ∨ i + 30 ≤ j → g' j = g j) := by
  obtain ⟨hg, ⟨⟨e13, e14, e25, e27, e29⟩, k15, k16, k17, k18, k19, k20, k23, k21⟩, hRD, hTx, hA, ns, nh, nd, rf, pi, te, ki, li, ok1, ok2, fo, dd, dps, ⟨ha1, ha2, ha3, ha4, ha5, ha6, ha7, ha8, ha9, ha10, ha11, ha12, ha13, ha14, ha15, ha24, ha25, ha26, ha27, ha28, ha29⟩, hEv, hPt, hns, htp⟩ := id hM
  obtain ⟨-, hop, hai, hfa, hT, hT1⟩ := id hEv
  have hay1 : zAt ad (i) (ad i) := rfl
  have hay2 : zAt ad (i + 1) (ad (i + 1)) := rfl
  have hay3 : zAt ad (i + 2) (ad (i + 2)) := rfl
  have hay4 : zAt ad (i + 3) (ad (i + 3)) := rfl
  have hay5 : zAt ad (i + 4) (ad (i + 4)) := rfl
  have hay6 : zAt ad (i + 5) (ad (i + 5)) := rfl
  have hay7 : zAt ad (i + 6) (ad (i + 6)) := rfl
  have hay8 : zAt ad (i + 7) (ad (i + 7)) := rfl
  have hay9 : zAt ad (i + 8) (ad (i + 8)) := rfl
  have hay10 : zAt ad (i + 9) (ad (i + 9)) := rfl
  have hay11 : zAt ad (i + 10) (ad (i + 10)) := rfl
  have hay12 : zAt ad (i + 11) (ad (i + 11)) := rfl
  have hay13 : zAt ad (i + 12) (ad (i + 12)) := rfl
  have hay14 : zAt ad (i + 13) (ad (i + 13)) := rfl
  have hay15 : zAt ad (i + 14) (ad (i + 14)) := rfl
  have hay16 : zAt ad (i + 15) (ad (i + 15)) := rfl
  have hay17 : zAt ad (i + 24) (ad (i + 24)) := rfl
  have hay18 : zAt ad (i + 25) (ad (i + 25)) := rfl
  have hay19 : zAt ad (i + 26) (ad (i + 26)) := rfl
  have hay20 : zAt ad (i + 27) (ad (i + 27)) := rfl
  have hay21 : zAt ad (i + 28) (ad (i + 28)) := rfl
  have hay22 : zAt ad (i + 29) (ad (i + 29)) := rfl
  obtain ⟨⟨hsyy23, htyy23, hnyy23, hpyy23⟩, hlyy23⟩ := okA.at0 hA
  simp only [Nat.zero_add] at hsyy23 hnyy23 hpyy23
  have hmn : ∀ s, s < 4 → 0 ≤ r (6 + 86 * s) ∧ r (6 + 86 * s) ≤ 12 := fun s hs => (hsyy23 s hs).1
  have h5 : 0 ≤ r 5 ∧ r 5 ≤ 6 := hpyy23
  refine z_of (by decide) (Nat.le_of_ble_eq_true rfl) ?_
  intro pZ eZ sZ mZ below meth cZ C hr hlk hnm
  refine z_lv (lv' := [(0, .ref (ad i)), (1, .int (zI (z)))]) [0, 1] rfl ?_
  refine z_aload_n C 0 dX10_gone_0 rfl ?_
  refine z_iconst (z := 0) C dX10_gone_1 rfl ?_
  refine z_put (fs' := mF ad (i) (uZ F 12 (0))) C (lt_A0 hN rfl) hay1 hg tyX10 tyX10_ok nmX10 rfl inA_X10 12 (by decide) q_1471 rfl rfl rfl rfl (Nat.le_of_ble_eq_true rfl) rfl dX10_gone_2 (fun gy24 egy25 => ?_)
  have hgy26 := up_s egy25
  refine z_aload_n C 0 dX10_gone_5 rfl ?_
  refine z_iload_n C 1 dX10_gone_6 rfl ?_
  refine z_iconst (z := 0) C dX10_gone_7 rfl ?_
  refine z_aload_n C 0 dX10_gone_8 rfl ?_
  refine z_get (v := .ref (ad (i + 1))) C (lt_A0 hN rfl) hay1 hgy26 rfl inA_X10 0 (by decide) q_1459 rfl rfl dX10_gone_9 ?_
  refine z_iconst (z := 1) C dX10_gone_12 rfl ?_
  have hgy27 := up_n egy25 ha1 (ne_o (i := i) (c := 1) (d := 0) rfl)
  refine z_iald C (lt_A (c := 1) hN rfl) hay2 hgy27 (1) (by omega) (by omega) (by decide) dX10_gone_13 ?_
  refine z_iconst (z := 1) C dX10_gone_14 rfl ?_
  refine z_isub C dX10_gone_15 ?_
  refine z_cS (As := [.int (zI (z)), .int (zI (0)), .int (zI ((r (1)) - 1))]) (rest := [.ref (ad i)]) C (c_X10_within l D A cs tt N ad _ (z) (by omega) (0) (by omega) ((r (1)) - 1) (by omega)) ms_yX10_within q_1686 hd_yX10_within (by decide) (Nat.le_of_ble_eq_true rfl) (by decide) dX10_gone_16 rfl (kI0 fun vy28 gvy28 hvy28 => ?_)
  obtain ⟨hvy28, rfl⟩ := hvy28
  rcases hvy28 with ⟨rfl, hxvy28⟩ | ⟨rfl, hxvy28⟩
  · refine z_iconst (z := 1) C dX10_gone_19 rfl ?_
    have hey30 : (uZ F 12 (0)) 12 = 0 := (uZ_s _ _ _)
    refine z_cV (As := [.int (zI (1)), .int (zI (1))]) (rest := []) (ci := 12) C (c_X10_right l D A cs tt N ad _ i hN _ hgy26 (by omega) (1) (by omega) (1) (by omega)) (lt_A0 hN rfl) hay1 hgy26 rfl rfl mv_yX10_right q_1648 hd_yX10_right (by decide) (Nat.le_of_ble_eq_true rfl) (by decide) dX10_gone_20 rfl (kI0 fun vy29 gvy29 hvy29 => ?_)
    obtain ⟨hrvy29, ⟨Fvy29, hcvy29, htvy29, hFvy29⟩, hfvy29⟩ := hvy29
    rcases (show vy29 = 1 ∨ vy29 = 0 by omega) with rfl | rfl
    · refine z_if_ne (tgt := 28) C dX10_gone_23 (by decide) (by omega) (fun _ => ?_) (fun h => absurd h (by omega))
      refine z_aload_n C 0 dX10_gone_28 rfl ?_
      have hgy31 := (hfvy29 (i + 1) (ne_o (i := i) (c := 1) (d := 0) rfl)).trans hgy27
      refine z_cV (As := []) (rest := []) (ci := 12) C (c_X10_tries l D A cs tt N ad _ i hN _ hcvy29 _ hgy31 (x) hA) (lt_A0 hN rfl) hay1 hcvy29 rfl rfl mv_yX10_tries q_1980 hd_yX10_tries (by decide) (Nat.le_of_ble_eq_true rfl) (by decide) dX10_gone_29 rfl (kV0 fun gvy32 hvy32 => ?_)
      obtain ⟨⟨rvy32, hdvy32, hAvy32, hWvy32, h0vy32, hyvy32⟩, hfvy32⟩ := hvy32
      obtain ⟨⟨hsyy33, htyy33, hnyy33, hpyy33⟩, hlyy33⟩ := okA.at0 hAvy32
      simp only [Nat.zero_add] at hsyy33 hnyy33 hpyy33
      have hmn : ∀ s, s < 4 → 0 ≤ rvy32 (6 + 86 * s) ∧ rvy32 (6 + 86 * s) ≤ 12 := fun s hs => (hsyy33 s hs).1
      have h5 : 0 ≤ rvy32 5 ∧ rvy32 5 ≤ 6 := hpyy33
      refine z_iconst (z := 0) C dX10_gone_32 rfl ?_
      refine z_istore_n (lv' := [(2, .int (zI (0))), (0, .ref (ad i)), (1, .int (zI (z)))]) C dX10_gone_33 rfl (by decide) rfl ?_
      have lp1 : ∀ (n9 : Nat) (nn : Int) (F9 : Nat → Int) (r9 : Nat → Int) (g1 : Nat → va_E), (73 - nn).toNat = n9 → (okMr cs ad g1 i x F9 r9 st op ai fa mu tb tp) → ((∀ f, f ≠ 12 → F9 f = F f)) → (okW r9 350 (x)) → (∀ j, j < i ∨ i + 30 ≤ j → g1 j = g j) → (0 ≤ nn ∧ nn ≤ 73) → (r9 350 ≤ 2000 + nn) → zV pZ l eZ ({ frames := 9, cells := 0, slots := 0, locals := 540 } : Room) sZ mZ ([.ref (ad i), .int (zI (z))] : List Value).toArray below meth cZ (MQ below (zPost D A (rI0 N ad fun q g' => (-2147483648 ≤ q ∧ q ≤ 2147483647) ∧ (∃ F' r' : Nat → Int, okMr cs ad g' i (x + 1) F' r' st op ai fa mu tb tp ∧ (F' 13 = F 13 ∧ F' 14 = F 14 ∧ F' 17 = F 17 ∧ F' 20 = F 20 ∧ F' 21 = F 21 ∧ F' 23 = F 23 ∧ F' 24 = F 24)) ∧ ∀ j, j < i ∨ i + 30 ≤ j → g' j = g j)) ([.ref (ad i), .int (zI (z))] : List Value).toArray sZ ({ frames := 9, cells := 0, slots := 0, locals := 540 } : Room).cells ({ frames := 9, cells := 0, slots := 0, locals := 540 } : Room).slots A) D A 3 (N) ad g1 (0) (0) 34 [(0, .ref (ad i)), (1, .int (zI (z))), (2, .int (zI (nn)))] [] := by
        intro n9
        induction n9 using Nat.strongRecOn with
        | ind n9 ih_lp1 =>
          intro nn F9 r9 g1 hm9 fM fF fW f3 hvlp10 hvlp11
          obtain ⟨hg_y34, ⟨⟨e13_y34, e14_y34, e25_y34, e27_y34, e29_y34⟩, k15_y34, k16_y34, k17_y34, k18_y34, k19_y34, k20_y34, k23_y34, k21_y34⟩, hRD_y34, hTx_y34, hA_y34, ns_y34, nh_y34, nd_y34, rf_y34, pi_y34, te_y34, ki_y34, li_y34, ok1_y34, ok2_y34, fo_y34, dd_y34, dps_y34, ⟨ha1_y34, ha2_y34, ha3_y34, ha4_y34, ha5_y34, ha6_y34, ha7_y34, ha8_y34, ha9_y34, ha10_y34, ha11_y34, ha12_y34, ha13_y34, ha14_y34, ha15_y34, ha24_y34, ha25_y34, ha26_y34, ha27_y34, ha28_y34, ha29_y34⟩, hEv_y34, hPt_y34, hns_y34, htp_y34⟩ := id fM
          obtain ⟨-, hop_y34, hai_y34, hfa_y34, hT_y34, hT1_y34⟩ := id hEv_y34
          have e14 := e14_y34
          have e25 := e25_y34
          have e27 := e27_y34
          have e29 := e29_y34
          have hop := hop_y34
          have hai := hai_y34
          have hfa := hfa_y34
          have hT := hT_y34
          have hT1 := hT1_y34
          have hEv := hEv_y34
          have htp := htp_y34
          have hns := hns_y34
          have hPt := hPt_y34
          have hay35 : zAt ad (i) (ad i) := rfl
          have hay36 : zAt ad (i + 1) (ad (i + 1)) := rfl
          have hay37 : zAt ad (i + 2) (ad (i + 2)) := rfl
          have hay38 : zAt ad (i + 3) (ad (i + 3)) := rfl
          have hay39 : zAt ad (i + 4) (ad (i + 4)) := rfl
          have hay40 : zAt ad (i + 5) (ad (i + 5)) := rfl
          have hay41 : zAt ad (i + 6) (ad (i + 6)) := rfl
          have hay42 : zAt ad (i + 7) (ad (i + 7)) := rfl
          have hay43 : zAt ad (i + 8) (ad (i + 8)) := rfl
          have hay44 : zAt ad (i + 9) (ad (i + 9)) := rfl
          have hay45 : zAt ad (i + 10) (ad (i + 10)) := rfl
          have hay46 : zAt ad (i + 11) (ad (i + 11)) := rfl
          have hay47 : zAt ad (i + 12) (ad (i + 12)) := rfl
          have hay48 : zAt ad (i + 13) (ad (i + 13)) := rfl
          have hay49 : zAt ad (i + 14) (ad (i + 14)) := rfl
          have hay50 : zAt ad (i + 15) (ad (i + 15)) := rfl
          have hay51 : zAt ad (i + 24) (ad (i + 24)) := rfl
          have hay52 : zAt ad (i + 25) (ad (i + 25)) := rfl
          have hay53 : zAt ad (i + 26) (ad (i + 26)) := rfl
          have hay54 : zAt ad (i + 27) (ad (i + 27)) := rfl
          have hay55 : zAt ad (i + 28) (ad (i + 28)) := rfl
          have hay56 : zAt ad (i + 29) (ad (i + 29)) := rfl
          obtain ⟨⟨hsyy57, htyy57, hnyy57, hpyy57⟩, hlyy57⟩ := okA.at0 hA_y34
          simp only [Nat.zero_add] at hsyy57 hnyy57 hpyy57
          have hmn : ∀ s, s < 4 → 0 ≤ r9 (6 + 86 * s) ∧ r9 (6 + 86 * s) ≤ 12 := fun s hs => (hsyy57 s hs).1
          have h5 : 0 ≤ r9 5 ∧ r9 5 ≤ 6 := hpyy57
          have h13e : F9 13 = F 13 := fF 13 (by decide)
          have h14e : F9 14 = F 14 := fF 14 (by decide)
          have h17e : F9 17 = F 17 := fF 17 (by decide)
          have h20e : F9 20 = F 20 := fF 20 (by decide)
          have h21e : F9 21 = F 21 := fF 21 (by decide)
          have h23e : F9 23 = F 23 := fF 23 (by decide)
          have h24e : F9 24 = F 24 := fF 24 (by decide)
          have hW2 := fW.2.1
          refine z_iload_n C 2 dX10_gone_34 rfl ?_
          refine z_bipush (z := 72) C dX10_gone_35 (by decide) ?_
          refine z_icmp_gt (tgt := 66) C dX10_gone_37 (by decide) (by omega) (by omega) (fun hby58 => ?_) (fun hby58 => ?_)
          · refine z_iconst (z := -1) C dX10_gone_66 rfl ?_
            have hMy59 : okMr cs ad g1 i (x + 1) F9 r9 st op ai fa mu tb tp := okMr.upd fM hg_y34 fM.2.1 (fun f _ => rfl) ha1_y34 (hA_y34.mono (by omega)) (fun j a b => by
                exact Or.inl (by rfl))
            have hkpy60 : F9 13 = F9 13 := rfl
            have hkpy61 : F9 14 = F9 14 := rfl
            have hkpy62 : F9 17 = F9 17 := rfl
            have hkpy63 : F9 20 = F9 20 := rfl
            have hkpy64 : F9 21 = F9 21 := rfl
            have hkpy65 : F9 23 = F9 23 := rfl
            have hkpy66 : F9 24 = F9 24 := rfl
            exact z_iret C hr hlk dX10_gone_67 (by decide) (by decide) ⟨-1, rfl, rfl, rfl, by omega, ⟨_, _, hMy59, ⟨(by omega), (by omega), (by omega), (by omega), (by omega), (by omega), (by omega)⟩⟩, fun j j1 => by exact f3 j j1⟩
          · refine z_aload_n C 0 dX10_gone_40 rfl ?_
            refine z_sipush (z := 350) C dX10_gone_41 (by decide) ?_
            refine z_iload_n C 1 dX10_gone_44 rfl ?_
            have hey68 : F9 13 = F9 13 := rfl
            refine z_cV (As := [.int (zI (350)), .int (zI (z))]) (rest := []) (ci := 12) C (c_X10_isNamed l D A cs tt N ad _ i hN _ hg_y34 _ ha1_y34 350 (by omega) (fun s hs => (fW.1 s hs).1) (by omega) (z) (by omega)) (lt_A0 hN rfl) hay35 hg_y34 rfl rfl mv_yX10_isNamed q_1992 hd_yX10_isNamed (by decide) (Nat.le_of_ble_eq_true rfl) (by decide) dX10_gone_45 rfl (kI0 fun vy67 gvy67 hvy67 => ?_)
            obtain ⟨hvy67, rfl⟩ := hvy67
            refine z_if_ne (tgt := 53) C dX10_gone_48 (by decide) (by omega) (fun hby69 => ?_) (fun hby69 => ?_)
            · refine z_aload_n C 0 dX10_gone_53 rfl ?_
              refine z_sipush (z := 350) C dX10_gone_54 (by decide) ?_
              have hey71 : F9 13 = F9 13 := rfl
              have hey72 : F9 14 = F9 14 := rfl
              have hey73 : F9 25 = F9 25 := rfl
              have hey74 : F9 27 = F9 27 := rfl
              have hey75 : F9 28 = F9 28 := rfl
              have hey76 : F9 29 = F9 29 := rfl
              have hEvy70 : okEnv F9 _ _ _ _ _ := ⟨by omega, hop, hai, hfa, hT, hT1⟩
              refine z_cV (As := [.int (zI (350))]) (rest := []) (ci := 12) C (c_X10_hour l D A cs tt N ad _ i hN _ hg_y34 _ ha1_y34 _ ha3_y34 _ ha4_y34 _ ha5_y34 _ ha6_y34 _ ha7_y34 _ ha14_y34 _ ha15_y34 350 (by omega) hEvy70 (x) (by omega) fW (by omega) (by omega)) (lt_A0 hN rfl) hay35 hg_y34 rfl rfl mv_yX10_hour q_1885 hd_yX10_hour (by decide) (Nat.le_of_ble_eq_true rfl) (by decide) dX10_gone_57 rfl (kV0 fun gvy77 hvy77 => ?_)
              obtain ⟨⟨rvy77, hcvy77, hwvy77, htvy77, hyvy77⟩, ⟨t4vy77, h4vy77⟩, ⟨t5vy77, h5vy77⟩, hfvy77⟩ := hvy77
              have hAy78 : okA rvy77 (x) := okA.tried hA_y34 (fun j a => hyvy77 j (by omega))
              obtain ⟨⟨hsyy79, htyy79, hnyy79, hpyy79⟩, hlyy79⟩ := okA.at0 hAy78
              simp only [Nat.zero_add] at hsyy79 hnyy79 hpyy79
              have hmn : ∀ s, s < 4 → 0 ≤ rvy77 (6 + 86 * s) ∧ rvy77 (6 + 86 * s) ≤ 12 := fun s hs => (hsyy79 s hs).1
              have h5 : 0 ≤ rvy77 5 ∧ rvy77 5 ≤ 6 := hpyy79
              refine z_iinc (z := nn + 1) (lv' := [(2, .int (zI (nn + 1))), (0, .ref (ad i)), (1, .int (zI (z)))]) (j := 2) C dX10_gone_60 rfl rfl (by decide) rfl ?_
              refine z_goto (tgt := 34) C dX10_gone_63 (by decide) ?_
              have hgy80 := (hfvy77 (i) (ne_o (i := i) (c := 0) (d := 1) rfl) (ne_o (i := i) (c := 0) (d := 14) rfl) (ne_o (i := i) (c := 0) (d := 15) rfl)).trans hg_y34
              have hMy81 : okMr cs ad gvy77 i (x) F9 rvy77 st op ai fa mu tb tp := okMr.upd fM hgy80 fM.2.1 (fun f _ => rfl) hcvy77 (hAy78.mono (by omega)) (fun j a b => by
                  by_cases e0 : j = i + 14
                  · exact Or.inr ⟨14, _, e0, lsP.l (by decide), by rw [e0]; exact h4vy77⟩
                  by_cases e1 : j = i + 15
                  · exact Or.inr ⟨15, _, e1, lsP.l (by decide), by rw [e1]; exact h5vy77⟩
                  exact Or.inl (by rw [hfvy77 _ (by omega) (by omega) (by omega)]))
              have hFF : (∀ f, f ≠ 12 → F9 f = F f) := fun f n12 => fF f n12
              have hey82 : F9 13 = F9 13 := rfl
              have hey83 : F9 14 = F9 14 := rfl
              refine z_lv (lv' := [(0, .ref (ad i)), (1, .int (zI (z))), (2, .int (zI (nn + 1)))]) [1, 2, 0] rfl ?_
              exact ih_lp1 _ (by omega) (nn + 1) _ _ gvy77 rfl hMy81 hFF hwvy77 (fun j j1 => by rw [hfvy77 _ (by omega) (by omega) (by omega)]; exact f3 j j1) (by omega) (by omega)
            · refine z_iload_n C 2 dX10_gone_51 rfl ?_
              have hMy84 : okMr cs ad g1 i (x + 1) F9 r9 st op ai fa mu tb tp := okMr.upd fM hg_y34 fM.2.1 (fun f _ => rfl) ha1_y34 (hA_y34.mono (by omega)) (fun j a b => by
                  exact Or.inl (by rfl))
              have hkpy85 : F9 13 = F9 13 := rfl
              have hkpy86 : F9 14 = F9 14 := rfl
              have hkpy87 : F9 17 = F9 17 := rfl
              have hkpy88 : F9 20 = F9 20 := rfl
              have hkpy89 : F9 21 = F9 21 := rfl
              have hkpy90 : F9 23 = F9 23 := rfl
              have hkpy91 : F9 24 = F9 24 := rfl
              exact z_iret C hr hlk dX10_gone_52 (by decide) (by decide) ⟨nn, rfl, rfl, rfl, by omega, ⟨_, _, hMy84, ⟨(by omega), (by omega), (by omega), (by omega), (by omega), (by omega), (by omega)⟩⟩, fun j j1 => by exact f3 j j1⟩
      have hgy92 := (hfvy32 (i) (ne_o (i := i) (c := 0) (d := 1) rfl)).trans hcvy29
      have hFy93 : ∀ f, f ≠ 12 → Fvy29 f = F f := fun f n12 => ((hFvy29 f n12).trans ((uZ_n _ _ n12).trans rfl))
      have hey94 : Fvy29 13 = F 13 := ((hFvy29 13 (by decide)).trans (fn rfl (by decide)))
      have hey95 : Fvy29 14 = F 14 := ((hFvy29 14 (by decide)).trans (fn rfl (by decide)))
      have hey96 : Fvy29 15 = F 15 := ((hFvy29 15 (by decide)).trans (fn rfl (by decide)))
      have hey97 : Fvy29 16 = F 16 := ((hFvy29 16 (by decide)).trans (fn rfl (by decide)))
      have hey98 : Fvy29 17 = F 17 := ((hFvy29 17 (by decide)).trans (fn rfl (by decide)))
      have hey99 : Fvy29 18 = F 18 := ((hFvy29 18 (by decide)).trans (fn rfl (by decide)))
      have hey100 : Fvy29 19 = F 19 := ((hFvy29 19 (by decide)).trans (fn rfl (by decide)))
      have hey101 : Fvy29 20 = F 20 := ((hFvy29 20 (by decide)).trans (fn rfl (by decide)))
      have hey102 : Fvy29 21 = F 21 := ((hFvy29 21 (by decide)).trans (fn rfl (by decide)))
      have hey103 : Fvy29 23 = F 23 := ((hFvy29 23 (by decide)).trans (fn rfl (by decide)))
      have hey104 : Fvy29 25 = F 25 := ((hFvy29 25 (by decide)).trans (fn rfl (by decide)))
      have hey105 : Fvy29 27 = F 27 := ((hFvy29 27 (by decide)).trans (fn rfl (by decide)))
      have hey106 : Fvy29 28 = F 28 := ((hFvy29 28 (by decide)).trans (fn rfl (by decide)))
      have hey107 : Fvy29 29 = F 29 := ((hFvy29 29 (by decide)).trans (fn rfl (by decide)))
      have hKy108 : okF Fvy29 := okF.mv hM.2.1 hey94 hey95 hey96 hey97 hey98 hey99 hey100 hey101 hey102 hey103 hey104 hey105 hey106 hey107
      have hMy109 : okMr cs ad gvy32 i (x) Fvy29 rvy32 st op ai fa mu tb tp := okMr.upd hM hgy92 hKy108 (fun f a => hFy93 f (by omega)) hdvy32 (hAvy32.mono (by omega)) (fun j a b => by
          exact Or.inl (by rw [hfvy32 _ (by omega)]; rw [hfvy29 _ (by omega)]; rw [egy25, va_up_ne _ _ (by omega)]))
      have hFy110 : ∀ f, f ≠ 12 → Fvy29 f = F f := fun f n12 => ((hFvy29 f n12).trans ((uZ_n _ _ n12).trans rfl))
      have hFF : (∀ f, f ≠ 12 → Fvy29 f = F f) := fun f n12 => (hFy110 f n12)
      have hey111 : Fvy29 13 = F 13 := ((hFvy29 13 (by decide)).trans (fn rfl (by decide)))
      have hey112 : Fvy29 14 = F 14 := ((hFvy29 14 (by decide)).trans (fn rfl (by decide)))
      refine z_lv (lv' := [(0, .ref (ad i)), (1, .int (zI (z))), (2, .int (zI (0)))]) [1, 2, 0] rfl ?_
      exact lp1 _ (0) _ _ gvy32 rfl hMy109 hFF hWvy32 (fun j j1 => by rw [hfvy32 _ (by omega)]; rw [hfvy29 _ (by omega)]; rw [egy25, va_up_ne _ _ (by omega)]) (by omega) (by omega)
    · refine z_if_ne (tgt := 28) C dX10_gone_23 (by decide) (by omega) (fun h => absurd h (by omega)) (fun _ => ?_)
      refine z_iconst (z := 0) C dX10_gone_26 rfl ?_
      have hgy113 := (hfvy29 (i + 1) (ne_o (i := i) (c := 1) (d := 0) rfl)).trans hgy27
      have hFy114 : ∀ f, f ≠ 12 → Fvy29 f = F f := fun f n12 => ((hFvy29 f n12).trans ((uZ_n _ _ n12).trans rfl))
      have hey115 : Fvy29 13 = F 13 := ((hFvy29 13 (by decide)).trans (fn rfl (by decide)))
      have hey116 : Fvy29 14 = F 14 := ((hFvy29 14 (by decide)).trans (fn rfl (by decide)))
      have hey117 : Fvy29 15 = F 15 := ((hFvy29 15 (by decide)).trans (fn rfl (by decide)))
      have hey118 : Fvy29 16 = F 16 := ((hFvy29 16 (by decide)).trans (fn rfl (by decide)))
      have hey119 : Fvy29 17 = F 17 := ((hFvy29 17 (by decide)).trans (fn rfl (by decide)))
      have hey120 : Fvy29 18 = F 18 := ((hFvy29 18 (by decide)).trans (fn rfl (by decide)))
      have hey121 : Fvy29 19 = F 19 := ((hFvy29 19 (by decide)).trans (fn rfl (by decide)))
      have hey122 : Fvy29 20 = F 20 := ((hFvy29 20 (by decide)).trans (fn rfl (by decide)))
      have hey123 : Fvy29 21 = F 21 := ((hFvy29 21 (by decide)).trans (fn rfl (by decide)))
      have hey124 : Fvy29 23 = F 23 := ((hFvy29 23 (by decide)).trans (fn rfl (by decide)))
      have hey125 : Fvy29 25 = F 25 := ((hFvy29 25 (by decide)).trans (fn rfl (by decide)))
      have hey126 : Fvy29 27 = F 27 := ((hFvy29 27 (by decide)).trans (fn rfl (by decide)))
      have hey127 : Fvy29 28 = F 28 := ((hFvy29 28 (by decide)).trans (fn rfl (by decide)))
      have hey128 : Fvy29 29 = F 29 := ((hFvy29 29 (by decide)).trans (fn rfl (by decide)))
      have hKy129 : okF Fvy29 := okF.mv hM.2.1 hey115 hey116 hey117 hey118 hey119 hey120 hey121 hey122 hey123 hey124 hey125 hey126 hey127 hey128
      have hMy130 : okMr cs ad gvy29 i (x + 1) Fvy29 r st op ai fa mu tb tp := okMr.upd hM hcvy29 hKy129 (fun f a => hFy114 f (by omega)) hgy113 (hA.mono (by omega)) (fun j a b => by
          exact Or.inl (by rw [hfvy29 _ (by omega)]; rw [egy25, va_up_ne _ _ (by omega)]))
      have hkpy131 : Fvy29 13 = F 13 := ((hFvy29 13 (by decide)).trans (fn rfl (by decide)))
      have hkpy132 : Fvy29 14 = F 14 := ((hFvy29 14 (by decide)).trans (fn rfl (by decide)))
      have hkpy133 : Fvy29 17 = F 17 := ((hFvy29 17 (by decide)).trans (fn rfl (by decide)))
      have hkpy134 : Fvy29 20 = F 20 := ((hFvy29 20 (by decide)).trans (fn rfl (by decide)))
      have hkpy135 : Fvy29 21 = F 21 := ((hFvy29 21 (by decide)).trans (fn rfl (by decide)))
      have hkpy136 : Fvy29 23 = F 23 := ((hFvy29 23 (by decide)).trans (fn rfl (by decide)))
      have hkpy137 : Fvy29 24 = F 24 := ((hFvy29 24 (by decide)).trans (fn rfl (by decide)))
      exact z_iret C hr hlk dX10_gone_27 (by decide) (by decide) ⟨0, rfl, rfl, rfl, by omega, ⟨_, _, hMy130, ⟨hkpy131, hkpy132, hkpy133, hkpy134, hkpy135, hkpy136, hkpy137⟩⟩, fun j j1 => by rw [hfvy29 _ (by omega)]; rw [egy25, va_up_ne _ _ (by omega)]⟩
  · refine z_iconst (z := 1) C dX10_gone_19 rfl ?_
    have hey139 : (uZ F 12 (0)) 12 = 0 := (uZ_s _ _ _)
    refine z_cV (As := [.int (zI (0)), .int (zI (1))]) (rest := []) (ci := 12) C (c_X10_right l D A cs tt N ad _ i hN _ hgy26 (by omega) (0) (by omega) (1) (by omega)) (lt_A0 hN rfl) hay1 hgy26 rfl rfl mv_yX10_right q_1648 hd_yX10_right (by decide) (Nat.le_of_ble_eq_true rfl) (by decide) dX10_gone_20 rfl (kI0 fun vy138 gvy138 hvy138 => ?_)
    obtain ⟨hrvy138, ⟨Fvy138, hcvy138, htvy138, hFvy138⟩, hfvy138⟩ := hvy138
    obtain rfl : vy138 = 0 := by omega
    refine z_if_ne (tgt := 28) C dX10_gone_23 (by decide) (by omega) (fun h => absurd h (by omega)) (fun _ => ?_)
    refine z_iconst (z := 0) C dX10_gone_26 rfl ?_
    have hgy140 := (hfvy138 (i + 1) (ne_o (i := i) (c := 1) (d := 0) rfl)).trans hgy27
    have hFy141 : ∀ f, f ≠ 12 → Fvy138 f = F f := fun f n12 => ((hFvy138 f n12).trans ((uZ_n _ _ n12).trans rfl))
    have hey142 : Fvy138 13 = F 13 := ((hFvy138 13 (by decide)).trans (fn rfl (by decide)))
    have hey143 : Fvy138 14 = F 14 := ((hFvy138 14 (by decide)).trans (fn rfl (by decide)))
    have hey144 : Fvy138 15 = F 15 := ((hFvy138 15 (by decide)).trans (fn rfl (by decide)))
    have hey145 : Fvy138 16 = F 16 := ((hFvy138 16 (by decide)).trans (fn rfl (by decide)))
    have hey146 : Fvy138 17 = F 17 := ((hFvy138 17 (by decide)).trans (fn rfl (by decide)))
    have hey147 : Fvy138 18 = F 18 := ((hFvy138 18 (by decide)).trans (fn rfl (by decide)))
    have hey148 : Fvy138 19 = F 19 := ((hFvy138 19 (by decide)).trans (fn rfl (by decide)))
    have hey149 : Fvy138 20 = F 20 := ((hFvy138 20 (by decide)).trans (fn rfl (by decide)))
    have hey150 : Fvy138 21 = F 21 := ((hFvy138 21 (by decide)).trans (fn rfl (by decide)))
    have hey151 : Fvy138 23 = F 23 := ((hFvy138 23 (by decide)).trans (fn rfl (by decide)))
    have hey152 : Fvy138 25 = F 25 := ((hFvy138 25 (by decide)).trans (fn rfl (by decide)))
    have hey153 : Fvy138 27 = F 27 := ((hFvy138 27 (by decide)).trans (fn rfl (by decide)))
    have hey154 : Fvy138 28 = F 28 := ((hFvy138 28 (by decide)).trans (fn rfl (by decide)))
    have hey155 : Fvy138 29 = F 29 := ((hFvy138 29 (by decide)).trans (fn rfl (by decide)))
    have hKy156 : okF Fvy138 := okF.mv hM.2.1 hey142 hey143 hey144 hey145 hey146 hey147 hey148 hey149 hey150 hey151 hey152 hey153 hey154 hey155
    have hMy157 : okMr cs ad gvy138 i (x + 1) Fvy138 r st op ai fa mu tb tp := okMr.upd hM hcvy138 hKy156 (fun f a => hFy141 f (by omega)) hgy140 (hA.mono (by omega)) (fun j a b => by
        exact Or.inl (by rw [hfvy138 _ (by omega)]; rw [egy25, va_up_ne _ _ (by omega)]))
    have hkpy158 : Fvy138 13 = F 13 := ((hFvy138 13 (by decide)).trans (fn rfl (by decide)))
    have hkpy159 : Fvy138 14 = F 14 := ((hFvy138 14 (by decide)).trans (fn rfl (by decide)))
    have hkpy160 : Fvy138 17 = F 17 := ((hFvy138 17 (by decide)).trans (fn rfl (by decide)))
    have hkpy161 : Fvy138 20 = F 20 := ((hFvy138 20 (by decide)).trans (fn rfl (by decide)))
    have hkpy162 : Fvy138 21 = F 21 := ((hFvy138 21 (by decide)).trans (fn rfl (by decide)))
    have hkpy163 : Fvy138 23 = F 23 := ((hFvy138 23 (by decide)).trans (fn rfl (by decide)))
    have hkpy164 : Fvy138 24 = F 24 := ((hFvy138 24 (by decide)).trans (fn rfl (by decide)))
    exact z_iret C hr hlk dX10_gone_27 (by decide) (by decide) ⟨0, rfl, rfl, rfl, by omega, ⟨_, _, hMy157, ⟨hkpy158, hkpy159, hkpy160, hkpy161, hkpy162, hkpy163, hkpy164⟩⟩, fun j j1 => by rw [hfvy138 _ (by omega)]; rw [egy25, va_up_ne _ _ (by omega)]⟩

set_option maxRecDepth 100000 in
set_option maxHeartbeats 4000000 in
theorem c_X10_ratioBehind (l : Launch) (D : va_G) (A : Nat → Prop) (cs : Nat → ClassId) (tt : Nat) (N : Nat) (ad : Nat → Nat) (g : Nat → va_E) (i : Nat) (hN : i + 30 ≤ N) (x : Int) (hx : 0 ≤ x ∧ x ≤ 512) (F r : Nat → Int) {st op ai fa mu tb tp : Nat → Int} (hM : okMr cs ad g i x F r st op ai fa mu tb tp) (n : Nat) (hn4 : n < 4) (z : Int) (hz : 0 ≤ z ∧ z ≤ 72) : zM l yX10_ratioBehind cX10_ratioBehind 3 (some .int) ({ frames := 10, cells := 0, slots := 0, locals := 600 } : Room) D A cs tt N ad g [.ref (ad i), .int (zI ((n : Int))), .int (zI (z))] (rI0 N ad fun q g' => (-2147483648 ≤ q ∧ q ≤ 2147483647) ∧ (∃ F' r' : Nat → Int, okMr cs ad g' i x F' r' st op ai fa mu tb tp ∧ (∀ f, F' f = F f)) ∧ ∀ j, j < i ∨ i + 30 ≤ j → g' j = g j) := by
  obtain ⟨hg, ⟨⟨e13, e14, e25, e27, e29⟩, k15, k16, k17, k18, k19, k20, k23, k21⟩, hRD, hTx, hA, ns, nh, nd, rf, pi, te, ki, li, ok1, ok2, fo, dd, dps, ⟨ha1, ha2, ha3, ha4, ha5, ha6, ha7, ha8, ha9, ha10, ha11, ha12, ha13, ha14, ha15, ha24, ha25, ha26, ha27, ha28, ha29⟩, hEv, hPt, hns, htp⟩ := id hM
  obtain ⟨-, hop, hai, hfa, hT, hT1⟩ := id hEv
  have hay1 : zAt ad (i) (ad i) := rfl
  have hay2 : zAt ad (i + 1) (ad (i + 1)) := rfl
  have hay3 : zAt ad (i + 2) (ad (i + 2)) := rfl
  have hay4 : zAt ad (i + 3) (ad (i + 3)) := rfl
  have hay5 : zAt ad (i + 4) (ad (i + 4)) := rfl
  have hay6 : zAt ad (i + 5) (ad (i + 5)) := rfl
  have hay7 : zAt ad (i + 6) (ad (i + 6)) := rfl
  have hay8 : zAt ad (i + 7) (ad (i + 7)) := rfl
  have hay9 : zAt ad (i + 8) (ad (i + 8)) := rfl
  have hay10 : zAt ad (i + 9) (ad (i + 9)) := rfl
  have hay11 : zAt ad (i + 10) (ad (i + 10)) := rfl
  have hay12 : zAt ad (i + 11) (ad (i + 11)) := rfl
  have hay13 : zAt ad (i + 12) (ad (i + 12)) := rfl
  have hay14 : zAt ad (i + 13) (ad (i + 13)) := rfl
  have hay15 : zAt ad (i + 14) (ad (i + 14)) := rfl
  have hay16 : zAt ad (i + 15) (ad (i + 15)) := rfl
  have hay17 : zAt ad (i + 24) (ad (i + 24)) := rfl
  have hay18 : zAt ad (i + 25) (ad (i + 25)) := rfl
  have hay19 : zAt ad (i + 26) (ad (i + 26)) := rfl
  have hay20 : zAt ad (i + 27) (ad (i + 27)) := rfl
  have hay21 : zAt ad (i + 28) (ad (i + 28)) := rfl
  have hay22 : zAt ad (i + 29) (ad (i + 29)) := rfl
  obtain ⟨⟨hsyy23, htyy23, hnyy23, hpyy23⟩, hlyy23⟩ := okA.at0 hA
  simp only [Nat.zero_add] at hsyy23 hnyy23 hpyy23
  have hmn : ∀ s, s < 4 → 0 ≤ r (6 + 86 * s) ∧ r (6 + 86 * s) ≤ 12 := fun s hs => (hsyy23 s hs).1
  have h5 : 0 ≤ r 5 ∧ r 5 ≤ 6 := hpyy23
  refine z_of (by decide) (Nat.le_of_ble_eq_true rfl) ?_
  intro pZ eZ sZ mZ below meth cZ C hr hlk hnm
  refine z_lv (lv' := [(0, .ref (ad i)), (1, .int (zI ((n : Int)))), (2, .int (zI (z)))]) [0, 1, 2] rfl ?_
  refine z_aload_n C 0 dX10_ratioBehind_0 rfl ?_
  refine z_cV (As := []) (rest := []) (ci := 12) C (c_X10_tries l D A cs tt N ad _ i hN _ hg _ ha1 (x) hA) (lt_A0 hN rfl) hay1 hg rfl rfl mv_yX10_tries q_1980 hd_yX10_tries (by decide) (Nat.le_of_ble_eq_true rfl) (by decide) dX10_ratioBehind_1 rfl (kV0 fun gvy24 hvy24 => ?_)
  obtain ⟨⟨rvy24, hdvy24, hAvy24, hWvy24, h0vy24, hyvy24⟩, hfvy24⟩ := hvy24
  obtain ⟨⟨hsyy25, htyy25, hnyy25, hpyy25⟩, hlyy25⟩ := okA.at0 hAvy24
  simp only [Nat.zero_add] at hsyy25 hnyy25 hpyy25
  have hmn : ∀ s, s < 4 → 0 ≤ rvy24 (6 + 86 * s) ∧ rvy24 (6 + 86 * s) ≤ 12 := fun s hs => (hsyy25 s hs).1
  have h5 : 0 ≤ rvy24 5 ∧ rvy24 5 ≤ 6 := hpyy25
  refine z_aload_n C 0 dX10_ratioBehind_4 rfl ?_
  refine z_sipush (z := 350) C dX10_ratioBehind_5 (by decide) ?_
  refine z_iload_n C 2 dX10_ratioBehind_8 rfl ?_
  have hgy26 := (hfvy24 (i) (ne_o (i := i) (c := 0) (d := 1) rfl)).trans hg
  have hey28 : F 13 = F 13 := rfl
  have hey29 : F 14 = F 14 := rfl
  have hey30 : F 25 = F 25 := rfl
  have hey31 : F 27 = F 27 := rfl
  have hey32 : F 28 = F 28 := rfl
  have hey33 : F 29 = F 29 := rfl
  have hEvy27 : okEnv F _ _ _ _ _ := ⟨by omega, hop, hai, hfa, hT, hT1⟩
  have hgy35 := (hfvy24 (i + 3) (ne_o (i := i) (c := 3) (d := 1) rfl)).trans ha3
  have hgy36 := (hfvy24 (i + 4) (ne_o (i := i) (c := 4) (d := 1) rfl)).trans ha4
  have hgy37 := (hfvy24 (i + 5) (ne_o (i := i) (c := 5) (d := 1) rfl)).trans ha5
  have hgy38 := (hfvy24 (i + 6) (ne_o (i := i) (c := 6) (d := 1) rfl)).trans ha6
  have hgy39 := (hfvy24 (i + 7) (ne_o (i := i) (c := 7) (d := 1) rfl)).trans ha7
  have hgy40 := (hfvy24 (i + 14) (ne_o (i := i) (c := 14) (d := 1) rfl)).trans ha14
  have hgy41 := (hfvy24 (i + 15) (ne_o (i := i) (c := 15) (d := 1) rfl)).trans ha15
  refine z_cV (As := [.int (zI (350)), .int (zI (z))]) (rest := []) (ci := 12) C (c_X10_goes l D A cs tt N ad _ i hN _ hgy26 _ hdvy24 _ hgy35 _ hgy36 _ hgy37 _ hgy38 _ hgy39 _ hgy40 _ hgy41 350 (by omega) hEvy27 (x) (by omega) hWvy24 (z) (by omega) (by omega) (by omega)) (lt_A0 hN rfl) hay1 hgy26 rfl rfl mv_yX10_goes q_1881 hd_yX10_goes (by decide) (Nat.le_of_ble_eq_true rfl) (by decide) dX10_ratioBehind_9 rfl (kV0 fun gvy34 hvy34 => ?_)
  obtain ⟨⟨rvy34, hcvy34, hwvy34, htvy34, hyvy34⟩, ⟨t4vy34, h4vy34⟩, ⟨t5vy34, h5vy34⟩, hfvy34⟩ := hvy34
  have hAy42 : okA rvy34 (x) := okA.tried hAvy24 (fun j a => hyvy34 j (by omega))
  obtain ⟨⟨hsyy43, htyy43, hnyy43, hpyy43⟩, hlyy43⟩ := okA.at0 hAy42
  simp only [Nat.zero_add] at hsyy43 hnyy43 hpyy43
  have hmn : ∀ s, s < 4 → 0 ≤ rvy34 (6 + 86 * s) ∧ rvy34 (6 + 86 * s) ≤ 12 := fun s hs => (hsyy43 s hs).1
  have h5 : 0 ≤ rvy34 5 ∧ rvy34 5 ≤ 6 := hpyy43
  refine z_aload_n C 0 dX10_ratioBehind_12 rfl ?_
  refine z_sipush (z := 350) C dX10_ratioBehind_13 (by decide) ?_
  refine z_iload_n C 1 dX10_ratioBehind_16 rfl ?_
  obtain ⟨py44, hpy44⟩ : ∃ p9 : Nat, 350 + 6 + 86 * n = p9 := ⟨_, rfl⟩
  have hgy45 := (hfvy34 (i) (ne_o (i := i) (c := 0) (d := 1) rfl) (ne_o (i := i) (c := 0) (d := 14) rfl) (ne_o (i := i) (c := 0) (d := 15) rfl)).trans hgy26
  have hgy47 := (hfvy24 (i + 2) (ne_o (i := i) (c := 2) (d := 1) rfl)).trans ha2
  have hgy48 := (hfvy34 (i + 2) (ne_o (i := i) (c := 2) (d := 1) rfl) (ne_o (i := i) (c := 2) (d := 14) rfl) (ne_o (i := i) (c := 2) (d := 15) rfl)).trans hgy47
  have hgy49 := (hfvy34 (i + 7) (ne_o (i := i) (c := 7) (d := 1) rfl) (ne_o (i := i) (c := 7) (d := 14) rfl) (ne_o (i := i) (c := 7) (d := 15) rfl)).trans hgy39
  have hqy50 : qS rvy34 py44 := ((hwvy34.1 n (by omega)).of (p2 := py44) (by omega)).q (by have hb9 := mBb (t := rvy34 350 + x) (by omega); omega)
  have hmky51 := hqy50.1
  refine z_cV (As := [.int (zI (350)), .int (zI ((n : Int)))]) (rest := []) (ci := 12) C (c_X10_leastRatio l D A cs tt N ad _ i hN _ hgy45 _ hcvy34 _ hgy48 _ hgy49 350 n py44 hpy44 (by omega) (by omega) hqy50) (lt_A0 hN rfl) hay1 hgy45 rfl rfl mv_yX10_leastRatio q_1760 hd_yX10_leastRatio (by decide) (Nat.le_of_ble_eq_true rfl) (by decide) dX10_ratioBehind_17 rfl (kI0 fun vy46 gvy46 hvy46 => ?_)
  obtain ⟨hvy46, rfl⟩ := hvy46
  have hMy52 : okMr cs ad gvy34 i (x) F rvy34 st op ai fa mu tb tp := okMr.upd hM hgy45 hM.2.1 (fun f _ => rfl) hcvy34 (hAy42.mono (by omega)) (fun j a b => by
      by_cases e0 : j = i + 14
      · exact Or.inr ⟨14, _, e0, lsP.l (by decide), by rw [e0]; exact h4vy34⟩
      by_cases e1 : j = i + 15
      · exact Or.inr ⟨15, _, e1, lsP.l (by decide), by rw [e1]; exact h5vy34⟩
      exact Or.inl (by rw [hfvy34 _ (by omega) (by omega) (by omega)]; rw [hfvy24 _ (by omega)]))
  exact z_iret C hr hlk dX10_ratioBehind_20 (by decide) (by decide) ⟨vy46, rfl, rfl, rfl, by omega, ⟨_, _, hMy52, fun f  => rfl⟩, fun j j1 => by rw [hfvy34 _ (by omega) (by omega) (by omega)]; rw [hfvy24 _ (by omega)]⟩

set_option maxRecDepth 100000 in
set_option maxHeartbeats 4000000 in
theorem c_X10_matters_a (l : Launch) (D : va_G) (A : Nat → Prop) (cs : Nat → ClassId) (tt : Nat) (N : Nat) (ad : Nat → Nat) (g : Nat → va_E) (i : Nat) (hN : i + 30 ≤ N) (x : Int) (hx : 0 ≤ x ∧ x ≤ 512) (F r : Nat → Int) {st op ai fa mu tb tp : Nat → Int} (hM : okMr cs ad g i x F r st op ai fa mu tb tp) (n : Nat) (hn4 : n < 4) (z1 : Int) (hz1 : -2147483648 ≤ z1 ∧ z1 ≤ 2147483647) (z2 : Int) (hz2 : -2147483648 ≤ z2 ∧ z2 ≤ 2147483647) : zM l yX10_matters cX10_matters 9 (some .int) ({ frames := 11, cells := 0, slots := 0, locals := 660 } : Room) D A cs tt N ad g [.ref (ad i), .int (zI ((n : Int))), .int (zI (z1)), .int (zI (z2))] (rI0 N ad fun q g' => (-2147483648 ≤ q ∧ q ≤ 2147483647) ∧ (∃ F' r' : Nat → Int, okMr cs ad g' i (x + 1) F' r' st op ai fa mu tb tp ∧ (F' 13 = F 13 ∧ F' 14 = F 14 ∧ F' 17 = F 17 ∧ F' 20 = F 20 ∧ F' 21 = F 21 ∧ F' 23 = F 23 ∧ F' 24 = F 24)) ∧ ∀ j, j < i ∨ i + 30 ≤ j → g' j = g j) := by
  obtain ⟨hg, ⟨⟨e13, e14, e25, e27, e29⟩, k15, k16, k17, k18, k19, k20, k23, k21⟩, hRD, hTx, hA, ns, nh, nd, rf, pi, te, ki, li, ok1, ok2, fo, dd, dps, ⟨ha1, ha2, ha3, ha4, ha5, ha6, ha7, ha8, ha9, ha10, ha11, ha12, ha13, ha14, ha15, ha24, ha25, ha26, ha27, ha28, ha29⟩, hEv, hPt, hns, htp⟩ := id hM
  obtain ⟨-, hop, hai, hfa, hT, hT1⟩ := id hEv
  have hay1 : zAt ad (i) (ad i) := rfl
  have hay2 : zAt ad (i + 1) (ad (i + 1)) := rfl
  have hay3 : zAt ad (i + 2) (ad (i + 2)) := rfl
  have hay4 : zAt ad (i + 3) (ad (i + 3)) := rfl
  have hay5 : zAt ad (i + 4) (ad (i + 4)) := rfl
  have hay6 : zAt ad (i + 5) (ad (i + 5)) := rfl
  have hay7 : zAt ad (i + 6) (ad (i + 6)) := rfl
  have hay8 : zAt ad (i + 7) (ad (i + 7)) := rfl
  have hay9 : zAt ad (i + 8) (ad (i + 8)) := rfl
  have hay10 : zAt ad (i + 9) (ad (i + 9)) := rfl
  have hay11 : zAt ad (i + 10) (ad (i + 10)) := rfl
  have hay12 : zAt ad (i + 11) (ad (i + 11)) := rfl
  have hay13 : zAt ad (i + 12) (ad (i + 12)) := rfl
  have hay14 : zAt ad (i + 13) (ad (i + 13)) := rfl
  have hay15 : zAt ad (i + 14) (ad (i + 14)) := rfl
  have hay16 : zAt ad (i + 15) (ad (i + 15)) := rfl
  have hay17 : zAt ad (i + 24) (ad (i + 24)) := rfl
  have hay18 : zAt ad (i + 25) (ad (i + 25)) := rfl
  have hay19 : zAt ad (i + 26) (ad (i + 26)) := rfl
  have hay20 : zAt ad (i + 27) (ad (i + 27)) := rfl
  have hay21 : zAt ad (i + 28) (ad (i + 28)) := rfl
  have hay22 : zAt ad (i + 29) (ad (i + 29)) := rfl
  obtain ⟨⟨hsyy23, htyy23, hnyy23, hpyy23⟩, hlyy23⟩ := okA.at0 hA
  simp only [Nat.zero_add] at hsyy23 hnyy23 hpyy23
  have hmn : ∀ s, s < 4 → 0 ≤ r (6 + 86 * s) ∧ r (6 + 86 * s) ≤ 12 := fun s hs => (hsyy23 s hs).1
  have h5 : 0 ≤ r 5 ∧ r 5 ≤ 6 := hpyy23
  refine z_of (by decide) (Nat.le_of_ble_eq_true rfl) ?_
  intro pZ eZ sZ mZ below meth cZ C hr hlk hnm
  refine z_lv (lv' := [(0, .ref (ad i)), (1, .int (zI ((n : Int)))), (2, .int (zI (z1))), (3, .int (zI (z2)))]) [0, 1, 2, 3] rfl ?_
  refine z_aload_n C 0 dX10_matters_0 rfl ?_
  refine z_iconst (z := 0) C dX10_matters_1 rfl ?_
  refine z_put (fs' := mF ad (i) (uZ F 12 (0))) C (lt_A0 hN rfl) hay1 hg tyX10 tyX10_ok nmX10 rfl inA_X10 12 (by decide) q_1471 rfl rfl rfl rfl (Nat.le_of_ble_eq_true rfl) rfl dX10_matters_2 (fun gy24 egy25 => ?_)
  have hgy26 := up_s egy25
  refine z_aload_n C 0 dX10_matters_5 rfl ?_
  refine z_iload_n C 1 dX10_matters_6 rfl ?_
  have h13vy27 : (uZ F 12 (0)) 13 = F 13 := (fn rfl (by decide))
  have hey28 : (uZ F 12 (0)) 12 = 0 := (uZ_s _ _ _)
  refine z_cV (As := [.int (zI ((n : Int)))]) (rest := []) (ci := 12) C (c_X10_isSlope l D A cs tt N ad _ i hN _ hgy26 (by omega) (by omega) ((n : Int)) (by omega)) (lt_A0 hN rfl) hay1 hgy26 rfl rfl mv_yX10_isSlope q_1803 hd_yX10_isSlope (by decide) (Nat.le_of_ble_eq_true rfl) (by decide) dX10_matters_7 rfl (kI0 fun vy27 gvy27 hvy27 => ?_)
  rw [h13vy27] at hvy27
  obtain ⟨hrvy27, ⟨Fvy27, hcvy27, htvy27, hFvy27⟩, hfvy27⟩ := hvy27
  rcases (show vy27 = 1 ∨ vy27 = 0 by omega) with rfl | rfl
  · have hxvy27 := hrvy27.2 rfl
    refine z_if_eq (tgt := 42) C dX10_matters_10 (by decide) (by omega) (fun h => absurd h (by omega)) (fun _ => ?_)
    refine z_aload_n C 0 dX10_matters_13 rfl ?_
    refine z_iload_n C 3 dX10_matters_14 rfl ?_
    refine z_iconst (z := 0) C dX10_matters_15 rfl ?_
    refine z_iconst (z := 1) C dX10_matters_16 rfl ?_
    refine z_cS (As := [.int (zI (z2)), .int (zI (0)), .int (zI (1))]) (rest := [.ref (ad i)]) C (c_X10_within l D A cs tt N ad _ (z2) (by omega) (0) (by omega) (1) (by omega)) ms_yX10_within q_1686 hd_yX10_within (by decide) (Nat.le_of_ble_eq_true rfl) (by decide) dX10_matters_17 rfl (kI0 fun vy29 gvy29 hvy29 => ?_)
    obtain ⟨hvy29, rfl⟩ := hvy29
    rcases hvy29 with ⟨rfl, hxvy29⟩ | ⟨rfl, hxvy29⟩
    · refine z_iconst (z := 1) C dX10_matters_20 rfl ?_
      have hey31 : Fvy27 12 = Fvy27 12 := rfl
      refine z_cV (As := [.int (zI (1)), .int (zI (1))]) (rest := []) (ci := 12) C (c_X10_right l D A cs tt N ad _ i hN _ hcvy27 (by omega) (1) (by omega) (1) (by omega)) (lt_A0 hN rfl) hay1 hcvy27 rfl rfl mv_yX10_right q_1648 hd_yX10_right (by decide) (Nat.le_of_ble_eq_true rfl) (by decide) dX10_matters_21 rfl (kI0 fun vy30 gvy30 hvy30 => ?_)
      obtain ⟨hrvy30, ⟨Fvy30, hcvy30, htvy30, hFvy30⟩, hfvy30⟩ := hvy30
      rcases (show vy30 = 1 ∨ vy30 = 0 by omega) with rfl | rfl
      · refine z_if_eq (tgt := 42) C dX10_matters_24 (by decide) (by omega) (fun h => absurd h (by omega)) (fun _ => ?_)
        refine z_aload_n C 0 dX10_matters_27 rfl ?_
        refine z_iload_n C 2 dX10_matters_28 rfl ?_
        refine z_iconst (z := 1) C dX10_matters_29 rfl ?_
        refine z_bipush (z := 48) C dX10_matters_30 (by decide) ?_
        refine z_cS (As := [.int (zI (z1)), .int (zI (1)), .int (zI (48))]) (rest := [.ref (ad i)]) C (c_X10_within l D A cs tt N ad _ (z1) (by omega) (1) (by omega) (48) (by omega)) ms_yX10_within q_1686 hd_yX10_within (by decide) (Nat.le_of_ble_eq_true rfl) (by decide) dX10_matters_32 rfl (kI0 fun vy32 gvy32 hvy32 => ?_)
        obtain ⟨hvy32, rfl⟩ := hvy32
        rcases hvy32 with ⟨rfl, hxvy32⟩ | ⟨rfl, hxvy32⟩
        · refine z_iconst (z := 2) C dX10_matters_35 rfl ?_
          have hey34 : Fvy30 12 = Fvy30 12 := rfl
          refine z_cV (As := [.int (zI (1)), .int (zI (2))]) (rest := []) (ci := 12) C (c_X10_right l D A cs tt N ad _ i hN _ hcvy30 (by omega) (1) (by omega) (2) (by omega)) (lt_A0 hN rfl) hay1 hcvy30 rfl rfl mv_yX10_right q_1648 hd_yX10_right (by decide) (Nat.le_of_ble_eq_true rfl) (by decide) dX10_matters_36 rfl (kI0 fun vy33 gvy33 hvy33 => ?_)
          obtain ⟨hrvy33, ⟨Fvy33, hcvy33, htvy33, hFvy33⟩, hfvy33⟩ := hvy33
          rcases (show vy33 = 1 ∨ vy33 = 0 by omega) with rfl | rfl
          · refine z_if_ne (tgt := 44) C dX10_matters_39 (by decide) (by omega) (fun _ => ?_) (fun h => absurd h (by omega))
            refine z_aload_n C 0 dX10_matters_44 rfl ?_
            refine z_iload_n C 1 dX10_matters_45 rfl ?_
            refine z_iload_n C 2 dX10_matters_46 rfl ?_
            have hgy35 := up_n egy25 ha1 (ne_o (i := i) (c := 1) (d := 0) rfl)
            have hgy36 := (hfvy27 (i + 1) (ne_o (i := i) (c := 1) (d := 0) rfl)).trans hgy35
            have hgy37 := (hfvy30 (i + 1) (ne_o (i := i) (c := 1) (d := 0) rfl)).trans hgy36
            have hgy38 := (hfvy33 (i + 1) (ne_o (i := i) (c := 1) (d := 0) rfl)).trans hgy37
            have hFy39 : ∀ f, f ≠ 12 → Fvy33 f = F f := fun f n12 => ((hFvy33 f n12).trans ((hFvy30 f n12).trans ((hFvy27 f n12).trans ((uZ_n _ _ n12).trans rfl))))
            have hey40 : Fvy33 13 = F 13 := ((hFvy33 13 (by decide)).trans ((hFvy30 13 (by decide)).trans ((hFvy27 13 (by decide)).trans (fn rfl (by decide)))))
            have hey41 : Fvy33 14 = F 14 := ((hFvy33 14 (by decide)).trans ((hFvy30 14 (by decide)).trans ((hFvy27 14 (by decide)).trans (fn rfl (by decide)))))
            have hey42 : Fvy33 15 = F 15 := ((hFvy33 15 (by decide)).trans ((hFvy30 15 (by decide)).trans ((hFvy27 15 (by decide)).trans (fn rfl (by decide)))))
            have hey43 : Fvy33 16 = F 16 := ((hFvy33 16 (by decide)).trans ((hFvy30 16 (by decide)).trans ((hFvy27 16 (by decide)).trans (fn rfl (by decide)))))
            have hey44 : Fvy33 17 = F 17 := ((hFvy33 17 (by decide)).trans ((hFvy30 17 (by decide)).trans ((hFvy27 17 (by decide)).trans (fn rfl (by decide)))))
            have hey45 : Fvy33 18 = F 18 := ((hFvy33 18 (by decide)).trans ((hFvy30 18 (by decide)).trans ((hFvy27 18 (by decide)).trans (fn rfl (by decide)))))
            have hey46 : Fvy33 19 = F 19 := ((hFvy33 19 (by decide)).trans ((hFvy30 19 (by decide)).trans ((hFvy27 19 (by decide)).trans (fn rfl (by decide)))))
            have hey47 : Fvy33 20 = F 20 := ((hFvy33 20 (by decide)).trans ((hFvy30 20 (by decide)).trans ((hFvy27 20 (by decide)).trans (fn rfl (by decide)))))
            have hey48 : Fvy33 21 = F 21 := ((hFvy33 21 (by decide)).trans ((hFvy30 21 (by decide)).trans ((hFvy27 21 (by decide)).trans (fn rfl (by decide)))))
            have hey49 : Fvy33 23 = F 23 := ((hFvy33 23 (by decide)).trans ((hFvy30 23 (by decide)).trans ((hFvy27 23 (by decide)).trans (fn rfl (by decide)))))
            have hey50 : Fvy33 25 = F 25 := ((hFvy33 25 (by decide)).trans ((hFvy30 25 (by decide)).trans ((hFvy27 25 (by decide)).trans (fn rfl (by decide)))))
            have hey51 : Fvy33 27 = F 27 := ((hFvy33 27 (by decide)).trans ((hFvy30 27 (by decide)).trans ((hFvy27 27 (by decide)).trans (fn rfl (by decide)))))
            have hey52 : Fvy33 28 = F 28 := ((hFvy33 28 (by decide)).trans ((hFvy30 28 (by decide)).trans ((hFvy27 28 (by decide)).trans (fn rfl (by decide)))))
            have hey53 : Fvy33 29 = F 29 := ((hFvy33 29 (by decide)).trans ((hFvy30 29 (by decide)).trans ((hFvy27 29 (by decide)).trans (fn rfl (by decide)))))
            have hKy54 : okF Fvy33 := okF.mv hM.2.1 hey40 hey41 hey42 hey43 hey44 hey45 hey46 hey47 hey48 hey49 hey50 hey51 hey52 hey53
            have hMy55 : okMr cs ad gvy33 i (x) Fvy33 r st op ai fa mu tb tp := okMr.upd hM hcvy33 hKy54 (fun f a => hFy39 f (by omega)) hgy38 (hA.mono (by omega)) (fun j a b => by
                exact Or.inl (by rw [hfvy33 _ (by omega)]; rw [hfvy30 _ (by omega)]; rw [hfvy27 _ (by omega)]; rw [egy25, va_up_ne _ _ (by omega)]))
            refine z_cV (As := [.int (zI ((n : Int))), .int (zI (z1))]) (rest := []) (ci := 12) C (c_X10_ratioBehind l D A cs tt N ad _ i hN x hx _ _ hMy55 n (by omega) (z1) (by omega)) (lt_A0 hN rfl) hay1 hcvy33 rfl rfl mv_yX10_ratioBehind q_2019 hd_yX10_ratioBehind (by decide) (Nat.le_of_ble_eq_true rfl) (by decide) dX10_matters_47 rfl (kI0 fun vy56 gvy56 hvy56 => ?_)
            obtain ⟨hrvy56, ⟨Fvy56, rvy56, hMvy56, hFvy56⟩, hfvy56⟩ := hvy56
            have hFy57 : ∀ f, f ≠ 12 → Fvy33 f = F f := fun f n12 => ((hFvy33 f n12).trans ((hFvy30 f n12).trans ((hFvy27 f n12).trans ((uZ_n _ _ n12).trans rfl))))
            have hBvy56 : (∀ f, f ≠ 12 → Fvy56 f = F f) := fun f n12 => (hFvy56 f ).trans (hFy57 f n12)
            have hCvy56 := hBvy56
            have hq13vy56 : Fvy56 13 = F 13 := (hFvy56 13).trans ((hFvy33 13 (by decide)).trans ((hFvy30 13 (by decide)).trans ((hFvy27 13 (by decide)).trans (fn rfl (by decide)))))
            have hq14vy56 : Fvy56 14 = F 14 := (hFvy56 14).trans ((hFvy33 14 (by decide)).trans ((hFvy30 14 (by decide)).trans ((hFvy27 14 (by decide)).trans (fn rfl (by decide)))))
            have hq15vy56 : Fvy56 15 = F 15 := (hFvy56 15).trans ((hFvy33 15 (by decide)).trans ((hFvy30 15 (by decide)).trans ((hFvy27 15 (by decide)).trans (fn rfl (by decide)))))
            have hq17vy56 : Fvy56 17 = F 17 := (hFvy56 17).trans ((hFvy33 17 (by decide)).trans ((hFvy30 17 (by decide)).trans ((hFvy27 17 (by decide)).trans (fn rfl (by decide)))))
            have hq20vy56 : Fvy56 20 = F 20 := (hFvy56 20).trans ((hFvy33 20 (by decide)).trans ((hFvy30 20 (by decide)).trans ((hFvy27 20 (by decide)).trans (fn rfl (by decide)))))
            have hq21vy56 : Fvy56 21 = F 21 := (hFvy56 21).trans ((hFvy33 21 (by decide)).trans ((hFvy30 21 (by decide)).trans ((hFvy27 21 (by decide)).trans (fn rfl (by decide)))))
            have hq23vy56 : Fvy56 23 = F 23 := (hFvy56 23).trans ((hFvy33 23 (by decide)).trans ((hFvy30 23 (by decide)).trans ((hFvy27 23 (by decide)).trans (fn rfl (by decide)))))
            have hq24vy56 : Fvy56 24 = F 24 := (hFvy56 24).trans ((hFvy33 24 (by decide)).trans ((hFvy30 24 (by decide)).trans ((hFvy27 24 (by decide)).trans (fn rfl (by decide)))))
            obtain ⟨hg_y58, ⟨⟨e13_y58, e14_y58, e25_y58, e27_y58, e29_y58⟩, k15_y58, k16_y58, k17_y58, k18_y58, k19_y58, k20_y58, k23_y58, k21_y58⟩, hRD_y58, hTx_y58, hA_y58, ns_y58, nh_y58, nd_y58, rf_y58, pi_y58, te_y58, ki_y58, li_y58, ok1_y58, ok2_y58, fo_y58, dd_y58, dps_y58, ⟨ha1_y58, ha2_y58, ha3_y58, ha4_y58, ha5_y58, ha6_y58, ha7_y58, ha8_y58, ha9_y58, ha10_y58, ha11_y58, ha12_y58, ha13_y58, ha14_y58, ha15_y58, ha24_y58, ha25_y58, ha26_y58, ha27_y58, ha28_y58, ha29_y58⟩, hEv_y58, hPt_y58, hns_y58, htp_y58⟩ := id hMvy56
            obtain ⟨-, hop_y58, hai_y58, hfa_y58, hT_y58, hT1_y58⟩ := id hEv_y58
            have e14 := e14_y58
            have e25 := e25_y58
            have e27 := e27_y58
            have e29 := e29_y58
            have hop := hop_y58
            have hai := hai_y58
            have hfa := hfa_y58
            have hT := hT_y58
            have hT1 := hT1_y58
            have hEv := hEv_y58
            have htp := htp_y58
            have hns := hns_y58
            have hPt := hPt_y58
            obtain ⟨⟨hsyy59, htyy59, hnyy59, hpyy59⟩, hlyy59⟩ := okA.at0 hA_y58
            simp only [Nat.zero_add] at hsyy59 hnyy59 hpyy59
            have hmn : ∀ s, s < 4 → 0 ≤ rvy56 (6 + 86 * s) ∧ rvy56 (6 + 86 * s) ≤ 12 := fun s hs => (hsyy59 s hs).1
            have h5 : 0 ≤ rvy56 5 ∧ rvy56 5 ≤ 6 := hpyy59
            refine z_istore (lv' := [(4, .int (zI (vy56))), (0, .ref (ad i)), (1, .int (zI ((n : Int)))), (2, .int (zI (z1))), (3, .int (zI (z2)))]) C dX10_matters_50 (by decide) rfl ?_
            refine z_iconst (z := -1) C dX10_matters_52 rfl ?_
            refine z_istore (lv' := [(5, .int (zI (-1))), (4, .int (zI (vy56))), (0, .ref (ad i)), (1, .int (zI ((n : Int)))), (2, .int (zI (z1))), (3, .int (zI (z2)))]) C dX10_matters_53 (by decide) rfl ?_
            refine z_iconst (z := 0) C dX10_matters_55 rfl ?_
            refine z_istore (lv' := [(6, .int (zI (0))), (5, .int (zI (-1))), (4, .int (zI (vy56))), (0, .ref (ad i)), (1, .int (zI ((n : Int)))), (2, .int (zI (z1))), (3, .int (zI (z2)))]) C dX10_matters_56 (by decide) rfl ?_
            refine z_iconst (z := 0) C dX10_matters_58 rfl ?_
            refine z_istore (lv' := [(7, .int (zI (0))), (6, .int (zI (0))), (5, .int (zI (-1))), (4, .int (zI (vy56))), (0, .ref (ad i)), (1, .int (zI ((n : Int)))), (2, .int (zI (z1))), (3, .int (zI (z2)))]) C dX10_matters_59 (by decide) rfl ?_
            obtain ⟨al, hal⟩ : ∃ al : Int, al = vy56 := ⟨_, rfl⟩
            rw [← hal]
            have halr : -2147483648 ≤ al ∧ al ≤ 2147483647 := by omega
            have lp1 : ∀ (n9 : Nat) (wh : Int) (mo : Int) (hh : Int) (F9 : Nat → Int) (r9 : Nat → Int) (g1 : Nat → va_E), (25 - hh).toNat = n9 → (okMr cs ad g1 i x F9 r9 st op ai fa mu tb tp) → ((∀ f, f ≠ 12 → f ≠ 26 → F9 f = F f)) → (∀ j, j < i ∨ i + 30 ≤ j → g1 j = g j) → (-2147483648 ≤ wh ∧ wh ≤ 2147483647) → (-2147483648 ≤ mo ∧ mo ≤ 2147483647) → (0 ≤ hh ∧ hh ≤ F 14) → zV pZ l eZ ({ frames := 11, cells := 0, slots := 0, locals := 660 } : Room) sZ mZ ([.ref (ad i), .int (zI ((n : Int))), .int (zI (z1)), .int (zI (z2))] : List Value).toArray below meth cZ (MQ below (zPost D A (rI0 N ad fun q g' => (-2147483648 ≤ q ∧ q ≤ 2147483647) ∧ (∃ F' r' : Nat → Int, okMr cs ad g' i (x + 1) F' r' st op ai fa mu tb tp ∧ (F' 13 = F 13 ∧ F' 14 = F 14 ∧ F' 17 = F 17 ∧ F' 20 = F 20 ∧ F' 21 = F 21 ∧ F' 23 = F 23 ∧ F' 24 = F 24)) ∧ ∀ j, j < i ∨ i + 30 ≤ j → g' j = g j)) ([.ref (ad i), .int (zI ((n : Int))), .int (zI (z1)), .int (zI (z2))] : List Value).toArray sZ ({ frames := 11, cells := 0, slots := 0, locals := 660 } : Room).cells ({ frames := 11, cells := 0, slots := 0, locals := 660 } : Room).slots A) D A 9 (N) ad g1 (0) (0) 61 [(0, .ref (ad i)), (1, .int (zI ((n : Int)))), (2, .int (zI (z1))), (3, .int (zI (z2))), (4, .int (zI (al))), (5, .int (zI (wh))), (6, .int (zI (mo))), (7, .int (zI (hh)))] [] := by
              intro n9
              induction n9 using Nat.strongRecOn with
              | ind n9 ih_lp1 =>
                intro wh mo hh F9 r9 g1 hm9 fM fF f3 hvlp10 hvlp11 hvlp12
                obtain ⟨hg_y60, ⟨⟨e13_y60, e14_y60, e25_y60, e27_y60, e29_y60⟩, k15_y60, k16_y60, k17_y60, k18_y60, k19_y60, k20_y60, k23_y60, k21_y60⟩, hRD_y60, hTx_y60, hA_y60, ns_y60, nh_y60, nd_y60, rf_y60, pi_y60, te_y60, ki_y60, li_y60, ok1_y60, ok2_y60, fo_y60, dd_y60, dps_y60, ⟨ha1_y60, ha2_y60, ha3_y60, ha4_y60, ha5_y60, ha6_y60, ha7_y60, ha8_y60, ha9_y60, ha10_y60, ha11_y60, ha12_y60, ha13_y60, ha14_y60, ha15_y60, ha24_y60, ha25_y60, ha26_y60, ha27_y60, ha28_y60, ha29_y60⟩, hEv_y60, hPt_y60, hns_y60, htp_y60⟩ := id fM
                obtain ⟨-, hop_y60, hai_y60, hfa_y60, hT_y60, hT1_y60⟩ := id hEv_y60
                have e14 := e14_y60
                have e25 := e25_y60
                have e27 := e27_y60
                have e29 := e29_y60
                have hop := hop_y60
                have hai := hai_y60
                have hfa := hfa_y60
                have hT := hT_y60
                have hT1 := hT1_y60
                have hEv := hEv_y60
                have htp := htp_y60
                have hns := hns_y60
                have hPt := hPt_y60
                have hay61 : zAt ad (i) (ad i) := rfl
                have hay62 : zAt ad (i + 1) (ad (i + 1)) := rfl
                have hay63 : zAt ad (i + 2) (ad (i + 2)) := rfl
                have hay64 : zAt ad (i + 3) (ad (i + 3)) := rfl
                have hay65 : zAt ad (i + 4) (ad (i + 4)) := rfl
                have hay66 : zAt ad (i + 5) (ad (i + 5)) := rfl
                have hay67 : zAt ad (i + 6) (ad (i + 6)) := rfl
                have hay68 : zAt ad (i + 7) (ad (i + 7)) := rfl
                have hay69 : zAt ad (i + 8) (ad (i + 8)) := rfl
                have hay70 : zAt ad (i + 9) (ad (i + 9)) := rfl
                have hay71 : zAt ad (i + 10) (ad (i + 10)) := rfl
                have hay72 : zAt ad (i + 11) (ad (i + 11)) := rfl
                have hay73 : zAt ad (i + 12) (ad (i + 12)) := rfl
                have hay74 : zAt ad (i + 13) (ad (i + 13)) := rfl
                have hay75 : zAt ad (i + 14) (ad (i + 14)) := rfl
                have hay76 : zAt ad (i + 15) (ad (i + 15)) := rfl
                have hay77 : zAt ad (i + 24) (ad (i + 24)) := rfl
                have hay78 : zAt ad (i + 25) (ad (i + 25)) := rfl
                have hay79 : zAt ad (i + 26) (ad (i + 26)) := rfl
                have hay80 : zAt ad (i + 27) (ad (i + 27)) := rfl
                have hay81 : zAt ad (i + 28) (ad (i + 28)) := rfl
                have hay82 : zAt ad (i + 29) (ad (i + 29)) := rfl
                obtain ⟨⟨hsyy83, htyy83, hnyy83, hpyy83⟩, hlyy83⟩ := okA.at0 hA_y60
                simp only [Nat.zero_add] at hsyy83 hnyy83 hpyy83
                have hmn : ∀ s, s < 4 → 0 ≤ r9 (6 + 86 * s) ∧ r9 (6 + 86 * s) ≤ 12 := fun s hs => (hsyy83 s hs).1
                have h5 : 0 ≤ r9 5 ∧ r9 5 ≤ 6 := hpyy83
                have h13e : F9 13 = F 13 := fF 13 (by decide) (by decide)
                have h14e : F9 14 = F 14 := fF 14 (by decide) (by decide)
                have h17e : F9 17 = F 17 := fF 17 (by decide) (by decide)
                have h20e : F9 20 = F 20 := fF 20 (by decide) (by decide)
                have h21e : F9 21 = F 21 := fF 21 (by decide) (by decide)
                have h23e : F9 23 = F 23 := fF 23 (by decide) (by decide)
                have h24e : F9 24 = F 24 := fF 24 (by decide) (by decide)
                refine z_iload C 7 dX10_matters_61 rfl ?_
                refine z_aload_n C 0 dX10_matters_63 rfl ?_
                refine z_get (v := .int (zI (F9 14))) C (lt_A0 hN rfl) hay61 hg_y60 rfl inA_X10 14 (by decide) q_1473 rfl (fv (F := F9) (f := 14) rfl) dX10_matters_64 ?_
                refine z_icmp_ge (tgt := 114) C dX10_matters_67 (by decide) (by omega) (by omega) (fun hby84 => ?_) (fun hby84 => ?_)
                · refine z_aload_n C 0 dX10_matters_114 rfl ?_
                  refine z_iconst (z := -1) C dX10_matters_115 rfl ?_
                  refine z_put (fs' := mF ad (i) (uZ F9 26 (-1))) C (lt_A0 hN rfl) hay61 hg_y60 tyX10 tyX10_ok nmX10 rfl inA_X10 26 (by decide) q_1485 rfl rfl rfl rfl (Nat.le_of_ble_eq_true rfl) rfl dX10_matters_116 (fun gy85 egy86 => ?_)
                  have hgy87 := up_s egy86
                  refine z_iload_n C 3 dX10_matters_119 rfl ?_
                  refine z_if_ne (tgt := 128) C dX10_matters_120 (by decide) (by omega) (fun hby88 => ?_) (fun hby88 => ?_)
                  · refine z_iload C 6 dX10_matters_128 rfl ?_
                    have hgy89 := up_n egy86 ha1_y60 (ne_o (i := i) (c := 1) (d := 0) rfl)
                    have hFy90 : ∀ f, f ≠ 26 → (uZ F9 26 (-1)) f = F9 f := fun f n26 => ((uZ_n _ _ n26).trans rfl)
                    have hey91 : (uZ F9 26 (-1)) 13 = F9 13 := (fn rfl (by decide))
                    have hey92 : (uZ F9 26 (-1)) 14 = F9 14 := (fn rfl (by decide))
                    have hey93 : (uZ F9 26 (-1)) 15 = F9 15 := (fn rfl (by decide))
                    have hey94 : (uZ F9 26 (-1)) 16 = F9 16 := (fn rfl (by decide))
                    have hey95 : (uZ F9 26 (-1)) 17 = F9 17 := (fn rfl (by decide))
                    have hey96 : (uZ F9 26 (-1)) 18 = F9 18 := (fn rfl (by decide))
                    have hey97 : (uZ F9 26 (-1)) 19 = F9 19 := (fn rfl (by decide))
                    have hey98 : (uZ F9 26 (-1)) 20 = F9 20 := (fn rfl (by decide))
                    have hey99 : (uZ F9 26 (-1)) 21 = F9 21 := (fn rfl (by decide))
                    have hey100 : (uZ F9 26 (-1)) 23 = F9 23 := (fn rfl (by decide))
                    have hey101 : (uZ F9 26 (-1)) 25 = F9 25 := (fn rfl (by decide))
                    have hey102 : (uZ F9 26 (-1)) 27 = F9 27 := (fn rfl (by decide))
                    have hey103 : (uZ F9 26 (-1)) 28 = F9 28 := (fn rfl (by decide))
                    have hey104 : (uZ F9 26 (-1)) 29 = F9 29 := (fn rfl (by decide))
                    have hKy105 : okF (uZ F9 26 (-1)) := okF.mv fM.2.1 hey91 hey92 hey93 hey94 hey95 hey96 hey97 hey98 hey99 hey100 hey101 hey102 hey103 hey104
                    have hMy106 : okMr cs ad gy85 i (x + 1) (uZ F9 26 (-1)) r9 st op ai fa mu tb tp := okMr.upd fM hgy87 hKy105 (fun f a => hFy90 f (by omega)) hgy89 (hA_y60.mono (by omega)) (fun j a b => by
                        exact Or.inl (by rw [egy86, va_up_ne _ _ (by omega)]))
                    have hkpy107 : (uZ F9 26 (-1)) 13 = F9 13 := (fn rfl (by decide))
                    have hkpy108 : (uZ F9 26 (-1)) 14 = F9 14 := (fn rfl (by decide))
                    have hkpy109 : (uZ F9 26 (-1)) 17 = F9 17 := (fn rfl (by decide))
                    have hkpy110 : (uZ F9 26 (-1)) 20 = F9 20 := (fn rfl (by decide))
                    have hkpy111 : (uZ F9 26 (-1)) 21 = F9 21 := (fn rfl (by decide))
                    have hkpy112 : (uZ F9 26 (-1)) 23 = F9 23 := (fn rfl (by decide))
                    have hkpy113 : (uZ F9 26 (-1)) 24 = F9 24 := (fn rfl (by decide))
                    exact z_iret C hr hlk dX10_matters_130 (by decide) (by decide) ⟨mo, rfl, rfl, rfl, by omega, ⟨_, _, hMy106, ⟨(by omega), (by omega), (by omega), (by omega), (by omega), (by omega), (by omega)⟩⟩, fun j j1 => by rw [egy86, va_up_ne _ _ (by omega)]; exact f3 j j1⟩
                  · refine z_iload C 5 dX10_matters_123 rfl ?_
                    refine z_goto (tgt := 130) C dX10_matters_125 (by decide) ?_
                    have hgy114 := up_n egy86 ha1_y60 (ne_o (i := i) (c := 1) (d := 0) rfl)
                    have hFy115 : ∀ f, f ≠ 26 → (uZ F9 26 (-1)) f = F9 f := fun f n26 => ((uZ_n _ _ n26).trans rfl)
                    have hey116 : (uZ F9 26 (-1)) 13 = F9 13 := (fn rfl (by decide))
                    have hey117 : (uZ F9 26 (-1)) 14 = F9 14 := (fn rfl (by decide))
                    have hey118 : (uZ F9 26 (-1)) 15 = F9 15 := (fn rfl (by decide))
                    have hey119 : (uZ F9 26 (-1)) 16 = F9 16 := (fn rfl (by decide))
                    have hey120 : (uZ F9 26 (-1)) 17 = F9 17 := (fn rfl (by decide))
                    have hey121 : (uZ F9 26 (-1)) 18 = F9 18 := (fn rfl (by decide))
                    have hey122 : (uZ F9 26 (-1)) 19 = F9 19 := (fn rfl (by decide))
                    have hey123 : (uZ F9 26 (-1)) 20 = F9 20 := (fn rfl (by decide))
                    have hey124 : (uZ F9 26 (-1)) 21 = F9 21 := (fn rfl (by decide))
                    have hey125 : (uZ F9 26 (-1)) 23 = F9 23 := (fn rfl (by decide))
                    have hey126 : (uZ F9 26 (-1)) 25 = F9 25 := (fn rfl (by decide))
                    have hey127 : (uZ F9 26 (-1)) 27 = F9 27 := (fn rfl (by decide))
                    have hey128 : (uZ F9 26 (-1)) 28 = F9 28 := (fn rfl (by decide))
                    have hey129 : (uZ F9 26 (-1)) 29 = F9 29 := (fn rfl (by decide))
                    have hKy130 : okF (uZ F9 26 (-1)) := okF.mv fM.2.1 hey116 hey117 hey118 hey119 hey120 hey121 hey122 hey123 hey124 hey125 hey126 hey127 hey128 hey129
                    have hMy131 : okMr cs ad gy85 i (x + 1) (uZ F9 26 (-1)) r9 st op ai fa mu tb tp := okMr.upd fM hgy87 hKy130 (fun f a => hFy115 f (by omega)) hgy114 (hA_y60.mono (by omega)) (fun j a b => by
                        exact Or.inl (by rw [egy86, va_up_ne _ _ (by omega)]))
                    have hkpy132 : (uZ F9 26 (-1)) 13 = F9 13 := (fn rfl (by decide))
                    have hkpy133 : (uZ F9 26 (-1)) 14 = F9 14 := (fn rfl (by decide))
                    have hkpy134 : (uZ F9 26 (-1)) 17 = F9 17 := (fn rfl (by decide))
                    have hkpy135 : (uZ F9 26 (-1)) 20 = F9 20 := (fn rfl (by decide))
                    have hkpy136 : (uZ F9 26 (-1)) 21 = F9 21 := (fn rfl (by decide))
                    have hkpy137 : (uZ F9 26 (-1)) 23 = F9 23 := (fn rfl (by decide))
                    have hkpy138 : (uZ F9 26 (-1)) 24 = F9 24 := (fn rfl (by decide))
                    exact z_iret C hr hlk dX10_matters_130 (by decide) (by decide) ⟨wh, rfl, rfl, rfl, by omega, ⟨_, _, hMy131, ⟨(by omega), (by omega), (by omega), (by omega), (by omega), (by omega), (by omega)⟩⟩, fun j j1 => by rw [egy86, va_up_ne _ _ (by omega)]; exact f3 j j1⟩
                · refine z_aload_n C 0 dX10_matters_70 rfl ?_
                  refine z_iload C 7 dX10_matters_71 rfl ?_
                  refine z_put (fs' := mF ad (i) (uZ F9 26 (hh))) C (lt_A0 hN rfl) hay61 hg_y60 tyX10 tyX10_ok nmX10 rfl inA_X10 26 (by decide) q_1485 rfl rfl rfl rfl (Nat.le_of_ble_eq_true rfl) rfl dX10_matters_73 (fun gy139 egy140 => ?_)
                  have hgy141 := up_s egy140
                  refine z_aload_n C 0 dX10_matters_76 rfl ?_
                  refine z_iload_n C 1 dX10_matters_77 rfl ?_
                  refine z_iload_n C 2 dX10_matters_78 rfl ?_
                  have hgy142 := up_n egy140 ha1_y60 (ne_o (i := i) (c := 1) (d := 0) rfl)
                  have hFy143 : ∀ f, f ≠ 26 → (uZ F9 26 (hh)) f = F9 f := fun f n26 => ((uZ_n _ _ n26).trans rfl)
                  have hey144 : (uZ F9 26 (hh)) 13 = F9 13 := (fn rfl (by decide))
                  have hey145 : (uZ F9 26 (hh)) 14 = F9 14 := (fn rfl (by decide))
                  have hey146 : (uZ F9 26 (hh)) 15 = F9 15 := (fn rfl (by decide))
                  have hey147 : (uZ F9 26 (hh)) 16 = F9 16 := (fn rfl (by decide))
                  have hey148 : (uZ F9 26 (hh)) 17 = F9 17 := (fn rfl (by decide))
                  have hey149 : (uZ F9 26 (hh)) 18 = F9 18 := (fn rfl (by decide))
                  have hey150 : (uZ F9 26 (hh)) 19 = F9 19 := (fn rfl (by decide))
                  have hey151 : (uZ F9 26 (hh)) 20 = F9 20 := (fn rfl (by decide))
                  have hey152 : (uZ F9 26 (hh)) 21 = F9 21 := (fn rfl (by decide))
                  have hey153 : (uZ F9 26 (hh)) 23 = F9 23 := (fn rfl (by decide))
                  have hey154 : (uZ F9 26 (hh)) 25 = F9 25 := (fn rfl (by decide))
                  have hey155 : (uZ F9 26 (hh)) 27 = F9 27 := (fn rfl (by decide))
                  have hey156 : (uZ F9 26 (hh)) 28 = F9 28 := (fn rfl (by decide))
                  have hey157 : (uZ F9 26 (hh)) 29 = F9 29 := (fn rfl (by decide))
                  have hKy158 : okF (uZ F9 26 (hh)) := okF.mv fM.2.1 hey144 hey145 hey146 hey147 hey148 hey149 hey150 hey151 hey152 hey153 hey154 hey155 hey156 hey157
                  have hMy159 : okMr cs ad gy139 i (x) (uZ F9 26 (hh)) r9 st op ai fa mu tb tp := okMr.upd fM hgy141 hKy158 (fun f a => hFy143 f (by omega)) hgy142 (hA_y60.mono (by omega)) (fun j a b => by
                      exact Or.inl (by rw [egy140, va_up_ne _ _ (by omega)]))
                  refine z_cV (As := [.int (zI ((n : Int))), .int (zI (z1))]) (rest := []) (ci := 12) C (c_X10_ratioBehind l D A cs tt N ad _ i hN x hx _ _ hMy159 n (by omega) (z1) (by omega)) (lt_A0 hN rfl) hay61 hgy141 rfl rfl mv_yX10_ratioBehind q_2019 hd_yX10_ratioBehind (by decide) (Nat.le_of_ble_eq_true rfl) (by decide) dX10_matters_79 rfl (kI0 fun vy160 gvy160 hvy160 => ?_)
                  obtain ⟨hrvy160, ⟨Fvy160, rvy160, hMvy160, hFvy160⟩, hfvy160⟩ := hvy160
                  have hFy161 : ∀ f, f ≠ 26 → (uZ F9 26 (hh)) f = F9 f := fun f n26 => ((uZ_n _ _ n26).trans rfl)
                  have hBvy160 : (∀ f, f ≠ 26 → Fvy160 f = F9 f) := fun f n26 => (hFvy160 f ).trans (hFy161 f n26)
                  have hCvy160 : (∀ f, f ≠ 12 → f ≠ 26 → Fvy160 f = F f) := fun f n12 n26 => (hBvy160 f n26).trans (fF f n12 n26)
                  have hq13vy160 : Fvy160 13 = F9 13 := (hFvy160 13).trans (fn rfl (by decide))
                  have hq14vy160 : Fvy160 14 = F9 14 := (hFvy160 14).trans (fn rfl (by decide))
                  have hq15vy160 : Fvy160 15 = F9 15 := (hFvy160 15).trans (fn rfl (by decide))
                  have hq17vy160 : Fvy160 17 = F9 17 := (hFvy160 17).trans (fn rfl (by decide))
                  have hq20vy160 : Fvy160 20 = F9 20 := (hFvy160 20).trans (fn rfl (by decide))
                  have hq21vy160 : Fvy160 21 = F9 21 := (hFvy160 21).trans (fn rfl (by decide))
                  have hq23vy160 : Fvy160 23 = F9 23 := (hFvy160 23).trans (fn rfl (by decide))
                  have hq24vy160 : Fvy160 24 = F9 24 := (hFvy160 24).trans (fn rfl (by decide))
                  obtain ⟨hg_y162, ⟨⟨e13_y162, e14_y162, e25_y162, e27_y162, e29_y162⟩, k15_y162, k16_y162, k17_y162, k18_y162, k19_y162, k20_y162, k23_y162, k21_y162⟩, hRD_y162, hTx_y162, hA_y162, ns_y162, nh_y162, nd_y162, rf_y162, pi_y162, te_y162, ki_y162, li_y162, ok1_y162, ok2_y162, fo_y162, dd_y162, dps_y162, ⟨ha1_y162, ha2_y162, ha3_y162, ha4_y162, ha5_y162, ha6_y162, ha7_y162, ha8_y162, ha9_y162, ha10_y162, ha11_y162, ha12_y162, ha13_y162, ha14_y162, ha15_y162, ha24_y162, ha25_y162, ha26_y162, ha27_y162, ha28_y162, ha29_y162⟩, hEv_y162, hPt_y162, hns_y162, htp_y162⟩ := id hMvy160
                  obtain ⟨-, hop_y162, hai_y162, hfa_y162, hT_y162, hT1_y162⟩ := id hEv_y162
                  have e14 := e14_y162
                  have e25 := e25_y162
                  have e27 := e27_y162
                  have e29 := e29_y162
                  have hop := hop_y162
                  have hai := hai_y162
                  have hfa := hfa_y162
                  have hT := hT_y162
                  have hT1 := hT1_y162
                  have hEv := hEv_y162
                  have htp := htp_y162
                  have hns := hns_y162
                  have hPt := hPt_y162
                  obtain ⟨⟨hsyy163, htyy163, hnyy163, hpyy163⟩, hlyy163⟩ := okA.at0 hA_y162
                  simp only [Nat.zero_add] at hsyy163 hnyy163 hpyy163
                  have hmn : ∀ s, s < 4 → 0 ≤ rvy160 (6 + 86 * s) ∧ rvy160 (6 + 86 * s) ≤ 12 := fun s hs => (hsyy163 s hs).1
                  have h5 : 0 ≤ rvy160 5 ∧ rvy160 5 ≤ 6 := hpyy163
                  refine z_iload C 4 dX10_matters_82 rfl ?_
                  refine z_isub C dX10_matters_84 ?_
                  obtain ⟨xy164, exy165, hxy166⟩ := zI_of (zI (vy160 - al))
                  rw [exy165]
                  refine z_cS (As := [.int (zI (xy164))]) (rest := []) C (c_X10_span l D A cs tt N ad _ (xy164) (by omega)) ms_yX10_span q_1839 hd_yX10_span (by decide) (Nat.le_of_ble_eq_true rfl) (by decide) dX10_matters_85 rfl (kI0 fun vy167 gvy167 hvy167 => ?_)
                  obtain ⟨hvy167, rfl⟩ := hvy167
                  refine z_istore (lv' := [(8, .int (zI (vy167))), (0, .ref (ad i)), (1, .int (zI ((n : Int)))), (2, .int (zI (z1))), (3, .int (zI (z2))), (4, .int (zI (al))), (5, .int (zI (wh))), (6, .int (zI (mo))), (7, .int (zI (hh)))]) C dX10_matters_88 (by decide) rfl ?_
                  refine z_iload C 0 dX10_matters_90 rfl ?_
                  refine z_iload C 7 dX10_matters_92 rfl ?_
                  refine z_icmp_gt (tgt := 100) C dX10_matters_94 (by decide) (by omega) (by omega) (fun hby168 => ?_) (fun hby168 => ?_)
                  · refine z_iload C 8 dX10_matters_100 rfl ?_
                    refine z_istore (lv' := [(5, .int (zI (hh))), (8, .int (zI (vy167))), (0, .ref (ad i)), (1, .int (zI ((n : Int)))), (2, .int (zI (z1))), (3, .int (zI (z2))), (4, .int (zI (al))), (6, .int (zI (mo))), (7, .int (zI (hh)))]) C dX10_matters_102 (by decide) rfl ?_
                    refine z_iload C 1 dX10_matters_104 rfl ?_
                    refine z_istore (lv' := [(6, .int (zI (vy167))), (5, .int (zI (hh))), (8, .int (zI (vy167))), (0, .ref (ad i)), (1, .int (zI ((n : Int)))), (2, .int (zI (z1))), (3, .int (zI (z2))), (4, .int (zI (al))), (7, .int (zI (hh)))]) C dX10_matters_106 (by decide) rfl ?_
                    refine z_iinc (z := hh + 1) (lv' := [(7, .int (zI (hh + 1))), (6, .int (zI (vy167))), (5, .int (zI (hh))), (8, .int (zI (vy167))), (0, .ref (ad i)), (1, .int (zI ((n : Int)))), (2, .int (zI (z1))), (3, .int (zI (z2))), (4, .int (zI (al)))]) (j := 8) C dX10_matters_108 rfl rfl (by decide) rfl ?_
                    refine z_goto (tgt := 61) C dX10_matters_111 (by decide) ?_
                    have hMy169 : okMr cs ad gvy160 i (x) Fvy160 rvy160 st op ai fa mu tb tp := okMr.upd hMvy160 hg_y162 hMvy160.2.1 (fun f _ => rfl) ha1_y162 (hA_y162.mono (by omega)) (fun j a b => by
                        exact Or.inl (by rfl))
                    have hFF : (∀ f, f ≠ 12 → f ≠ 26 → Fvy160 f = F f) := fun f n12 n26 => hCvy160 f n12 n26
                    have hey170 : Fvy160 13 = F9 13 := hq13vy160
                    have hey171 : Fvy160 14 = F9 14 := hq14vy160
                    refine z_lv (lv' := [(0, .ref (ad i)), (1, .int (zI ((n : Int)))), (2, .int (zI (z1))), (3, .int (zI (z2))), (4, .int (zI (al))), (5, .int (zI (hh))), (6, .int (zI (vy167))), (7, .int (zI (hh + 1)))]) [4, 5, 6, 7, 8, 2, 1, 0] rfl ?_
                    exact ih_lp1 _ (by omega) (hh) (vy167) (hh + 1) _ _ gvy160 rfl hMy169 hFF (fun j j1 => by rw [hfvy160 _ (by omega)]; rw [egy140, va_up_ne _ _ (by omega)]; exact f3 j j1) (by omega) (by omega) (by omega)
                  · refine z_goto (tgt := 108) C dX10_matters_97 (by decide) ?_
                    refine z_iinc (z := hh + 1) (lv' := [(7, .int (zI (hh + 1))), (8, .int (zI (vy167))), (0, .ref (ad i)), (1, .int (zI ((n : Int)))), (2, .int (zI (z1))), (3, .int (zI (z2))), (4, .int (zI (al))), (5, .int (zI (wh))), (6, .int (zI (mo)))]) (j := 8) C dX10_matters_108 rfl rfl (by decide) rfl ?_
                    refine z_goto (tgt := 61) C dX10_matters_111 (by decide) ?_
                    have hMy172 : okMr cs ad gvy160 i (x) Fvy160 rvy160 st op ai fa mu tb tp := okMr.upd hMvy160 hg_y162 hMvy160.2.1 (fun f _ => rfl) ha1_y162 (hA_y162.mono (by omega)) (fun j a b => by
                        exact Or.inl (by rfl))
                    have hFF : (∀ f, f ≠ 12 → f ≠ 26 → Fvy160 f = F f) := fun f n12 n26 => hCvy160 f n12 n26
                    have hey173 : Fvy160 13 = F9 13 := hq13vy160
                    have hey174 : Fvy160 14 = F9 14 := hq14vy160
                    refine z_lv (lv' := [(0, .ref (ad i)), (1, .int (zI ((n : Int)))), (2, .int (zI (z1))), (3, .int (zI (z2))), (4, .int (zI (al))), (5, .int (zI (wh))), (6, .int (zI (mo))), (7, .int (zI (hh + 1)))]) [2, 3, 4, 5, 6, 7, 8, 0] rfl ?_
                    exact ih_lp1 _ (by omega) (wh) (mo) (hh + 1) _ _ gvy160 rfl hMy172 hFF (fun j j1 => by rw [hfvy160 _ (by omega)]; rw [egy140, va_up_ne _ _ (by omega)]; exact f3 j j1) (by omega) (by omega) (by omega)
            have hMy175 : okMr cs ad gvy56 i (x) Fvy56 rvy56 st op ai fa mu tb tp := okMr.upd hMvy56 hg_y58 hMvy56.2.1 (fun f _ => rfl) ha1_y58 (hA_y58.mono (by omega)) (fun j a b => by
                exact Or.inl (by rfl))
            have hFF : (∀ f, f ≠ 12 → f ≠ 26 → Fvy56 f = F f) := fun f n12 n26 => hCvy56 f n12
            have hey176 : Fvy56 13 = F 13 := hq13vy56
            have hey177 : Fvy56 14 = F 14 := hq14vy56
            refine z_lv (lv' := [(0, .ref (ad i)), (1, .int (zI ((n : Int)))), (2, .int (zI (z1))), (3, .int (zI (z2))), (4, .int (zI (al))), (5, .int (zI (-1))), (6, .int (zI (0))), (7, .int (zI (0)))]) [4, 5, 6, 7, 3, 2, 1, 0] rfl ?_
            exact lp1 _ (-1) (0) (0) _ _ gvy56 rfl hMy175 hFF (fun j j1 => by rw [hfvy56 _ (by omega)]; rw [hfvy33 _ (by omega)]; rw [hfvy30 _ (by omega)]; rw [hfvy27 _ (by omega)]; rw [egy25, va_up_ne _ _ (by omega)]) (by omega) (by omega) (by omega)
          · refine z_if_ne (tgt := 44) C dX10_matters_39 (by decide) (by omega) (fun h => absurd h (by omega)) (fun _ => ?_)
            refine z_iconst (z := 0) C dX10_matters_42 rfl ?_
            have hgy178 := up_n egy25 ha1 (ne_o (i := i) (c := 1) (d := 0) rfl)
            have hgy179 := (hfvy27 (i + 1) (ne_o (i := i) (c := 1) (d := 0) rfl)).trans hgy178
            have hgy180 := (hfvy30 (i + 1) (ne_o (i := i) (c := 1) (d := 0) rfl)).trans hgy179
            have hgy181 := (hfvy33 (i + 1) (ne_o (i := i) (c := 1) (d := 0) rfl)).trans hgy180
            have hFy182 : ∀ f, f ≠ 12 → Fvy33 f = F f := fun f n12 => ((hFvy33 f n12).trans ((hFvy30 f n12).trans ((hFvy27 f n12).trans ((uZ_n _ _ n12).trans rfl))))
            have hey183 : Fvy33 13 = F 13 := ((hFvy33 13 (by decide)).trans ((hFvy30 13 (by decide)).trans ((hFvy27 13 (by decide)).trans (fn rfl (by decide)))))
            have hey184 : Fvy33 14 = F 14 := ((hFvy33 14 (by decide)).trans ((hFvy30 14 (by decide)).trans ((hFvy27 14 (by decide)).trans (fn rfl (by decide)))))
            have hey185 : Fvy33 15 = F 15 := ((hFvy33 15 (by decide)).trans ((hFvy30 15 (by decide)).trans ((hFvy27 15 (by decide)).trans (fn rfl (by decide)))))
            have hey186 : Fvy33 16 = F 16 := ((hFvy33 16 (by decide)).trans ((hFvy30 16 (by decide)).trans ((hFvy27 16 (by decide)).trans (fn rfl (by decide)))))
            have hey187 : Fvy33 17 = F 17 := ((hFvy33 17 (by decide)).trans ((hFvy30 17 (by decide)).trans ((hFvy27 17 (by decide)).trans (fn rfl (by decide)))))
            have hey188 : Fvy33 18 = F 18 := ((hFvy33 18 (by decide)).trans ((hFvy30 18 (by decide)).trans ((hFvy27 18 (by decide)).trans (fn rfl (by decide)))))
            have hey189 : Fvy33 19 = F 19 := ((hFvy33 19 (by decide)).trans ((hFvy30 19 (by decide)).trans ((hFvy27 19 (by decide)).trans (fn rfl (by decide)))))
            have hey190 : Fvy33 20 = F 20 := ((hFvy33 20 (by decide)).trans ((hFvy30 20 (by decide)).trans ((hFvy27 20 (by decide)).trans (fn rfl (by decide)))))
            have hey191 : Fvy33 21 = F 21 := ((hFvy33 21 (by decide)).trans ((hFvy30 21 (by decide)).trans ((hFvy27 21 (by decide)).trans (fn rfl (by decide)))))
            have hey192 : Fvy33 23 = F 23 := ((hFvy33 23 (by decide)).trans ((hFvy30 23 (by decide)).trans ((hFvy27 23 (by decide)).trans (fn rfl (by decide)))))
            have hey193 : Fvy33 25 = F 25 := ((hFvy33 25 (by decide)).trans ((hFvy30 25 (by decide)).trans ((hFvy27 25 (by decide)).trans (fn rfl (by decide)))))
            have hey194 : Fvy33 27 = F 27 := ((hFvy33 27 (by decide)).trans ((hFvy30 27 (by decide)).trans ((hFvy27 27 (by decide)).trans (fn rfl (by decide)))))
            have hey195 : Fvy33 28 = F 28 := ((hFvy33 28 (by decide)).trans ((hFvy30 28 (by decide)).trans ((hFvy27 28 (by decide)).trans (fn rfl (by decide)))))
            have hey196 : Fvy33 29 = F 29 := ((hFvy33 29 (by decide)).trans ((hFvy30 29 (by decide)).trans ((hFvy27 29 (by decide)).trans (fn rfl (by decide)))))
            have hKy197 : okF Fvy33 := okF.mv hM.2.1 hey183 hey184 hey185 hey186 hey187 hey188 hey189 hey190 hey191 hey192 hey193 hey194 hey195 hey196
            have hMy198 : okMr cs ad gvy33 i (x + 1) Fvy33 r st op ai fa mu tb tp := okMr.upd hM hcvy33 hKy197 (fun f a => hFy182 f (by omega)) hgy181 (hA.mono (by omega)) (fun j a b => by
                exact Or.inl (by rw [hfvy33 _ (by omega)]; rw [hfvy30 _ (by omega)]; rw [hfvy27 _ (by omega)]; rw [egy25, va_up_ne _ _ (by omega)]))
            have hkpy199 : Fvy33 13 = F 13 := ((hFvy33 13 (by decide)).trans ((hFvy30 13 (by decide)).trans ((hFvy27 13 (by decide)).trans (fn rfl (by decide)))))
            have hkpy200 : Fvy33 14 = F 14 := ((hFvy33 14 (by decide)).trans ((hFvy30 14 (by decide)).trans ((hFvy27 14 (by decide)).trans (fn rfl (by decide)))))
            have hkpy201 : Fvy33 17 = F 17 := ((hFvy33 17 (by decide)).trans ((hFvy30 17 (by decide)).trans ((hFvy27 17 (by decide)).trans (fn rfl (by decide)))))
            have hkpy202 : Fvy33 20 = F 20 := ((hFvy33 20 (by decide)).trans ((hFvy30 20 (by decide)).trans ((hFvy27 20 (by decide)).trans (fn rfl (by decide)))))
            have hkpy203 : Fvy33 21 = F 21 := ((hFvy33 21 (by decide)).trans ((hFvy30 21 (by decide)).trans ((hFvy27 21 (by decide)).trans (fn rfl (by decide)))))
            have hkpy204 : Fvy33 23 = F 23 := ((hFvy33 23 (by decide)).trans ((hFvy30 23 (by decide)).trans ((hFvy27 23 (by decide)).trans (fn rfl (by decide)))))
            have hkpy205 : Fvy33 24 = F 24 := ((hFvy33 24 (by decide)).trans ((hFvy30 24 (by decide)).trans ((hFvy27 24 (by decide)).trans (fn rfl (by decide)))))
            exact z_iret C hr hlk dX10_matters_43 (by decide) (by decide) ⟨0, rfl, rfl, rfl, by omega, ⟨_, _, hMy198, ⟨hkpy199, hkpy200, hkpy201, hkpy202, hkpy203, hkpy204, hkpy205⟩⟩, fun j j1 => by rw [hfvy33 _ (by omega)]; rw [hfvy30 _ (by omega)]; rw [hfvy27 _ (by omega)]; rw [egy25, va_up_ne _ _ (by omega)]⟩
        · refine z_iconst (z := 2) C dX10_matters_35 rfl ?_
          have hey207 : Fvy30 12 = Fvy30 12 := rfl
          refine z_cV (As := [.int (zI (0)), .int (zI (2))]) (rest := []) (ci := 12) C (c_X10_right l D A cs tt N ad _ i hN _ hcvy30 (by omega) (0) (by omega) (2) (by omega)) (lt_A0 hN rfl) hay1 hcvy30 rfl rfl mv_yX10_right q_1648 hd_yX10_right (by decide) (Nat.le_of_ble_eq_true rfl) (by decide) dX10_matters_36 rfl (kI0 fun vy206 gvy206 hvy206 => ?_)
          obtain ⟨hrvy206, ⟨Fvy206, hcvy206, htvy206, hFvy206⟩, hfvy206⟩ := hvy206
          obtain rfl : vy206 = 0 := by omega
          refine z_if_ne (tgt := 44) C dX10_matters_39 (by decide) (by omega) (fun h => absurd h (by omega)) (fun _ => ?_)
          refine z_iconst (z := 0) C dX10_matters_42 rfl ?_
          have hgy208 := up_n egy25 ha1 (ne_o (i := i) (c := 1) (d := 0) rfl)
          have hgy209 := (hfvy27 (i + 1) (ne_o (i := i) (c := 1) (d := 0) rfl)).trans hgy208
          have hgy210 := (hfvy30 (i + 1) (ne_o (i := i) (c := 1) (d := 0) rfl)).trans hgy209
          have hgy211 := (hfvy206 (i + 1) (ne_o (i := i) (c := 1) (d := 0) rfl)).trans hgy210
          have hFy212 : ∀ f, f ≠ 12 → Fvy206 f = F f := fun f n12 => ((hFvy206 f n12).trans ((hFvy30 f n12).trans ((hFvy27 f n12).trans ((uZ_n _ _ n12).trans rfl))))
          have hey213 : Fvy206 13 = F 13 := ((hFvy206 13 (by decide)).trans ((hFvy30 13 (by decide)).trans ((hFvy27 13 (by decide)).trans (fn rfl (by decide)))))
          have hey214 : Fvy206 14 = F 14 := ((hFvy206 14 (by decide)).trans ((hFvy30 14 (by decide)).trans ((hFvy27 14 (by decide)).trans (fn rfl (by decide)))))
          have hey215 : Fvy206 15 = F 15 := ((hFvy206 15 (by decide)).trans ((hFvy30 15 (by decide)).trans ((hFvy27 15 (by decide)).trans (fn rfl (by decide)))))
          have hey216 : Fvy206 16 = F 16 := ((hFvy206 16 (by decide)).trans ((hFvy30 16 (by decide)).trans ((hFvy27 16 (by decide)).trans (fn rfl (by decide)))))
          have hey217 : Fvy206 17 = F 17 := ((hFvy206 17 (by decide)).trans ((hFvy30 17 (by decide)).trans ((hFvy27 17 (by decide)).trans (fn rfl (by decide)))))
          have hey218 : Fvy206 18 = F 18 := ((hFvy206 18 (by decide)).trans ((hFvy30 18 (by decide)).trans ((hFvy27 18 (by decide)).trans (fn rfl (by decide)))))
          have hey219 : Fvy206 19 = F 19 := ((hFvy206 19 (by decide)).trans ((hFvy30 19 (by decide)).trans ((hFvy27 19 (by decide)).trans (fn rfl (by decide)))))
          have hey220 : Fvy206 20 = F 20 := ((hFvy206 20 (by decide)).trans ((hFvy30 20 (by decide)).trans ((hFvy27 20 (by decide)).trans (fn rfl (by decide)))))
          have hey221 : Fvy206 21 = F 21 := ((hFvy206 21 (by decide)).trans ((hFvy30 21 (by decide)).trans ((hFvy27 21 (by decide)).trans (fn rfl (by decide)))))
          have hey222 : Fvy206 23 = F 23 := ((hFvy206 23 (by decide)).trans ((hFvy30 23 (by decide)).trans ((hFvy27 23 (by decide)).trans (fn rfl (by decide)))))
          have hey223 : Fvy206 25 = F 25 := ((hFvy206 25 (by decide)).trans ((hFvy30 25 (by decide)).trans ((hFvy27 25 (by decide)).trans (fn rfl (by decide)))))
          have hey224 : Fvy206 27 = F 27 := ((hFvy206 27 (by decide)).trans ((hFvy30 27 (by decide)).trans ((hFvy27 27 (by decide)).trans (fn rfl (by decide)))))
          have hey225 : Fvy206 28 = F 28 := ((hFvy206 28 (by decide)).trans ((hFvy30 28 (by decide)).trans ((hFvy27 28 (by decide)).trans (fn rfl (by decide)))))
          have hey226 : Fvy206 29 = F 29 := ((hFvy206 29 (by decide)).trans ((hFvy30 29 (by decide)).trans ((hFvy27 29 (by decide)).trans (fn rfl (by decide)))))
          have hKy227 : okF Fvy206 := okF.mv hM.2.1 hey213 hey214 hey215 hey216 hey217 hey218 hey219 hey220 hey221 hey222 hey223 hey224 hey225 hey226
          have hMy228 : okMr cs ad gvy206 i (x + 1) Fvy206 r st op ai fa mu tb tp := okMr.upd hM hcvy206 hKy227 (fun f a => hFy212 f (by omega)) hgy211 (hA.mono (by omega)) (fun j a b => by
              exact Or.inl (by rw [hfvy206 _ (by omega)]; rw [hfvy30 _ (by omega)]; rw [hfvy27 _ (by omega)]; rw [egy25, va_up_ne _ _ (by omega)]))
          have hkpy229 : Fvy206 13 = F 13 := ((hFvy206 13 (by decide)).trans ((hFvy30 13 (by decide)).trans ((hFvy27 13 (by decide)).trans (fn rfl (by decide)))))
          have hkpy230 : Fvy206 14 = F 14 := ((hFvy206 14 (by decide)).trans ((hFvy30 14 (by decide)).trans ((hFvy27 14 (by decide)).trans (fn rfl (by decide)))))
          have hkpy231 : Fvy206 17 = F 17 := ((hFvy206 17 (by decide)).trans ((hFvy30 17 (by decide)).trans ((hFvy27 17 (by decide)).trans (fn rfl (by decide)))))
          have hkpy232 : Fvy206 20 = F 20 := ((hFvy206 20 (by decide)).trans ((hFvy30 20 (by decide)).trans ((hFvy27 20 (by decide)).trans (fn rfl (by decide)))))
          have hkpy233 : Fvy206 21 = F 21 := ((hFvy206 21 (by decide)).trans ((hFvy30 21 (by decide)).trans ((hFvy27 21 (by decide)).trans (fn rfl (by decide)))))
          have hkpy234 : Fvy206 23 = F 23 := ((hFvy206 23 (by decide)).trans ((hFvy30 23 (by decide)).trans ((hFvy27 23 (by decide)).trans (fn rfl (by decide)))))
          have hkpy235 : Fvy206 24 = F 24 := ((hFvy206 24 (by decide)).trans ((hFvy30 24 (by decide)).trans ((hFvy27 24 (by decide)).trans (fn rfl (by decide)))))
          exact z_iret C hr hlk dX10_matters_43 (by decide) (by decide) ⟨0, rfl, rfl, rfl, by omega, ⟨_, _, hMy228, ⟨hkpy229, hkpy230, hkpy231, hkpy232, hkpy233, hkpy234, hkpy235⟩⟩, fun j j1 => by rw [hfvy206 _ (by omega)]; rw [hfvy30 _ (by omega)]; rw [hfvy27 _ (by omega)]; rw [egy25, va_up_ne _ _ (by omega)]⟩
      · refine z_if_eq (tgt := 42) C dX10_matters_24 (by decide) (by omega) (fun _ => ?_) (fun h => absurd h (by omega))
        refine z_iconst (z := 0) C dX10_matters_42 rfl ?_
        have hgy236 := up_n egy25 ha1 (ne_o (i := i) (c := 1) (d := 0) rfl)
        have hgy237 := (hfvy27 (i + 1) (ne_o (i := i) (c := 1) (d := 0) rfl)).trans hgy236
        have hgy238 := (hfvy30 (i + 1) (ne_o (i := i) (c := 1) (d := 0) rfl)).trans hgy237
        have hFy239 : ∀ f, f ≠ 12 → Fvy30 f = F f := fun f n12 => ((hFvy30 f n12).trans ((hFvy27 f n12).trans ((uZ_n _ _ n12).trans rfl)))
        have hey240 : Fvy30 13 = F 13 := ((hFvy30 13 (by decide)).trans ((hFvy27 13 (by decide)).trans (fn rfl (by decide))))
        have hey241 : Fvy30 14 = F 14 := ((hFvy30 14 (by decide)).trans ((hFvy27 14 (by decide)).trans (fn rfl (by decide))))
        have hey242 : Fvy30 15 = F 15 := ((hFvy30 15 (by decide)).trans ((hFvy27 15 (by decide)).trans (fn rfl (by decide))))
        have hey243 : Fvy30 16 = F 16 := ((hFvy30 16 (by decide)).trans ((hFvy27 16 (by decide)).trans (fn rfl (by decide))))
        have hey244 : Fvy30 17 = F 17 := ((hFvy30 17 (by decide)).trans ((hFvy27 17 (by decide)).trans (fn rfl (by decide))))
        have hey245 : Fvy30 18 = F 18 := ((hFvy30 18 (by decide)).trans ((hFvy27 18 (by decide)).trans (fn rfl (by decide))))
        have hey246 : Fvy30 19 = F 19 := ((hFvy30 19 (by decide)).trans ((hFvy27 19 (by decide)).trans (fn rfl (by decide))))
        have hey247 : Fvy30 20 = F 20 := ((hFvy30 20 (by decide)).trans ((hFvy27 20 (by decide)).trans (fn rfl (by decide))))
        have hey248 : Fvy30 21 = F 21 := ((hFvy30 21 (by decide)).trans ((hFvy27 21 (by decide)).trans (fn rfl (by decide))))
        have hey249 : Fvy30 23 = F 23 := ((hFvy30 23 (by decide)).trans ((hFvy27 23 (by decide)).trans (fn rfl (by decide))))
        have hey250 : Fvy30 25 = F 25 := ((hFvy30 25 (by decide)).trans ((hFvy27 25 (by decide)).trans (fn rfl (by decide))))
        have hey251 : Fvy30 27 = F 27 := ((hFvy30 27 (by decide)).trans ((hFvy27 27 (by decide)).trans (fn rfl (by decide))))
        have hey252 : Fvy30 28 = F 28 := ((hFvy30 28 (by decide)).trans ((hFvy27 28 (by decide)).trans (fn rfl (by decide))))
        have hey253 : Fvy30 29 = F 29 := ((hFvy30 29 (by decide)).trans ((hFvy27 29 (by decide)).trans (fn rfl (by decide))))
        have hKy254 : okF Fvy30 := okF.mv hM.2.1 hey240 hey241 hey242 hey243 hey244 hey245 hey246 hey247 hey248 hey249 hey250 hey251 hey252 hey253
        have hMy255 : okMr cs ad gvy30 i (x + 1) Fvy30 r st op ai fa mu tb tp := okMr.upd hM hcvy30 hKy254 (fun f a => hFy239 f (by omega)) hgy238 (hA.mono (by omega)) (fun j a b => by
            exact Or.inl (by rw [hfvy30 _ (by omega)]; rw [hfvy27 _ (by omega)]; rw [egy25, va_up_ne _ _ (by omega)]))
        have hkpy256 : Fvy30 13 = F 13 := ((hFvy30 13 (by decide)).trans ((hFvy27 13 (by decide)).trans (fn rfl (by decide))))
        have hkpy257 : Fvy30 14 = F 14 := ((hFvy30 14 (by decide)).trans ((hFvy27 14 (by decide)).trans (fn rfl (by decide))))
        have hkpy258 : Fvy30 17 = F 17 := ((hFvy30 17 (by decide)).trans ((hFvy27 17 (by decide)).trans (fn rfl (by decide))))
        have hkpy259 : Fvy30 20 = F 20 := ((hFvy30 20 (by decide)).trans ((hFvy27 20 (by decide)).trans (fn rfl (by decide))))
        have hkpy260 : Fvy30 21 = F 21 := ((hFvy30 21 (by decide)).trans ((hFvy27 21 (by decide)).trans (fn rfl (by decide))))
        have hkpy261 : Fvy30 23 = F 23 := ((hFvy30 23 (by decide)).trans ((hFvy27 23 (by decide)).trans (fn rfl (by decide))))
        have hkpy262 : Fvy30 24 = F 24 := ((hFvy30 24 (by decide)).trans ((hFvy27 24 (by decide)).trans (fn rfl (by decide))))
        exact z_iret C hr hlk dX10_matters_43 (by decide) (by decide) ⟨0, rfl, rfl, rfl, by omega, ⟨_, _, hMy255, ⟨hkpy256, hkpy257, hkpy258, hkpy259, hkpy260, hkpy261, hkpy262⟩⟩, fun j j1 => by rw [hfvy30 _ (by omega)]; rw [hfvy27 _ (by omega)]; rw [egy25, va_up_ne _ _ (by omega)]⟩
    · refine z_iconst (z := 1) C dX10_matters_20 rfl ?_
      have hey264 : Fvy27 12 = Fvy27 12 := rfl
      refine z_cV (As := [.int (zI (0)), .int (zI (1))]) (rest := []) (ci := 12) C (c_X10_right l D A cs tt N ad _ i hN _ hcvy27 (by omega) (0) (by omega) (1) (by omega)) (lt_A0 hN rfl) hay1 hcvy27 rfl rfl mv_yX10_right q_1648 hd_yX10_right (by decide) (Nat.le_of_ble_eq_true rfl) (by decide) dX10_matters_21 rfl (kI0 fun vy263 gvy263 hvy263 => ?_)
      obtain ⟨hrvy263, ⟨Fvy263, hcvy263, htvy263, hFvy263⟩, hfvy263⟩ := hvy263
      obtain rfl : vy263 = 0 := by omega
      refine z_if_eq (tgt := 42) C dX10_matters_24 (by decide) (by omega) (fun _ => ?_) (fun h => absurd h (by omega))
      refine z_iconst (z := 0) C dX10_matters_42 rfl ?_
      have hgy265 := up_n egy25 ha1 (ne_o (i := i) (c := 1) (d := 0) rfl)
      have hgy266 := (hfvy27 (i + 1) (ne_o (i := i) (c := 1) (d := 0) rfl)).trans hgy265
      have hgy267 := (hfvy263 (i + 1) (ne_o (i := i) (c := 1) (d := 0) rfl)).trans hgy266
      have hFy268 : ∀ f, f ≠ 12 → Fvy263 f = F f := fun f n12 => ((hFvy263 f n12).trans ((hFvy27 f n12).trans ((uZ_n _ _ n12).trans rfl)))
      have hey269 : Fvy263 13 = F 13 := ((hFvy263 13 (by decide)).trans ((hFvy27 13 (by decide)).trans (fn rfl (by decide))))
      have hey270 : Fvy263 14 = F 14 := ((hFvy263 14 (by decide)).trans ((hFvy27 14 (by decide)).trans (fn rfl (by decide))))
      have hey271 : Fvy263 15 = F 15 := ((hFvy263 15 (by decide)).trans ((hFvy27 15 (by decide)).trans (fn rfl (by decide))))
      have hey272 : Fvy263 16 = F 16 := ((hFvy263 16 (by decide)).trans ((hFvy27 16 (by decide)).trans (fn rfl (by decide))))
      have hey273 : Fvy263 17 = F 17 := ((hFvy263 17 (by decide)).trans ((hFvy27 17 (by decide)).trans (fn rfl (by decide))))
      have hey274 : Fvy263 18 = F 18 := ((hFvy263 18 (by decide)).trans ((hFvy27 18 (by decide)).trans (fn rfl (by decide))))
      have hey275 : Fvy263 19 = F 19 := ((hFvy263 19 (by decide)).trans ((hFvy27 19 (by decide)).trans (fn rfl (by decide))))
      have hey276 : Fvy263 20 = F 20 := ((hFvy263 20 (by decide)).trans ((hFvy27 20 (by decide)).trans (fn rfl (by decide))))
      have hey277 : Fvy263 21 = F 21 := ((hFvy263 21 (by decide)).trans ((hFvy27 21 (by decide)).trans (fn rfl (by decide))))
      have hey278 : Fvy263 23 = F 23 := ((hFvy263 23 (by decide)).trans ((hFvy27 23 (by decide)).trans (fn rfl (by decide))))
      have hey279 : Fvy263 25 = F 25 := ((hFvy263 25 (by decide)).trans ((hFvy27 25 (by decide)).trans (fn rfl (by decide))))
      have hey280 : Fvy263 27 = F 27 := ((hFvy263 27 (by decide)).trans ((hFvy27 27 (by decide)).trans (fn rfl (by decide))))
      have hey281 : Fvy263 28 = F 28 := ((hFvy263 28 (by decide)).trans ((hFvy27 28 (by decide)).trans (fn rfl (by decide))))
      have hey282 : Fvy263 29 = F 29 := ((hFvy263 29 (by decide)).trans ((hFvy27 29 (by decide)).trans (fn rfl (by decide))))
      have hKy283 : okF Fvy263 := okF.mv hM.2.1 hey269 hey270 hey271 hey272 hey273 hey274 hey275 hey276 hey277 hey278 hey279 hey280 hey281 hey282
      have hMy284 : okMr cs ad gvy263 i (x + 1) Fvy263 r st op ai fa mu tb tp := okMr.upd hM hcvy263 hKy283 (fun f a => hFy268 f (by omega)) hgy267 (hA.mono (by omega)) (fun j a b => by
          exact Or.inl (by rw [hfvy263 _ (by omega)]; rw [hfvy27 _ (by omega)]; rw [egy25, va_up_ne _ _ (by omega)]))
      have hkpy285 : Fvy263 13 = F 13 := ((hFvy263 13 (by decide)).trans ((hFvy27 13 (by decide)).trans (fn rfl (by decide))))
      have hkpy286 : Fvy263 14 = F 14 := ((hFvy263 14 (by decide)).trans ((hFvy27 14 (by decide)).trans (fn rfl (by decide))))
      have hkpy287 : Fvy263 17 = F 17 := ((hFvy263 17 (by decide)).trans ((hFvy27 17 (by decide)).trans (fn rfl (by decide))))
      have hkpy288 : Fvy263 20 = F 20 := ((hFvy263 20 (by decide)).trans ((hFvy27 20 (by decide)).trans (fn rfl (by decide))))
      have hkpy289 : Fvy263 21 = F 21 := ((hFvy263 21 (by decide)).trans ((hFvy27 21 (by decide)).trans (fn rfl (by decide))))
      have hkpy290 : Fvy263 23 = F 23 := ((hFvy263 23 (by decide)).trans ((hFvy27 23 (by decide)).trans (fn rfl (by decide))))
      have hkpy291 : Fvy263 24 = F 24 := ((hFvy263 24 (by decide)).trans ((hFvy27 24 (by decide)).trans (fn rfl (by decide))))
      exact z_iret C hr hlk dX10_matters_43 (by decide) (by decide) ⟨0, rfl, rfl, rfl, by omega, ⟨_, _, hMy284, ⟨hkpy285, hkpy286, hkpy287, hkpy288, hkpy289, hkpy290, hkpy291⟩⟩, fun j j1 => by rw [hfvy263 _ (by omega)]; rw [hfvy27 _ (by omega)]; rw [egy25, va_up_ne _ _ (by omega)]⟩
  · refine z_if_eq (tgt := 42) C dX10_matters_10 (by decide) (by omega) (fun _ => ?_) (fun h => absurd h (by omega))
    refine z_iconst (z := 0) C dX10_matters_42 rfl ?_
    have hgy292 := up_n egy25 ha1 (ne_o (i := i) (c := 1) (d := 0) rfl)
    have hgy293 := (hfvy27 (i + 1) (ne_o (i := i) (c := 1) (d := 0) rfl)).trans hgy292
    have hFy294 : ∀ f, f ≠ 12 → Fvy27 f = F f := fun f n12 => ((hFvy27 f n12).trans ((uZ_n _ _ n12).trans rfl))
    have hey295 : Fvy27 13 = F 13 := ((hFvy27 13 (by decide)).trans (fn rfl (by decide)))
    have hey296 : Fvy27 14 = F 14 := ((hFvy27 14 (by decide)).trans (fn rfl (by decide)))
    have hey297 : Fvy27 15 = F 15 := ((hFvy27 15 (by decide)).trans (fn rfl (by decide)))
    have hey298 : Fvy27 16 = F 16 := ((hFvy27 16 (by decide)).trans (fn rfl (by decide)))
    have hey299 : Fvy27 17 = F 17 := ((hFvy27 17 (by decide)).trans (fn rfl (by decide)))
    have hey300 : Fvy27 18 = F 18 := ((hFvy27 18 (by decide)).trans (fn rfl (by decide)))
    have hey301 : Fvy27 19 = F 19 := ((hFvy27 19 (by decide)).trans (fn rfl (by decide)))
    have hey302 : Fvy27 20 = F 20 := ((hFvy27 20 (by decide)).trans (fn rfl (by decide)))
    have hey303 : Fvy27 21 = F 21 := ((hFvy27 21 (by decide)).trans (fn rfl (by decide)))
    have hey304 : Fvy27 23 = F 23 := ((hFvy27 23 (by decide)).trans (fn rfl (by decide)))
    have hey305 : Fvy27 25 = F 25 := ((hFvy27 25 (by decide)).trans (fn rfl (by decide)))
    have hey306 : Fvy27 27 = F 27 := ((hFvy27 27 (by decide)).trans (fn rfl (by decide)))
    have hey307 : Fvy27 28 = F 28 := ((hFvy27 28 (by decide)).trans (fn rfl (by decide)))
    have hey308 : Fvy27 29 = F 29 := ((hFvy27 29 (by decide)).trans (fn rfl (by decide)))
    have hKy309 : okF Fvy27 := okF.mv hM.2.1 hey295 hey296 hey297 hey298 hey299 hey300 hey301 hey302 hey303 hey304 hey305 hey306 hey307 hey308
    have hMy310 : okMr cs ad gvy27 i (x + 1) Fvy27 r st op ai fa mu tb tp := okMr.upd hM hcvy27 hKy309 (fun f a => hFy294 f (by omega)) hgy293 (hA.mono (by omega)) (fun j a b => by
        exact Or.inl (by rw [hfvy27 _ (by omega)]; rw [egy25, va_up_ne _ _ (by omega)]))
    have hkpy311 : Fvy27 13 = F 13 := ((hFvy27 13 (by decide)).trans (fn rfl (by decide)))
    have hkpy312 : Fvy27 14 = F 14 := ((hFvy27 14 (by decide)).trans (fn rfl (by decide)))
    have hkpy313 : Fvy27 17 = F 17 := ((hFvy27 17 (by decide)).trans (fn rfl (by decide)))
    have hkpy314 : Fvy27 20 = F 20 := ((hFvy27 20 (by decide)).trans (fn rfl (by decide)))
    have hkpy315 : Fvy27 21 = F 21 := ((hFvy27 21 (by decide)).trans (fn rfl (by decide)))
    have hkpy316 : Fvy27 23 = F 23 := ((hFvy27 23 (by decide)).trans (fn rfl (by decide)))
    have hkpy317 : Fvy27 24 = F 24 := ((hFvy27 24 (by decide)).trans (fn rfl (by decide)))
    exact z_iret C hr hlk dX10_matters_43 (by decide) (by decide) ⟨0, rfl, rfl, rfl, by omega, ⟨_, _, hMy310, ⟨hkpy311, hkpy312, hkpy313, hkpy314, hkpy315, hkpy316, hkpy317⟩⟩, fun j j1 => by rw [hfvy27 _ (by omega)]; rw [egy25, va_up_ne _ _ (by omega)]⟩

set_option maxRecDepth 100000 in
set_option maxHeartbeats 4000000 in
theorem c_X10_matters_b (l : Launch) (D : va_G) (A : Nat → Prop) (cs : Nat → ClassId) (tt : Nat) (N : Nat) (ad : Nat → Nat) (g : Nat → va_E) (i : Nat) (hN : i + 30 ≤ N) (x : Int) (hx : 0 ≤ x ∧ x ≤ 512) (F r : Nat → Int) {st op ai fa mu tb tp : Nat → Int} (hM : okMr cs ad g i x F r st op ai fa mu tb tp) (z : Int) (hz : -2147483648 ≤ z ∧ z ≤ 2147483647) (hzo : z < 0 ∨ 3 < z) (z1 : Int) (hz1 : -2147483648 ≤ z1 ∧ z1 ≤ 2147483647) (z2 : Int) (hz2 : -2147483648 ≤ z2 ∧ z2 ≤ 2147483647) : zM l yX10_matters cX10_matters 9 (some .int) ({ frames := 11, cells := 0, slots := 0, locals := 660 } : Room) D A cs tt N ad g [.ref (ad i), .int (zI (z)), .int (zI (z1)), .int (zI (z2))] (rI0 N ad fun q g' => (-2147483648 ≤ q ∧ q ≤ 2147483647) ∧ (∃ F' r' : Nat → Int, okMr cs ad g' i (x + 1) F' r' st op ai fa mu tb tp ∧ (F' 13 = F 13 ∧ F' 14 = F 14 ∧ F' 17 = F 17 ∧ F' 20 = F 20 ∧ F' 21 = F 21 ∧ F' 23 = F 23 ∧ F' 24 = F 24)) ∧ ∀ j, j < i ∨ i + 30 ≤ j → g' j = g j) := by
  obtain ⟨hg, ⟨⟨e13, e14, e25, e27, e29⟩, k15, k16, k17, k18, k19, k20, k23, k21⟩, hRD, hTx, hA, ns, nh, nd, rf, pi, te, ki, li, ok1, ok2, fo, dd, dps, ⟨ha1, ha2, ha3, ha4, ha5, ha6, ha7, ha8, ha9, ha10, ha11, ha12, ha13, ha14, ha15, ha24, ha25, ha26, ha27, ha28, ha29⟩, hEv, hPt, hns, htp⟩ := id hM
  obtain ⟨-, hop, hai, hfa, hT, hT1⟩ := id hEv
  have hay1 : zAt ad (i) (ad i) := rfl
  have hay2 : zAt ad (i + 1) (ad (i + 1)) := rfl
  have hay3 : zAt ad (i + 2) (ad (i + 2)) := rfl
  have hay4 : zAt ad (i + 3) (ad (i + 3)) := rfl
  have hay5 : zAt ad (i + 4) (ad (i + 4)) := rfl
  have hay6 : zAt ad (i + 5) (ad (i + 5)) := rfl
  have hay7 : zAt ad (i + 6) (ad (i + 6)) := rfl
  have hay8 : zAt ad (i + 7) (ad (i + 7)) := rfl
  have hay9 : zAt ad (i + 8) (ad (i + 8)) := rfl
  have hay10 : zAt ad (i + 9) (ad (i + 9)) := rfl
  have hay11 : zAt ad (i + 10) (ad (i + 10)) := rfl
  have hay12 : zAt ad (i + 11) (ad (i + 11)) := rfl
  have hay13 : zAt ad (i + 12) (ad (i + 12)) := rfl
  have hay14 : zAt ad (i + 13) (ad (i + 13)) := rfl
  have hay15 : zAt ad (i + 14) (ad (i + 14)) := rfl
  have hay16 : zAt ad (i + 15) (ad (i + 15)) := rfl
  have hay17 : zAt ad (i + 24) (ad (i + 24)) := rfl
  have hay18 : zAt ad (i + 25) (ad (i + 25)) := rfl
  have hay19 : zAt ad (i + 26) (ad (i + 26)) := rfl
  have hay20 : zAt ad (i + 27) (ad (i + 27)) := rfl
  have hay21 : zAt ad (i + 28) (ad (i + 28)) := rfl
  have hay22 : zAt ad (i + 29) (ad (i + 29)) := rfl
  obtain ⟨⟨hsyy23, htyy23, hnyy23, hpyy23⟩, hlyy23⟩ := okA.at0 hA
  simp only [Nat.zero_add] at hsyy23 hnyy23 hpyy23
  have hmn : ∀ s, s < 4 → 0 ≤ r (6 + 86 * s) ∧ r (6 + 86 * s) ≤ 12 := fun s hs => (hsyy23 s hs).1
  have h5 : 0 ≤ r 5 ∧ r 5 ≤ 6 := hpyy23
  refine z_of (by decide) (Nat.le_of_ble_eq_true rfl) ?_
  intro pZ eZ sZ mZ below meth cZ C hr hlk hnm
  refine z_lv (lv' := [(0, .ref (ad i)), (1, .int (zI (z))), (2, .int (zI (z1))), (3, .int (zI (z2)))]) [0, 1, 2, 3] rfl ?_
  refine z_aload_n C 0 dX10_matters_0 rfl ?_
  refine z_iconst (z := 0) C dX10_matters_1 rfl ?_
  refine z_put (fs' := mF ad (i) (uZ F 12 (0))) C (lt_A0 hN rfl) hay1 hg tyX10 tyX10_ok nmX10 rfl inA_X10 12 (by decide) q_1471 rfl rfl rfl rfl (Nat.le_of_ble_eq_true rfl) rfl dX10_matters_2 (fun gy24 egy25 => ?_)
  have hgy26 := up_s egy25
  refine z_aload_n C 0 dX10_matters_5 rfl ?_
  refine z_iload_n C 1 dX10_matters_6 rfl ?_
  have h13vy27 : (uZ F 12 (0)) 13 = F 13 := (fn rfl (by decide))
  have hey28 : (uZ F 12 (0)) 12 = 0 := (uZ_s _ _ _)
  refine z_cV (As := [.int (zI (z))]) (rest := []) (ci := 12) C (c_X10_isSlope l D A cs tt N ad _ i hN _ hgy26 (by omega) (by omega) (z) (by omega)) (lt_A0 hN rfl) hay1 hgy26 rfl rfl mv_yX10_isSlope q_1803 hd_yX10_isSlope (by decide) (Nat.le_of_ble_eq_true rfl) (by decide) dX10_matters_7 rfl (kI0 fun vy27 gvy27 hvy27 => ?_)
  rw [h13vy27] at hvy27
  obtain ⟨hrvy27, ⟨Fvy27, hcvy27, htvy27, hFvy27⟩, hfvy27⟩ := hvy27
  obtain rfl : vy27 = 0 := by omega
  refine z_if_eq (tgt := 42) C dX10_matters_10 (by decide) (by omega) (fun _ => ?_) (fun h => absurd h (by omega))
  refine z_iconst (z := 0) C dX10_matters_42 rfl ?_
  have hgy29 := up_n egy25 ha1 (ne_o (i := i) (c := 1) (d := 0) rfl)
  have hgy30 := (hfvy27 (i + 1) (ne_o (i := i) (c := 1) (d := 0) rfl)).trans hgy29
  have hFy31 : ∀ f, f ≠ 12 → Fvy27 f = F f := fun f n12 => ((hFvy27 f n12).trans ((uZ_n _ _ n12).trans rfl))
  have hey32 : Fvy27 13 = F 13 := ((hFvy27 13 (by decide)).trans (fn rfl (by decide)))
  have hey33 : Fvy27 14 = F 14 := ((hFvy27 14 (by decide)).trans (fn rfl (by decide)))
  have hey34 : Fvy27 15 = F 15 := ((hFvy27 15 (by decide)).trans (fn rfl (by decide)))
  have hey35 : Fvy27 16 = F 16 := ((hFvy27 16 (by decide)).trans (fn rfl (by decide)))
  have hey36 : Fvy27 17 = F 17 := ((hFvy27 17 (by decide)).trans (fn rfl (by decide)))
  have hey37 : Fvy27 18 = F 18 := ((hFvy27 18 (by decide)).trans (fn rfl (by decide)))
  have hey38 : Fvy27 19 = F 19 := ((hFvy27 19 (by decide)).trans (fn rfl (by decide)))
  have hey39 : Fvy27 20 = F 20 := ((hFvy27 20 (by decide)).trans (fn rfl (by decide)))
  have hey40 : Fvy27 21 = F 21 := ((hFvy27 21 (by decide)).trans (fn rfl (by decide)))
  have hey41 : Fvy27 23 = F 23 := ((hFvy27 23 (by decide)).trans (fn rfl (by decide)))
  have hey42 : Fvy27 25 = F 25 := ((hFvy27 25 (by decide)).trans (fn rfl (by decide)))
  have hey43 : Fvy27 27 = F 27 := ((hFvy27 27 (by decide)).trans (fn rfl (by decide)))
  have hey44 : Fvy27 28 = F 28 := ((hFvy27 28 (by decide)).trans (fn rfl (by decide)))
  have hey45 : Fvy27 29 = F 29 := ((hFvy27 29 (by decide)).trans (fn rfl (by decide)))
  have hKy46 : okF Fvy27 := okF.mv hM.2.1 hey32 hey33 hey34 hey35 hey36 hey37 hey38 hey39 hey40 hey41 hey42 hey43 hey44 hey45
  have hMy47 : okMr cs ad gvy27 i (x + 1) Fvy27 r st op ai fa mu tb tp := okMr.upd hM hcvy27 hKy46 (fun f a => hFy31 f (by omega)) hgy30 (hA.mono (by omega)) (fun j a b => by
      exact Or.inl (by rw [hfvy27 _ (by omega)]; rw [egy25, va_up_ne _ _ (by omega)]))
  have hkpy48 : Fvy27 13 = F 13 := ((hFvy27 13 (by decide)).trans (fn rfl (by decide)))
  have hkpy49 : Fvy27 14 = F 14 := ((hFvy27 14 (by decide)).trans (fn rfl (by decide)))
  have hkpy50 : Fvy27 17 = F 17 := ((hFvy27 17 (by decide)).trans (fn rfl (by decide)))
  have hkpy51 : Fvy27 20 = F 20 := ((hFvy27 20 (by decide)).trans (fn rfl (by decide)))
  have hkpy52 : Fvy27 21 = F 21 := ((hFvy27 21 (by decide)).trans (fn rfl (by decide)))
  have hkpy53 : Fvy27 23 = F 23 := ((hFvy27 23 (by decide)).trans (fn rfl (by decide)))
  have hkpy54 : Fvy27 24 = F 24 := ((hFvy27 24 (by decide)).trans (fn rfl (by decide)))
  exact z_iret C hr hlk dX10_matters_43 (by decide) (by decide) ⟨0, rfl, rfl, rfl, by omega, ⟨_, _, hMy47, ⟨hkpy48, hkpy49, hkpy50, hkpy51, hkpy52, hkpy53, hkpy54⟩⟩, fun j j1 => by rw [hfvy27 _ (by omega)]; rw [egy25, va_up_ne _ _ (by omega)]⟩

set_option maxRecDepth 100000 in
set_option maxHeartbeats 4000000 in
theorem c_X10_matters (l : Launch) (D : va_G) (A : Nat → Prop) (cs : Nat → ClassId) (tt : Nat) (N : Nat) (ad : Nat → Nat) (g : Nat → va_E) (i : Nat) (hN : i + 30 ≤ N) (x : Int) (hx : 0 ≤ x ∧ x ≤ 512) (F r : Nat → Int) {st op ai fa mu tb tp : Nat → Int} (hM : okMr cs ad g i x F r st op ai fa mu tb tp) (z : Int) (hz : -2147483648 ≤ z ∧ z ≤ 2147483647) (z1 : Int) (hz1 : -2147483648 ≤ z1 ∧ z1 ≤ 2147483647) (z2 : Int) (hz2 : -2147483648 ≤ z2 ∧ z2 ≤ 2147483647) : zM l yX10_matters cX10_matters 9 (some .int) ({ frames := 11, cells := 0, slots := 0, locals := 660 } : Room) D A cs tt N ad g [.ref (ad i), .int (zI (z)), .int (zI (z1)), .int (zI (z2))] (rI0 N ad fun q g' => (-2147483648 ≤ q ∧ q ≤ 2147483647) ∧ (∃ F' r' : Nat → Int, okMr cs ad g' i (x + 1) F' r' st op ai fa mu tb tp ∧ (F' 13 = F 13 ∧ F' 14 = F 14 ∧ F' 17 = F 17 ∧ F' 20 = F 20 ∧ F' 21 = F 21 ∧ F' 23 = F 23 ∧ F' 24 = F 24)) ∧ ∀ j, j < i ∨ i + 30 ≤ j → g' j = g j) := by
  by_cases h9 : 0 ≤ z ∧ z ≤ 3
  · obtain ⟨n, rfl⟩ : ∃ n : Nat, z = (n : Int) := ⟨z.toNat, by omega⟩
    exact c_X10_matters_a l D A cs tt N ad g i hN x hx F r hM n (by omega) z1 hz1 z2 hz2
  · exact c_X10_matters_b l D A cs tt N ad g i hN x hx F r hM z hz (by omega) z1 hz1 z2 hz2

set_option maxRecDepth 100000 in
set_option maxHeartbeats 4000000 in
theorem c_X10_toWarm_a (l : Launch) (D : va_G) (A : Nat → Prop) (cs : Nat → ClassId) (tt : Nat) (N : Nat) (ad : Nat → Nat) (g : Nat → va_E) (i : Nat) (hN : i + 30 ≤ N) (x : Int) (hx : 0 ≤ x ∧ x ≤ 512) (F r : Nat → Int) {st op ai fa mu tb tp : Nat → Int} (hM : okMr cs ad g i x F r st op ai fa mu tb tp) (n : Nat) (hn4 : n < 4) (z1 : Int) (hz1 : -2147483648 ≤ z1 ∧ z1 ≤ 2147483647) : zM l yX10_toWarm cX10_toWarm 6 (some .int) ({ frames := 11, cells := 0, slots := 0, locals := 660 } : Room) D A cs tt N ad g [.ref (ad i), .int (zI ((n : Int))), .int (zI (z1))] (rI0 N ad fun q g' => (-2147483648 ≤ q ∧ q ≤ 2147483647) ∧ (∃ F' r' : Nat → Int, okMr cs ad g' i (x + 1) F' r' st op ai fa mu tb tp ∧ (F' 13 = F 13 ∧ F' 14 = F 14 ∧ F' 17 = F 17 ∧ F' 20 = F 20 ∧ F' 21 = F 21 ∧ F' 23 = F 23 ∧ F' 24 = F 24)) ∧ ∀ j, j < i ∨ i + 30 ≤ j → g' j = g j) := by
  obtain ⟨hg, ⟨⟨e13, e14, e25, e27, e29⟩, k15, k16, k17, k18, k19, k20, k23, k21⟩, hRD, hTx, hA, ns, nh, nd, rf, pi, te, ki, li, ok1, ok2, fo, dd, dps, ⟨ha1, ha2, ha3, ha4, ha5, ha6, ha7, ha8, ha9, ha10, ha11, ha12, ha13, ha14, ha15, ha24, ha25, ha26, ha27, ha28, ha29⟩, hEv, hPt, hns, htp⟩ := id hM
  obtain ⟨-, hop, hai, hfa, hT, hT1⟩ := id hEv
  have hay1 : zAt ad (i) (ad i) := rfl
  have hay2 : zAt ad (i + 1) (ad (i + 1)) := rfl
  have hay3 : zAt ad (i + 2) (ad (i + 2)) := rfl
  have hay4 : zAt ad (i + 3) (ad (i + 3)) := rfl
  have hay5 : zAt ad (i + 4) (ad (i + 4)) := rfl
  have hay6 : zAt ad (i + 5) (ad (i + 5)) := rfl
  have hay7 : zAt ad (i + 6) (ad (i + 6)) := rfl
  have hay8 : zAt ad (i + 7) (ad (i + 7)) := rfl
  have hay9 : zAt ad (i + 8) (ad (i + 8)) := rfl
  have hay10 : zAt ad (i + 9) (ad (i + 9)) := rfl
  have hay11 : zAt ad (i + 10) (ad (i + 10)) := rfl
  have hay12 : zAt ad (i + 11) (ad (i + 11)) := rfl
  have hay13 : zAt ad (i + 12) (ad (i + 12)) := rfl
  have hay14 : zAt ad (i + 13) (ad (i + 13)) := rfl
  have hay15 : zAt ad (i + 14) (ad (i + 14)) := rfl
  have hay16 : zAt ad (i + 15) (ad (i + 15)) := rfl
  have hay17 : zAt ad (i + 24) (ad (i + 24)) := rfl
  have hay18 : zAt ad (i + 25) (ad (i + 25)) := rfl
  have hay19 : zAt ad (i + 26) (ad (i + 26)) := rfl
  have hay20 : zAt ad (i + 27) (ad (i + 27)) := rfl
  have hay21 : zAt ad (i + 28) (ad (i + 28)) := rfl
  have hay22 : zAt ad (i + 29) (ad (i + 29)) := rfl
  obtain ⟨⟨hsyy23, htyy23, hnyy23, hpyy23⟩, hlyy23⟩ := okA.at0 hA
  simp only [Nat.zero_add] at hsyy23 hnyy23 hpyy23
  have hmn : ∀ s, s < 4 → 0 ≤ r (6 + 86 * s) ∧ r (6 + 86 * s) ≤ 12 := fun s hs => (hsyy23 s hs).1
  have h5 : 0 ≤ r 5 ∧ r 5 ≤ 6 := hpyy23
  refine z_of (by decide) (Nat.le_of_ble_eq_true rfl) ?_
  intro pZ eZ sZ mZ below meth cZ C hr hlk hnm
  refine z_lv (lv' := [(0, .ref (ad i)), (1, .int (zI ((n : Int)))), (2, .int (zI (z1)))]) [0, 1, 2] rfl ?_
  refine z_aload_n C 0 dX10_toWarm_0 rfl ?_
  refine z_iconst (z := 0) C dX10_toWarm_1 rfl ?_
  refine z_put (fs' := mF ad (i) (uZ F 12 (0))) C (lt_A0 hN rfl) hay1 hg tyX10 tyX10_ok nmX10 rfl inA_X10 12 (by decide) q_1471 rfl rfl rfl rfl (Nat.le_of_ble_eq_true rfl) rfl dX10_toWarm_2 (fun gy24 egy25 => ?_)
  have hgy26 := up_s egy25
  refine z_aload_n C 0 dX10_toWarm_5 rfl ?_
  refine z_iload_n C 1 dX10_toWarm_6 rfl ?_
  have h13vy27 : (uZ F 12 (0)) 13 = F 13 := (fn rfl (by decide))
  have hey28 : (uZ F 12 (0)) 12 = 0 := (uZ_s _ _ _)
  refine z_cV (As := [.int (zI ((n : Int)))]) (rest := []) (ci := 12) C (c_X10_isSlope l D A cs tt N ad _ i hN _ hgy26 (by omega) (by omega) ((n : Int)) (by omega)) (lt_A0 hN rfl) hay1 hgy26 rfl rfl mv_yX10_isSlope q_1803 hd_yX10_isSlope (by decide) (Nat.le_of_ble_eq_true rfl) (by decide) dX10_toWarm_7 rfl (kI0 fun vy27 gvy27 hvy27 => ?_)
  rw [h13vy27] at hvy27
  obtain ⟨hrvy27, ⟨Fvy27, hcvy27, htvy27, hFvy27⟩, hfvy27⟩ := hvy27
  rcases (show vy27 = 1 ∨ vy27 = 0 by omega) with rfl | rfl
  · have hxvy27 := hrvy27.2 rfl
    refine z_if_eq (tgt := 28) C dX10_toWarm_10 (by decide) (by omega) (fun h => absurd h (by omega)) (fun _ => ?_)
    refine z_aload_n C 0 dX10_toWarm_13 rfl ?_
    refine z_iload_n C 2 dX10_toWarm_14 rfl ?_
    refine z_iconst (z := 1) C dX10_toWarm_15 rfl ?_
    refine z_bipush (z := 24) C dX10_toWarm_16 (by decide) ?_
    refine z_cS (As := [.int (zI (z1)), .int (zI (1)), .int (zI (24))]) (rest := [.ref (ad i)]) C (c_X10_within l D A cs tt N ad _ (z1) (by omega) (1) (by omega) (24) (by omega)) ms_yX10_within q_1686 hd_yX10_within (by decide) (Nat.le_of_ble_eq_true rfl) (by decide) dX10_toWarm_18 rfl (kI0 fun vy29 gvy29 hvy29 => ?_)
    obtain ⟨hvy29, rfl⟩ := hvy29
    rcases hvy29 with ⟨rfl, hxvy29⟩ | ⟨rfl, hxvy29⟩
    · refine z_iconst (z := 2) C dX10_toWarm_21 rfl ?_
      have hey31 : Fvy27 12 = Fvy27 12 := rfl
      refine z_cV (As := [.int (zI (1)), .int (zI (2))]) (rest := []) (ci := 12) C (c_X10_right l D A cs tt N ad _ i hN _ hcvy27 (by omega) (1) (by omega) (2) (by omega)) (lt_A0 hN rfl) hay1 hcvy27 rfl rfl mv_yX10_right q_1648 hd_yX10_right (by decide) (Nat.le_of_ble_eq_true rfl) (by decide) dX10_toWarm_22 rfl (kI0 fun vy30 gvy30 hvy30 => ?_)
      obtain ⟨hrvy30, ⟨Fvy30, hcvy30, htvy30, hFvy30⟩, hfvy30⟩ := hvy30
      rcases (show vy30 = 1 ∨ vy30 = 0 by omega) with rfl | rfl
      · refine z_if_ne (tgt := 30) C dX10_toWarm_25 (by decide) (by omega) (fun _ => ?_) (fun h => absurd h (by omega))
        refine z_iconst (z := -1) C dX10_toWarm_30 rfl ?_
        refine z_istore_n (lv' := [(3, .int (zI (-1))), (0, .ref (ad i)), (1, .int (zI ((n : Int)))), (2, .int (zI (z1)))]) C dX10_toWarm_31 rfl (by decide) rfl ?_
        refine z_iconst (z := 1) C dX10_toWarm_32 rfl ?_
        refine z_istore (lv' := [(4, .int (zI (1))), (3, .int (zI (-1))), (0, .ref (ad i)), (1, .int (zI ((n : Int)))), (2, .int (zI (z1)))]) C dX10_toWarm_33 (by decide) rfl ?_
        have lp1 : ∀ (n9 : Nat) (it : Int) (wv : Int) (F9 : Nat → Int) (r9 : Nat → Int) (g1 : Nat → va_E), (51 - wv).toNat = n9 → (okMr cs ad g1 i x F9 r9 st op ai fa mu tb tp) → ((∀ f, f ≠ 12 → f ≠ 25 → F9 f = F f)) → (∀ j, j < i ∨ i + 30 ≤ j → g1 j = g j) → (-2147483648 ≤ it ∧ it ≤ 2147483647) → (1 ≤ wv ∧ wv ≤ 51) → zV pZ l eZ ({ frames := 11, cells := 0, slots := 0, locals := 660 } : Room) sZ mZ ([.ref (ad i), .int (zI ((n : Int))), .int (zI (z1))] : List Value).toArray below meth cZ (MQ below (zPost D A (rI0 N ad fun q g' => (-2147483648 ≤ q ∧ q ≤ 2147483647) ∧ (∃ F' r' : Nat → Int, okMr cs ad g' i (x + 1) F' r' st op ai fa mu tb tp ∧ (F' 13 = F 13 ∧ F' 14 = F 14 ∧ F' 17 = F 17 ∧ F' 20 = F 20 ∧ F' 21 = F 21 ∧ F' 23 = F 23 ∧ F' 24 = F 24)) ∧ ∀ j, j < i ∨ i + 30 ≤ j → g' j = g j)) ([.ref (ad i), .int (zI ((n : Int))), .int (zI (z1))] : List Value).toArray sZ ({ frames := 11, cells := 0, slots := 0, locals := 660 } : Room).cells ({ frames := 11, cells := 0, slots := 0, locals := 660 } : Room).slots A) D A 6 (N) ad g1 (0) (0) 35 [(0, .ref (ad i)), (1, .int (zI ((n : Int)))), (2, .int (zI (z1))), (3, .int (zI (it))), (4, .int (zI (wv)))] [] := by
          intro n9
          induction n9 using Nat.strongRecOn with
          | ind n9 ih_lp1 =>
            intro it wv F9 r9 g1 hm9 fM fF f3 hvlp10 hvlp11
            obtain ⟨hg_y32, ⟨⟨e13_y32, e14_y32, e25_y32, e27_y32, e29_y32⟩, k15_y32, k16_y32, k17_y32, k18_y32, k19_y32, k20_y32, k23_y32, k21_y32⟩, hRD_y32, hTx_y32, hA_y32, ns_y32, nh_y32, nd_y32, rf_y32, pi_y32, te_y32, ki_y32, li_y32, ok1_y32, ok2_y32, fo_y32, dd_y32, dps_y32, ⟨ha1_y32, ha2_y32, ha3_y32, ha4_y32, ha5_y32, ha6_y32, ha7_y32, ha8_y32, ha9_y32, ha10_y32, ha11_y32, ha12_y32, ha13_y32, ha14_y32, ha15_y32, ha24_y32, ha25_y32, ha26_y32, ha27_y32, ha28_y32, ha29_y32⟩, hEv_y32, hPt_y32, hns_y32, htp_y32⟩ := id fM
            obtain ⟨-, hop_y32, hai_y32, hfa_y32, hT_y32, hT1_y32⟩ := id hEv_y32
            have e14 := e14_y32
            have e25 := e25_y32
            have e27 := e27_y32
            have e29 := e29_y32
            have hop := hop_y32
            have hai := hai_y32
            have hfa := hfa_y32
            have hT := hT_y32
            have hT1 := hT1_y32
            have hEv := hEv_y32
            have htp := htp_y32
            have hns := hns_y32
            have hPt := hPt_y32
            have hay33 : zAt ad (i) (ad i) := rfl
            have hay34 : zAt ad (i + 1) (ad (i + 1)) := rfl
            have hay35 : zAt ad (i + 2) (ad (i + 2)) := rfl
            have hay36 : zAt ad (i + 3) (ad (i + 3)) := rfl
            have hay37 : zAt ad (i + 4) (ad (i + 4)) := rfl
            have hay38 : zAt ad (i + 5) (ad (i + 5)) := rfl
            have hay39 : zAt ad (i + 6) (ad (i + 6)) := rfl
            have hay40 : zAt ad (i + 7) (ad (i + 7)) := rfl
            have hay41 : zAt ad (i + 8) (ad (i + 8)) := rfl
            have hay42 : zAt ad (i + 9) (ad (i + 9)) := rfl
            have hay43 : zAt ad (i + 10) (ad (i + 10)) := rfl
            have hay44 : zAt ad (i + 11) (ad (i + 11)) := rfl
            have hay45 : zAt ad (i + 12) (ad (i + 12)) := rfl
            have hay46 : zAt ad (i + 13) (ad (i + 13)) := rfl
            have hay47 : zAt ad (i + 14) (ad (i + 14)) := rfl
            have hay48 : zAt ad (i + 15) (ad (i + 15)) := rfl
            have hay49 : zAt ad (i + 24) (ad (i + 24)) := rfl
            have hay50 : zAt ad (i + 25) (ad (i + 25)) := rfl
            have hay51 : zAt ad (i + 26) (ad (i + 26)) := rfl
            have hay52 : zAt ad (i + 27) (ad (i + 27)) := rfl
            have hay53 : zAt ad (i + 28) (ad (i + 28)) := rfl
            have hay54 : zAt ad (i + 29) (ad (i + 29)) := rfl
            obtain ⟨⟨hsyy55, htyy55, hnyy55, hpyy55⟩, hlyy55⟩ := okA.at0 hA_y32
            simp only [Nat.zero_add] at hsyy55 hnyy55 hpyy55
            have hmn : ∀ s, s < 4 → 0 ≤ r9 (6 + 86 * s) ∧ r9 (6 + 86 * s) ≤ 12 := fun s hs => (hsyy55 s hs).1
            have h5 : 0 ≤ r9 5 ∧ r9 5 ≤ 6 := hpyy55
            have h13e : F9 13 = F 13 := fF 13 (by decide) (by decide)
            have h14e : F9 14 = F 14 := fF 14 (by decide) (by decide)
            have h17e : F9 17 = F 17 := fF 17 (by decide) (by decide)
            have h20e : F9 20 = F 20 := fF 20 (by decide) (by decide)
            have h21e : F9 21 = F 21 := fF 21 (by decide) (by decide)
            have h23e : F9 23 = F 23 := fF 23 (by decide) (by decide)
            have h24e : F9 24 = F 24 := fF 24 (by decide) (by decide)
            refine z_iload C 4 dX10_toWarm_35 rfl ?_
            refine z_bipush (z := 50) C dX10_toWarm_37 (by decide) ?_
            refine z_icmp_gt (tgt := 104) C dX10_toWarm_39 (by decide) (by omega) (by omega) (fun hby56 => ?_) (fun hby56 => ?_)
            · refine z_aload_n C 0 dX10_toWarm_104 rfl ?_
              refine z_iconst (z := 0) C dX10_toWarm_105 rfl ?_
              refine z_put (fs' := mF ad (i) (uZ F9 25 (0))) C (lt_A0 hN rfl) hay33 hg_y32 tyX10 tyX10_ok nmX10 rfl inA_X10 25 (by decide) q_1484 rfl rfl rfl rfl (Nat.le_of_ble_eq_true rfl) rfl dX10_toWarm_106 (fun gy57 egy58 => ?_)
              have hgy59 := up_s egy58
              refine z_iload_n C 3 dX10_toWarm_109 rfl ?_
              have hgy60 := up_n egy58 ha1_y32 (ne_o (i := i) (c := 1) (d := 0) rfl)
              have hFy61 : ∀ f, f ≠ 25 → (uZ F9 25 (0)) f = F9 f := fun f n25 => ((uZ_n _ _ n25).trans rfl)
              have hey62 : (uZ F9 25 (0)) 13 = F9 13 := (fn rfl (by decide))
              have hey63 : (uZ F9 25 (0)) 14 = F9 14 := (fn rfl (by decide))
              have hey64 : (uZ F9 25 (0)) 15 = F9 15 := (fn rfl (by decide))
              have hey65 : (uZ F9 25 (0)) 16 = F9 16 := (fn rfl (by decide))
              have hey66 : (uZ F9 25 (0)) 17 = F9 17 := (fn rfl (by decide))
              have hey67 : (uZ F9 25 (0)) 18 = F9 18 := (fn rfl (by decide))
              have hey68 : (uZ F9 25 (0)) 19 = F9 19 := (fn rfl (by decide))
              have hey69 : (uZ F9 25 (0)) 20 = F9 20 := (fn rfl (by decide))
              have hey70 : (uZ F9 25 (0)) 21 = F9 21 := (fn rfl (by decide))
              have hey71 : (uZ F9 25 (0)) 23 = F9 23 := (fn rfl (by decide))
              have hey72 : (uZ F9 25 (0)) 25 = 0 := (uZ_s _ _ _)
              have hey73 : (uZ F9 25 (0)) 27 = F9 27 := (fn rfl (by decide))
              have hey74 : (uZ F9 25 (0)) 28 = F9 28 := (fn rfl (by decide))
              have hey75 : (uZ F9 25 (0)) 29 = F9 29 := (fn rfl (by decide))
              have hKy76 : okF (uZ F9 25 (0)) := by unfold okF; omega
              have hMy77 : okMr cs ad gy57 i (x + 1) (uZ F9 25 (0)) r9 st op ai fa mu tb tp := okMr.upd fM hgy59 hKy76 (fun f a => hFy61 f (by omega)) hgy60 (hA_y32.mono (by omega)) (fun j a b => by
                  exact Or.inl (by rw [egy58, va_up_ne _ _ (by omega)]))
              have hkpy78 : (uZ F9 25 (0)) 13 = F9 13 := (fn rfl (by decide))
              have hkpy79 : (uZ F9 25 (0)) 14 = F9 14 := (fn rfl (by decide))
              have hkpy80 : (uZ F9 25 (0)) 17 = F9 17 := (fn rfl (by decide))
              have hkpy81 : (uZ F9 25 (0)) 20 = F9 20 := (fn rfl (by decide))
              have hkpy82 : (uZ F9 25 (0)) 21 = F9 21 := (fn rfl (by decide))
              have hkpy83 : (uZ F9 25 (0)) 23 = F9 23 := (fn rfl (by decide))
              have hkpy84 : (uZ F9 25 (0)) 24 = F9 24 := (fn rfl (by decide))
              exact z_iret C hr hlk dX10_toWarm_110 (by decide) (by decide) ⟨it, rfl, rfl, rfl, by omega, ⟨_, _, hMy77, ⟨(by omega), (by omega), (by omega), (by omega), (by omega), (by omega), (by omega)⟩⟩, fun j j1 => by rw [egy58, va_up_ne _ _ (by omega)]; exact f3 j j1⟩
            · refine z_iload_n C 3 dX10_toWarm_42 rfl ?_
              refine z_iconst (z := -1) C dX10_toWarm_43 rfl ?_
              refine z_icmp_ne (tgt := 104) C dX10_toWarm_44 (by decide) (by omega) (by omega) (fun hby85 => ?_) (fun hby85 => ?_)
              · refine z_aload_n C 0 dX10_toWarm_104 rfl ?_
                refine z_iconst (z := 0) C dX10_toWarm_105 rfl ?_
                refine z_put (fs' := mF ad (i) (uZ F9 25 (0))) C (lt_A0 hN rfl) hay33 hg_y32 tyX10 tyX10_ok nmX10 rfl inA_X10 25 (by decide) q_1484 rfl rfl rfl rfl (Nat.le_of_ble_eq_true rfl) rfl dX10_toWarm_106 (fun gy86 egy87 => ?_)
                have hgy88 := up_s egy87
                refine z_iload_n C 3 dX10_toWarm_109 rfl ?_
                have hgy89 := up_n egy87 ha1_y32 (ne_o (i := i) (c := 1) (d := 0) rfl)
                have hFy90 : ∀ f, f ≠ 25 → (uZ F9 25 (0)) f = F9 f := fun f n25 => ((uZ_n _ _ n25).trans rfl)
                have hey91 : (uZ F9 25 (0)) 13 = F9 13 := (fn rfl (by decide))
                have hey92 : (uZ F9 25 (0)) 14 = F9 14 := (fn rfl (by decide))
                have hey93 : (uZ F9 25 (0)) 15 = F9 15 := (fn rfl (by decide))
                have hey94 : (uZ F9 25 (0)) 16 = F9 16 := (fn rfl (by decide))
                have hey95 : (uZ F9 25 (0)) 17 = F9 17 := (fn rfl (by decide))
                have hey96 : (uZ F9 25 (0)) 18 = F9 18 := (fn rfl (by decide))
                have hey97 : (uZ F9 25 (0)) 19 = F9 19 := (fn rfl (by decide))
                have hey98 : (uZ F9 25 (0)) 20 = F9 20 := (fn rfl (by decide))
                have hey99 : (uZ F9 25 (0)) 21 = F9 21 := (fn rfl (by decide))
                have hey100 : (uZ F9 25 (0)) 23 = F9 23 := (fn rfl (by decide))
                have hey101 : (uZ F9 25 (0)) 25 = 0 := (uZ_s _ _ _)
                have hey102 : (uZ F9 25 (0)) 27 = F9 27 := (fn rfl (by decide))
                have hey103 : (uZ F9 25 (0)) 28 = F9 28 := (fn rfl (by decide))
                have hey104 : (uZ F9 25 (0)) 29 = F9 29 := (fn rfl (by decide))
                have hKy105 : okF (uZ F9 25 (0)) := by unfold okF; omega
                have hMy106 : okMr cs ad gy86 i (x + 1) (uZ F9 25 (0)) r9 st op ai fa mu tb tp := okMr.upd fM hgy88 hKy105 (fun f a => hFy90 f (by omega)) hgy89 (hA_y32.mono (by omega)) (fun j a b => by
                    exact Or.inl (by rw [egy87, va_up_ne _ _ (by omega)]))
                have hkpy107 : (uZ F9 25 (0)) 13 = F9 13 := (fn rfl (by decide))
                have hkpy108 : (uZ F9 25 (0)) 14 = F9 14 := (fn rfl (by decide))
                have hkpy109 : (uZ F9 25 (0)) 17 = F9 17 := (fn rfl (by decide))
                have hkpy110 : (uZ F9 25 (0)) 20 = F9 20 := (fn rfl (by decide))
                have hkpy111 : (uZ F9 25 (0)) 21 = F9 21 := (fn rfl (by decide))
                have hkpy112 : (uZ F9 25 (0)) 23 = F9 23 := (fn rfl (by decide))
                have hkpy113 : (uZ F9 25 (0)) 24 = F9 24 := (fn rfl (by decide))
                exact z_iret C hr hlk dX10_toWarm_110 (by decide) (by decide) ⟨it, rfl, rfl, rfl, by omega, ⟨_, _, hMy106, ⟨(by omega), (by omega), (by omega), (by omega), (by omega), (by omega), (by omega)⟩⟩, fun j j1 => by rw [egy87, va_up_ne _ _ (by omega)]; exact f3 j j1⟩
              · refine z_aload_n C 0 dX10_toWarm_47 rfl ?_
                refine z_cV (As := []) (rest := []) (ci := 12) C (c_X10_tries l D A cs tt N ad _ i hN _ hg_y32 _ ha1_y32 (x) hA_y32) (lt_A0 hN rfl) hay33 hg_y32 rfl rfl mv_yX10_tries q_1980 hd_yX10_tries (by decide) (Nat.le_of_ble_eq_true rfl) (by decide) dX10_toWarm_48 rfl (kV0 fun gvy114 hvy114 => ?_)
                obtain ⟨⟨rvy114, hdvy114, hAvy114, hWvy114, h0vy114, hyvy114⟩, hfvy114⟩ := hvy114
                obtain ⟨⟨hsyy115, htyy115, hnyy115, hpyy115⟩, hlyy115⟩ := okA.at0 hAvy114
                simp only [Nat.zero_add] at hsyy115 hnyy115 hpyy115
                have hmn : ∀ s, s < 4 → 0 ≤ rvy114 (6 + 86 * s) ∧ rvy114 (6 + 86 * s) ≤ 12 := fun s hs => (hsyy115 s hs).1
                have h5 : 0 ≤ rvy114 5 ∧ rvy114 5 ≤ 6 := hpyy115
                refine z_aload_n C 0 dX10_toWarm_51 rfl ?_
                refine z_iload C 4 dX10_toWarm_52 rfl ?_
                have hgy116 := (hfvy114 (i) (ne_o (i := i) (c := 0) (d := 1) rfl)).trans hg_y32
                refine z_put (fs' := mF ad (i) (uZ F9 25 (wv))) C (lt_A0 hN rfl) hay33 hgy116 tyX10 tyX10_ok nmX10 rfl inA_X10 25 (by decide) q_1484 rfl rfl rfl rfl (Nat.le_of_ble_eq_true rfl) rfl dX10_toWarm_54 (fun gy117 egy118 => ?_)
                have hgy119 := up_s egy118
                refine z_iconst (z := 0) C dX10_toWarm_57 rfl ?_
                refine z_istore (lv' := [(5, .int (zI (0))), (0, .ref (ad i)), (1, .int (zI ((n : Int)))), (2, .int (zI (z1))), (3, .int (zI (it))), (4, .int (zI (wv)))]) C dX10_toWarm_58 (by decide) rfl ?_
                have lp2 : ∀ (n9 : Nat) (it : Int) (kk : Int) (F9b : Nat → Int) (r9b : Nat → Int) (g1 : Nat → va_E), (25 - kk).toNat = n9 → (okMr cs ad g1 i x F9b r9b st op ai fa mu tb tp) → ((∀ f, f ≠ 12 → f ≠ 25 → F9b f = F f)) → (okW r9b 350 (x)) → (∀ j, j < i ∨ i + 30 ≤ j → g1 j = g j) → (-2147483648 ≤ it ∧ it ≤ 2147483647) → (0 ≤ kk ∧ kk ≤ z1) → (r9b 350 ≤ 2000 + kk) → zV pZ l eZ ({ frames := 11, cells := 0, slots := 0, locals := 660 } : Room) sZ mZ ([.ref (ad i), .int (zI ((n : Int))), .int (zI (z1))] : List Value).toArray below meth cZ (MQ below (zPost D A (rI0 N ad fun q g' => (-2147483648 ≤ q ∧ q ≤ 2147483647) ∧ (∃ F' r' : Nat → Int, okMr cs ad g' i (x + 1) F' r' st op ai fa mu tb tp ∧ (F' 13 = F 13 ∧ F' 14 = F 14 ∧ F' 17 = F 17 ∧ F' 20 = F 20 ∧ F' 21 = F 21 ∧ F' 23 = F 23 ∧ F' 24 = F 24)) ∧ ∀ j, j < i ∨ i + 30 ≤ j → g' j = g j)) ([.ref (ad i), .int (zI ((n : Int))), .int (zI (z1))] : List Value).toArray sZ ({ frames := 11, cells := 0, slots := 0, locals := 660 } : Room).cells ({ frames := 11, cells := 0, slots := 0, locals := 660 } : Room).slots A) D A 6 (N) ad g1 (0) (0) 60 [(0, .ref (ad i)), (1, .int (zI ((n : Int)))), (2, .int (zI (z1))), (3, .int (zI (it))), (4, .int (zI (wv))), (5, .int (zI (kk)))] [] := by
                  intro n9
                  induction n9 using Nat.strongRecOn with
                  | ind n9 ih_lp2 =>
                    intro it kk F9b r9b g1 hm9 fMb fFb fWb f3 hvlp20 hvlp21 hvlp22
                    obtain ⟨hg_y120, ⟨⟨e13_y120, e14_y120, e25_y120, e27_y120, e29_y120⟩, k15_y120, k16_y120, k17_y120, k18_y120, k19_y120, k20_y120, k23_y120, k21_y120⟩, hRD_y120, hTx_y120, hA_y120, ns_y120, nh_y120, nd_y120, rf_y120, pi_y120, te_y120, ki_y120, li_y120, ok1_y120, ok2_y120, fo_y120, dd_y120, dps_y120, ⟨ha1_y120, ha2_y120, ha3_y120, ha4_y120, ha5_y120, ha6_y120, ha7_y120, ha8_y120, ha9_y120, ha10_y120, ha11_y120, ha12_y120, ha13_y120, ha14_y120, ha15_y120, ha24_y120, ha25_y120, ha26_y120, ha27_y120, ha28_y120, ha29_y120⟩, hEv_y120, hPt_y120, hns_y120, htp_y120⟩ := id fMb
                    obtain ⟨-, hop_y120, hai_y120, hfa_y120, hT_y120, hT1_y120⟩ := id hEv_y120
                    have e14 := e14_y120
                    have e25 := e25_y120
                    have e27 := e27_y120
                    have e29 := e29_y120
                    have hop := hop_y120
                    have hai := hai_y120
                    have hfa := hfa_y120
                    have hT := hT_y120
                    have hT1 := hT1_y120
                    have hEv := hEv_y120
                    have htp := htp_y120
                    have hns := hns_y120
                    have hPt := hPt_y120
                    have hay121 : zAt ad (i) (ad i) := rfl
                    have hay122 : zAt ad (i + 1) (ad (i + 1)) := rfl
                    have hay123 : zAt ad (i + 2) (ad (i + 2)) := rfl
                    have hay124 : zAt ad (i + 3) (ad (i + 3)) := rfl
                    have hay125 : zAt ad (i + 4) (ad (i + 4)) := rfl
                    have hay126 : zAt ad (i + 5) (ad (i + 5)) := rfl
                    have hay127 : zAt ad (i + 6) (ad (i + 6)) := rfl
                    have hay128 : zAt ad (i + 7) (ad (i + 7)) := rfl
                    have hay129 : zAt ad (i + 8) (ad (i + 8)) := rfl
                    have hay130 : zAt ad (i + 9) (ad (i + 9)) := rfl
                    have hay131 : zAt ad (i + 10) (ad (i + 10)) := rfl
                    have hay132 : zAt ad (i + 11) (ad (i + 11)) := rfl
                    have hay133 : zAt ad (i + 12) (ad (i + 12)) := rfl
                    have hay134 : zAt ad (i + 13) (ad (i + 13)) := rfl
                    have hay135 : zAt ad (i + 14) (ad (i + 14)) := rfl
                    have hay136 : zAt ad (i + 15) (ad (i + 15)) := rfl
                    have hay137 : zAt ad (i + 24) (ad (i + 24)) := rfl
                    have hay138 : zAt ad (i + 25) (ad (i + 25)) := rfl
                    have hay139 : zAt ad (i + 26) (ad (i + 26)) := rfl
                    have hay140 : zAt ad (i + 27) (ad (i + 27)) := rfl
                    have hay141 : zAt ad (i + 28) (ad (i + 28)) := rfl
                    have hay142 : zAt ad (i + 29) (ad (i + 29)) := rfl
                    obtain ⟨⟨hsyy143, htyy143, hnyy143, hpyy143⟩, hlyy143⟩ := okA.at0 hA_y120
                    simp only [Nat.zero_add] at hsyy143 hnyy143 hpyy143
                    have hmn : ∀ s, s < 4 → 0 ≤ r9b (6 + 86 * s) ∧ r9b (6 + 86 * s) ≤ 12 := fun s hs => (hsyy143 s hs).1
                    have h5 : 0 ≤ r9b 5 ∧ r9b 5 ≤ 6 := hpyy143
                    have h13be : F9b 13 = F 13 := fFb 13 (by decide) (by decide)
                    have h14be : F9b 14 = F 14 := fFb 14 (by decide) (by decide)
                    have h17be : F9b 17 = F 17 := fFb 17 (by decide) (by decide)
                    have h20be : F9b 20 = F 20 := fFb 20 (by decide) (by decide)
                    have h21be : F9b 21 = F 21 := fFb 21 (by decide) (by decide)
                    have h23be : F9b 23 = F 23 := fFb 23 (by decide) (by decide)
                    have h24be : F9b 24 = F 24 := fFb 24 (by decide) (by decide)
                    have hW2b := fWb.2.1
                    refine z_iload C 5 dX10_toWarm_60 rfl ?_
                    refine z_iload_n C 2 dX10_toWarm_62 rfl ?_
                    refine z_icmp_ge (tgt := 98) C dX10_toWarm_63 (by decide) (by omega) (by omega) (fun hby144 => ?_) (fun hby144 => ?_)
                    · refine z_iinc (z := wv + 1) (lv' := [(4, .int (zI (wv + 1))), (0, .ref (ad i)), (1, .int (zI ((n : Int)))), (2, .int (zI (z1))), (3, .int (zI (it))), (5, .int (zI (kk)))]) (j := 4) C dX10_toWarm_98 rfl rfl (by decide) rfl ?_
                      refine z_goto (tgt := 35) C dX10_toWarm_101 (by decide) ?_
                      have hMy145 : okMr cs ad g1 i (x) F9b r9b st op ai fa mu tb tp := okMr.upd fMb hg_y120 fMb.2.1 (fun f _ => rfl) ha1_y120 (hA_y120.mono (by omega)) (fun j a b => by
                          exact Or.inl (by rfl))
                      have hFF : (∀ f, f ≠ 12 → f ≠ 25 → F9b f = F f) := fun f n12 n25 => fFb f n12 n25
                      have hey146 : F9b 13 = F9b 13 := rfl
                      have hey147 : F9b 14 = F9b 14 := rfl
                      refine z_lv (lv' := [(0, .ref (ad i)), (1, .int (zI ((n : Int)))), (2, .int (zI (z1))), (3, .int (zI (it))), (4, .int (zI (wv + 1)))]) [1, 2, 3, 4, 0] rfl ?_
                      exact ih_lp1 _ (by omega) (it) (wv + 1) _ _ g1 rfl hMy145 hFF (fun j j1 => by exact f3 j j1) (by omega) (by omega)
                    · refine z_iload_n C 3 dX10_toWarm_66 rfl ?_
                      refine z_iconst (z := -1) C dX10_toWarm_67 rfl ?_
                      refine z_icmp_ne (tgt := 98) C dX10_toWarm_68 (by decide) (by omega) (by omega) (fun hby148 => ?_) (fun hby148 => ?_)
                      · refine z_iinc (z := wv + 1) (lv' := [(4, .int (zI (wv + 1))), (0, .ref (ad i)), (1, .int (zI ((n : Int)))), (2, .int (zI (z1))), (3, .int (zI (it))), (5, .int (zI (kk)))]) (j := 4) C dX10_toWarm_98 rfl rfl (by decide) rfl ?_
                        refine z_goto (tgt := 35) C dX10_toWarm_101 (by decide) ?_
                        have hMy149 : okMr cs ad g1 i (x) F9b r9b st op ai fa mu tb tp := okMr.upd fMb hg_y120 fMb.2.1 (fun f _ => rfl) ha1_y120 (hA_y120.mono (by omega)) (fun j a b => by
                            exact Or.inl (by rfl))
                        have hFF : (∀ f, f ≠ 12 → f ≠ 25 → F9b f = F f) := fun f n12 n25 => fFb f n12 n25
                        have hey150 : F9b 13 = F9b 13 := rfl
                        have hey151 : F9b 14 = F9b 14 := rfl
                        refine z_lv (lv' := [(0, .ref (ad i)), (1, .int (zI ((n : Int)))), (2, .int (zI (z1))), (3, .int (zI (it))), (4, .int (zI (wv + 1)))]) [1, 2, 3, 4, 0] rfl ?_
                        exact ih_lp1 _ (by omega) (it) (wv + 1) _ _ g1 rfl hMy149 hFF (fun j j1 => by exact f3 j j1) (by omega) (by omega)
                      · refine z_aload_n C 0 dX10_toWarm_71 rfl ?_
                        refine z_sipush (z := 350) C dX10_toWarm_72 (by decide) ?_
                        have hey153 : F9b 13 = F9b 13 := rfl
                        have hey154 : F9b 14 = F9b 14 := rfl
                        have hey155 : F9b 25 = F9b 25 := rfl
                        have hey156 : F9b 27 = F9b 27 := rfl
                        have hey157 : F9b 28 = F9b 28 := rfl
                        have hey158 : F9b 29 = F9b 29 := rfl
                        have hEvy152 : okEnv F9b _ _ _ _ _ := ⟨by omega, hop, hai, hfa, hT, hT1⟩
                        refine z_cV (As := [.int (zI (350))]) (rest := []) (ci := 12) C (c_X10_hour l D A cs tt N ad _ i hN _ hg_y120 _ ha1_y120 _ ha3_y120 _ ha4_y120 _ ha5_y120 _ ha6_y120 _ ha7_y120 _ ha14_y120 _ ha15_y120 350 (by omega) hEvy152 (x) (by omega) fWb (by omega) (by omega)) (lt_A0 hN rfl) hay121 hg_y120 rfl rfl mv_yX10_hour q_1885 hd_yX10_hour (by decide) (Nat.le_of_ble_eq_true rfl) (by decide) dX10_toWarm_75 rfl (kV0 fun gvy159 hvy159 => ?_)
                        obtain ⟨⟨rvy159, hcvy159, hwvy159, htvy159, hyvy159⟩, ⟨t4vy159, h4vy159⟩, ⟨t5vy159, h5vy159⟩, hfvy159⟩ := hvy159
                        have hAy160 : okA rvy159 (x) := okA.tried hA_y120 (fun j a => hyvy159 j (by omega))
                        obtain ⟨⟨hsyy161, htyy161, hnyy161, hpyy161⟩, hlyy161⟩ := okA.at0 hAy160
                        simp only [Nat.zero_add] at hsyy161 hnyy161 hpyy161
                        have hmn : ∀ s, s < 4 → 0 ≤ rvy159 (6 + 86 * s) ∧ rvy159 (6 + 86 * s) ≤ 12 := fun s hs => (hsyy161 s hs).1
                        have h5 : 0 ≤ rvy159 5 ∧ rvy159 5 ≤ 6 := hpyy161
                        refine z_aload_n C 0 dX10_toWarm_78 rfl ?_
                        refine z_sipush (z := 350) C dX10_toWarm_79 (by decide) ?_
                        refine z_iload_n C 1 dX10_toWarm_82 rfl ?_
                        obtain ⟨py162, hpy162⟩ : ∃ p9 : Nat, 350 + 6 + 86 * n = p9 := ⟨_, rfl⟩
                        have hgy163 := (hfvy159 (i) (ne_o (i := i) (c := 0) (d := 1) rfl) (ne_o (i := i) (c := 0) (d := 14) rfl) (ne_o (i := i) (c := 0) (d := 15) rfl)).trans hg_y120
                        have hgy165 := (hfvy159 (i + 2) (ne_o (i := i) (c := 2) (d := 1) rfl) (ne_o (i := i) (c := 2) (d := 14) rfl) (ne_o (i := i) (c := 2) (d := 15) rfl)).trans ha2_y120
                        have hgy166 := (hfvy159 (i + 7) (ne_o (i := i) (c := 7) (d := 1) rfl) (ne_o (i := i) (c := 7) (d := 14) rfl) (ne_o (i := i) (c := 7) (d := 15) rfl)).trans ha7_y120
                        have hqy167 : qS rvy159 py162 := ((hwvy159.1 n (by omega)).of (p2 := py162) (by omega)).q (by have hb9 := mBb (t := rvy159 350 + x) (by omega); omega)
                        have hmky168 := hqy167.1
                        refine z_cV (As := [.int (zI (350)), .int (zI ((n : Int)))]) (rest := []) (ci := 12) C (c_X10_isUnstable l D A cs tt N ad _ i hN _ hgy163 _ hcvy159 _ hgy165 _ hgy166 350 n py162 hpy162 (by omega) (by omega) hqy167) (lt_A0 hN rfl) hay121 hgy163 rfl rfl mv_yX10_isUnstable q_1811 hd_yX10_isUnstable (by decide) (Nat.le_of_ble_eq_true rfl) (by decide) dX10_toWarm_83 rfl (kI0 fun vy164 gvy164 hvy164 => ?_)
                        obtain ⟨hvy164, rfl⟩ := hvy164
                        refine z_if_eq (tgt := 92) C dX10_toWarm_86 (by decide) (by omega) (fun hby169 => ?_) (fun hby169 => ?_)
                        · refine z_iinc (z := kk + 1) (lv' := [(5, .int (zI (kk + 1))), (0, .ref (ad i)), (1, .int (zI ((n : Int)))), (2, .int (zI (z1))), (3, .int (zI (it))), (4, .int (zI (wv)))]) (j := 5) C dX10_toWarm_92 rfl rfl (by decide) rfl ?_
                          refine z_goto (tgt := 60) C dX10_toWarm_95 (by decide) ?_
                          have hMy170 : okMr cs ad gvy159 i (x) F9b rvy159 st op ai fa mu tb tp := okMr.upd fMb hgy163 fMb.2.1 (fun f _ => rfl) hcvy159 (hAy160.mono (by omega)) (fun j a b => by
                              by_cases e0 : j = i + 14
                              · exact Or.inr ⟨14, _, e0, lsP.l (by decide), by rw [e0]; exact h4vy159⟩
                              by_cases e1 : j = i + 15
                              · exact Or.inr ⟨15, _, e1, lsP.l (by decide), by rw [e1]; exact h5vy159⟩
                              exact Or.inl (by rw [hfvy159 _ (by omega) (by omega) (by omega)]))
                          have hFFb : (∀ f, f ≠ 12 → f ≠ 25 → F9b f = F f) := fun f n12 n25 => fFb f n12 n25
                          have hey171 : F9b 13 = F9b 13 := rfl
                          have hey172 : F9b 14 = F9b 14 := rfl
                          refine z_lv (lv' := [(0, .ref (ad i)), (1, .int (zI ((n : Int)))), (2, .int (zI (z1))), (3, .int (zI (it))), (4, .int (zI (wv))), (5, .int (zI (kk + 1)))]) [1, 2, 3, 4, 5, 0] rfl ?_
                          exact ih_lp2 _ (by omega) (it) (kk + 1) _ _ gvy159 rfl hMy170 hFFb hwvy159 (fun j j1 => by rw [hfvy159 _ (by omega) (by omega) (by omega)]; exact f3 j j1) (by omega) (by omega) (by omega)
                        · refine z_iload C 4 dX10_toWarm_89 rfl ?_
                          refine z_istore_n (lv' := [(3, .int (zI (wv))), (0, .ref (ad i)), (1, .int (zI ((n : Int)))), (2, .int (zI (z1))), (4, .int (zI (wv))), (5, .int (zI (kk)))]) C dX10_toWarm_91 rfl (by decide) rfl ?_
                          refine z_iinc (z := kk + 1) (lv' := [(5, .int (zI (kk + 1))), (3, .int (zI (wv))), (0, .ref (ad i)), (1, .int (zI ((n : Int)))), (2, .int (zI (z1))), (4, .int (zI (wv)))]) (j := 5) C dX10_toWarm_92 rfl rfl (by decide) rfl ?_
                          refine z_goto (tgt := 60) C dX10_toWarm_95 (by decide) ?_
                          have hMy173 : okMr cs ad gvy159 i (x) F9b rvy159 st op ai fa mu tb tp := okMr.upd fMb hgy163 fMb.2.1 (fun f _ => rfl) hcvy159 (hAy160.mono (by omega)) (fun j a b => by
                              by_cases e0 : j = i + 14
                              · exact Or.inr ⟨14, _, e0, lsP.l (by decide), by rw [e0]; exact h4vy159⟩
                              by_cases e1 : j = i + 15
                              · exact Or.inr ⟨15, _, e1, lsP.l (by decide), by rw [e1]; exact h5vy159⟩
                              exact Or.inl (by rw [hfvy159 _ (by omega) (by omega) (by omega)]))
                          have hFFb : (∀ f, f ≠ 12 → f ≠ 25 → F9b f = F f) := fun f n12 n25 => fFb f n12 n25
                          have hey174 : F9b 13 = F9b 13 := rfl
                          have hey175 : F9b 14 = F9b 14 := rfl
                          refine z_lv (lv' := [(0, .ref (ad i)), (1, .int (zI ((n : Int)))), (2, .int (zI (z1))), (3, .int (zI (wv))), (4, .int (zI (wv))), (5, .int (zI (kk + 1)))]) [2, 3, 4, 1, 5, 0] rfl ?_
                          exact ih_lp2 _ (by omega) (wv) (kk + 1) _ _ gvy159 rfl hMy173 hFFb hwvy159 (fun j j1 => by rw [hfvy159 _ (by omega) (by omega) (by omega)]; exact f3 j j1) (by omega) (by omega) (by omega)
                have hgy176 := up_n egy118 hdvy114 (ne_o (i := i) (c := 1) (d := 0) rfl)
                have hFy177 : ∀ f, f ≠ 25 → (uZ F9 25 (wv)) f = F9 f := fun f n25 => ((uZ_n _ _ n25).trans rfl)
                have hey178 : (uZ F9 25 (wv)) 13 = F9 13 := (fn rfl (by decide))
                have hey179 : (uZ F9 25 (wv)) 14 = F9 14 := (fn rfl (by decide))
                have hey180 : (uZ F9 25 (wv)) 15 = F9 15 := (fn rfl (by decide))
                have hey181 : (uZ F9 25 (wv)) 16 = F9 16 := (fn rfl (by decide))
                have hey182 : (uZ F9 25 (wv)) 17 = F9 17 := (fn rfl (by decide))
                have hey183 : (uZ F9 25 (wv)) 18 = F9 18 := (fn rfl (by decide))
                have hey184 : (uZ F9 25 (wv)) 19 = F9 19 := (fn rfl (by decide))
                have hey185 : (uZ F9 25 (wv)) 20 = F9 20 := (fn rfl (by decide))
                have hey186 : (uZ F9 25 (wv)) 21 = F9 21 := (fn rfl (by decide))
                have hey187 : (uZ F9 25 (wv)) 23 = F9 23 := (fn rfl (by decide))
                have hey188 : (uZ F9 25 (wv)) 25 = wv := (uZ_s _ _ _)
                have hey189 : (uZ F9 25 (wv)) 27 = F9 27 := (fn rfl (by decide))
                have hey190 : (uZ F9 25 (wv)) 28 = F9 28 := (fn rfl (by decide))
                have hey191 : (uZ F9 25 (wv)) 29 = F9 29 := (fn rfl (by decide))
                have hKy192 : okF (uZ F9 25 (wv)) := by unfold okF; omega
                have hMy193 : okMr cs ad gy117 i (x) (uZ F9 25 (wv)) rvy114 st op ai fa mu tb tp := okMr.upd fM hgy119 hKy192 (fun f a => hFy177 f (by omega)) hgy176 (hAvy114.mono (by omega)) (fun j a b => by
                    exact Or.inl (by rw [egy118, va_up_ne _ _ (by omega)]; rw [hfvy114 _ (by omega)]))
                have hFy194 : ∀ f, f ≠ 25 → (uZ F9 25 (wv)) f = F9 f := fun f n25 => ((uZ_n _ _ n25).trans rfl)
                have hFFb : (∀ f, f ≠ 12 → f ≠ 25 → (uZ F9 25 (wv)) f = F f) := fun f n12 n25 => (hFy194 f n25).trans (fF f n12 n25)
                have hey195 : (uZ F9 25 (wv)) 13 = F9 13 := (fn rfl (by decide))
                have hey196 : (uZ F9 25 (wv)) 14 = F9 14 := (fn rfl (by decide))
                refine z_lv (lv' := [(0, .ref (ad i)), (1, .int (zI ((n : Int)))), (2, .int (zI (z1))), (3, .int (zI (it))), (4, .int (zI (wv))), (5, .int (zI (0)))]) [1, 2, 3, 4, 5, 0] rfl ?_
                exact lp2 _ (it) (0) _ _ gy117 rfl hMy193 hFFb hWvy114 (fun j j1 => by rw [egy118, va_up_ne _ _ (by omega)]; rw [hfvy114 _ (by omega)]; exact f3 j j1) (by omega) (by omega) (by omega)
        have hgy197 := up_n egy25 ha1 (ne_o (i := i) (c := 1) (d := 0) rfl)
        have hgy198 := (hfvy27 (i + 1) (ne_o (i := i) (c := 1) (d := 0) rfl)).trans hgy197
        have hgy199 := (hfvy30 (i + 1) (ne_o (i := i) (c := 1) (d := 0) rfl)).trans hgy198
        have hFy200 : ∀ f, f ≠ 12 → Fvy30 f = F f := fun f n12 => ((hFvy30 f n12).trans ((hFvy27 f n12).trans ((uZ_n _ _ n12).trans rfl)))
        have hey201 : Fvy30 13 = F 13 := ((hFvy30 13 (by decide)).trans ((hFvy27 13 (by decide)).trans (fn rfl (by decide))))
        have hey202 : Fvy30 14 = F 14 := ((hFvy30 14 (by decide)).trans ((hFvy27 14 (by decide)).trans (fn rfl (by decide))))
        have hey203 : Fvy30 15 = F 15 := ((hFvy30 15 (by decide)).trans ((hFvy27 15 (by decide)).trans (fn rfl (by decide))))
        have hey204 : Fvy30 16 = F 16 := ((hFvy30 16 (by decide)).trans ((hFvy27 16 (by decide)).trans (fn rfl (by decide))))
        have hey205 : Fvy30 17 = F 17 := ((hFvy30 17 (by decide)).trans ((hFvy27 17 (by decide)).trans (fn rfl (by decide))))
        have hey206 : Fvy30 18 = F 18 := ((hFvy30 18 (by decide)).trans ((hFvy27 18 (by decide)).trans (fn rfl (by decide))))
        have hey207 : Fvy30 19 = F 19 := ((hFvy30 19 (by decide)).trans ((hFvy27 19 (by decide)).trans (fn rfl (by decide))))
        have hey208 : Fvy30 20 = F 20 := ((hFvy30 20 (by decide)).trans ((hFvy27 20 (by decide)).trans (fn rfl (by decide))))
        have hey209 : Fvy30 21 = F 21 := ((hFvy30 21 (by decide)).trans ((hFvy27 21 (by decide)).trans (fn rfl (by decide))))
        have hey210 : Fvy30 23 = F 23 := ((hFvy30 23 (by decide)).trans ((hFvy27 23 (by decide)).trans (fn rfl (by decide))))
        have hey211 : Fvy30 25 = F 25 := ((hFvy30 25 (by decide)).trans ((hFvy27 25 (by decide)).trans (fn rfl (by decide))))
        have hey212 : Fvy30 27 = F 27 := ((hFvy30 27 (by decide)).trans ((hFvy27 27 (by decide)).trans (fn rfl (by decide))))
        have hey213 : Fvy30 28 = F 28 := ((hFvy30 28 (by decide)).trans ((hFvy27 28 (by decide)).trans (fn rfl (by decide))))
        have hey214 : Fvy30 29 = F 29 := ((hFvy30 29 (by decide)).trans ((hFvy27 29 (by decide)).trans (fn rfl (by decide))))
        have hKy215 : okF Fvy30 := okF.mv hM.2.1 hey201 hey202 hey203 hey204 hey205 hey206 hey207 hey208 hey209 hey210 hey211 hey212 hey213 hey214
        have hMy216 : okMr cs ad gvy30 i (x) Fvy30 r st op ai fa mu tb tp := okMr.upd hM hcvy30 hKy215 (fun f a => hFy200 f (by omega)) hgy199 (hA.mono (by omega)) (fun j a b => by
            exact Or.inl (by rw [hfvy30 _ (by omega)]; rw [hfvy27 _ (by omega)]; rw [egy25, va_up_ne _ _ (by omega)]))
        have hFy217 : ∀ f, f ≠ 12 → Fvy30 f = F f := fun f n12 => ((hFvy30 f n12).trans ((hFvy27 f n12).trans ((uZ_n _ _ n12).trans rfl)))
        have hFF : (∀ f, f ≠ 12 → f ≠ 25 → Fvy30 f = F f) := fun f n12 n25 => (hFy217 f n12)
        have hey218 : Fvy30 13 = F 13 := ((hFvy30 13 (by decide)).trans ((hFvy27 13 (by decide)).trans (fn rfl (by decide))))
        have hey219 : Fvy30 14 = F 14 := ((hFvy30 14 (by decide)).trans ((hFvy27 14 (by decide)).trans (fn rfl (by decide))))
        refine z_lv (lv' := [(0, .ref (ad i)), (1, .int (zI ((n : Int)))), (2, .int (zI (z1))), (3, .int (zI (-1))), (4, .int (zI (1)))]) [2, 3, 4, 1, 0] rfl ?_
        exact lp1 _ (-1) (1) _ _ gvy30 rfl hMy216 hFF (fun j j1 => by rw [hfvy30 _ (by omega)]; rw [hfvy27 _ (by omega)]; rw [egy25, va_up_ne _ _ (by omega)]) (by omega) (by omega)
      · refine z_if_ne (tgt := 30) C dX10_toWarm_25 (by decide) (by omega) (fun h => absurd h (by omega)) (fun _ => ?_)
        refine z_iconst (z := 0) C dX10_toWarm_28 rfl ?_
        have hgy220 := up_n egy25 ha1 (ne_o (i := i) (c := 1) (d := 0) rfl)
        have hgy221 := (hfvy27 (i + 1) (ne_o (i := i) (c := 1) (d := 0) rfl)).trans hgy220
        have hgy222 := (hfvy30 (i + 1) (ne_o (i := i) (c := 1) (d := 0) rfl)).trans hgy221
        have hFy223 : ∀ f, f ≠ 12 → Fvy30 f = F f := fun f n12 => ((hFvy30 f n12).trans ((hFvy27 f n12).trans ((uZ_n _ _ n12).trans rfl)))
        have hey224 : Fvy30 13 = F 13 := ((hFvy30 13 (by decide)).trans ((hFvy27 13 (by decide)).trans (fn rfl (by decide))))
        have hey225 : Fvy30 14 = F 14 := ((hFvy30 14 (by decide)).trans ((hFvy27 14 (by decide)).trans (fn rfl (by decide))))
        have hey226 : Fvy30 15 = F 15 := ((hFvy30 15 (by decide)).trans ((hFvy27 15 (by decide)).trans (fn rfl (by decide))))
        have hey227 : Fvy30 16 = F 16 := ((hFvy30 16 (by decide)).trans ((hFvy27 16 (by decide)).trans (fn rfl (by decide))))
        have hey228 : Fvy30 17 = F 17 := ((hFvy30 17 (by decide)).trans ((hFvy27 17 (by decide)).trans (fn rfl (by decide))))
        have hey229 : Fvy30 18 = F 18 := ((hFvy30 18 (by decide)).trans ((hFvy27 18 (by decide)).trans (fn rfl (by decide))))
        have hey230 : Fvy30 19 = F 19 := ((hFvy30 19 (by decide)).trans ((hFvy27 19 (by decide)).trans (fn rfl (by decide))))
        have hey231 : Fvy30 20 = F 20 := ((hFvy30 20 (by decide)).trans ((hFvy27 20 (by decide)).trans (fn rfl (by decide))))
        have hey232 : Fvy30 21 = F 21 := ((hFvy30 21 (by decide)).trans ((hFvy27 21 (by decide)).trans (fn rfl (by decide))))
        have hey233 : Fvy30 23 = F 23 := ((hFvy30 23 (by decide)).trans ((hFvy27 23 (by decide)).trans (fn rfl (by decide))))
        have hey234 : Fvy30 25 = F 25 := ((hFvy30 25 (by decide)).trans ((hFvy27 25 (by decide)).trans (fn rfl (by decide))))
        have hey235 : Fvy30 27 = F 27 := ((hFvy30 27 (by decide)).trans ((hFvy27 27 (by decide)).trans (fn rfl (by decide))))
        have hey236 : Fvy30 28 = F 28 := ((hFvy30 28 (by decide)).trans ((hFvy27 28 (by decide)).trans (fn rfl (by decide))))
        have hey237 : Fvy30 29 = F 29 := ((hFvy30 29 (by decide)).trans ((hFvy27 29 (by decide)).trans (fn rfl (by decide))))
        have hKy238 : okF Fvy30 := okF.mv hM.2.1 hey224 hey225 hey226 hey227 hey228 hey229 hey230 hey231 hey232 hey233 hey234 hey235 hey236 hey237
        have hMy239 : okMr cs ad gvy30 i (x + 1) Fvy30 r st op ai fa mu tb tp := okMr.upd hM hcvy30 hKy238 (fun f a => hFy223 f (by omega)) hgy222 (hA.mono (by omega)) (fun j a b => by
            exact Or.inl (by rw [hfvy30 _ (by omega)]; rw [hfvy27 _ (by omega)]; rw [egy25, va_up_ne _ _ (by omega)]))
        have hkpy240 : Fvy30 13 = F 13 := ((hFvy30 13 (by decide)).trans ((hFvy27 13 (by decide)).trans (fn rfl (by decide))))
        have hkpy241 : Fvy30 14 = F 14 := ((hFvy30 14 (by decide)).trans ((hFvy27 14 (by decide)).trans (fn rfl (by decide))))
        have hkpy242 : Fvy30 17 = F 17 := ((hFvy30 17 (by decide)).trans ((hFvy27 17 (by decide)).trans (fn rfl (by decide))))
        have hkpy243 : Fvy30 20 = F 20 := ((hFvy30 20 (by decide)).trans ((hFvy27 20 (by decide)).trans (fn rfl (by decide))))
        have hkpy244 : Fvy30 21 = F 21 := ((hFvy30 21 (by decide)).trans ((hFvy27 21 (by decide)).trans (fn rfl (by decide))))
        have hkpy245 : Fvy30 23 = F 23 := ((hFvy30 23 (by decide)).trans ((hFvy27 23 (by decide)).trans (fn rfl (by decide))))
        have hkpy246 : Fvy30 24 = F 24 := ((hFvy30 24 (by decide)).trans ((hFvy27 24 (by decide)).trans (fn rfl (by decide))))
        exact z_iret C hr hlk dX10_toWarm_29 (by decide) (by decide) ⟨0, rfl, rfl, rfl, by omega, ⟨_, _, hMy239, ⟨hkpy240, hkpy241, hkpy242, hkpy243, hkpy244, hkpy245, hkpy246⟩⟩, fun j j1 => by rw [hfvy30 _ (by omega)]; rw [hfvy27 _ (by omega)]; rw [egy25, va_up_ne _ _ (by omega)]⟩
    · refine z_iconst (z := 2) C dX10_toWarm_21 rfl ?_
      have hey248 : Fvy27 12 = Fvy27 12 := rfl
      refine z_cV (As := [.int (zI (0)), .int (zI (2))]) (rest := []) (ci := 12) C (c_X10_right l D A cs tt N ad _ i hN _ hcvy27 (by omega) (0) (by omega) (2) (by omega)) (lt_A0 hN rfl) hay1 hcvy27 rfl rfl mv_yX10_right q_1648 hd_yX10_right (by decide) (Nat.le_of_ble_eq_true rfl) (by decide) dX10_toWarm_22 rfl (kI0 fun vy247 gvy247 hvy247 => ?_)
      obtain ⟨hrvy247, ⟨Fvy247, hcvy247, htvy247, hFvy247⟩, hfvy247⟩ := hvy247
      obtain rfl : vy247 = 0 := by omega
      refine z_if_ne (tgt := 30) C dX10_toWarm_25 (by decide) (by omega) (fun h => absurd h (by omega)) (fun _ => ?_)
      refine z_iconst (z := 0) C dX10_toWarm_28 rfl ?_
      have hgy249 := up_n egy25 ha1 (ne_o (i := i) (c := 1) (d := 0) rfl)
      have hgy250 := (hfvy27 (i + 1) (ne_o (i := i) (c := 1) (d := 0) rfl)).trans hgy249
      have hgy251 := (hfvy247 (i + 1) (ne_o (i := i) (c := 1) (d := 0) rfl)).trans hgy250
      have hFy252 : ∀ f, f ≠ 12 → Fvy247 f = F f := fun f n12 => ((hFvy247 f n12).trans ((hFvy27 f n12).trans ((uZ_n _ _ n12).trans rfl)))
      have hey253 : Fvy247 13 = F 13 := ((hFvy247 13 (by decide)).trans ((hFvy27 13 (by decide)).trans (fn rfl (by decide))))
      have hey254 : Fvy247 14 = F 14 := ((hFvy247 14 (by decide)).trans ((hFvy27 14 (by decide)).trans (fn rfl (by decide))))
      have hey255 : Fvy247 15 = F 15 := ((hFvy247 15 (by decide)).trans ((hFvy27 15 (by decide)).trans (fn rfl (by decide))))
      have hey256 : Fvy247 16 = F 16 := ((hFvy247 16 (by decide)).trans ((hFvy27 16 (by decide)).trans (fn rfl (by decide))))
      have hey257 : Fvy247 17 = F 17 := ((hFvy247 17 (by decide)).trans ((hFvy27 17 (by decide)).trans (fn rfl (by decide))))
      have hey258 : Fvy247 18 = F 18 := ((hFvy247 18 (by decide)).trans ((hFvy27 18 (by decide)).trans (fn rfl (by decide))))
      have hey259 : Fvy247 19 = F 19 := ((hFvy247 19 (by decide)).trans ((hFvy27 19 (by decide)).trans (fn rfl (by decide))))
      have hey260 : Fvy247 20 = F 20 := ((hFvy247 20 (by decide)).trans ((hFvy27 20 (by decide)).trans (fn rfl (by decide))))
      have hey261 : Fvy247 21 = F 21 := ((hFvy247 21 (by decide)).trans ((hFvy27 21 (by decide)).trans (fn rfl (by decide))))
      have hey262 : Fvy247 23 = F 23 := ((hFvy247 23 (by decide)).trans ((hFvy27 23 (by decide)).trans (fn rfl (by decide))))
      have hey263 : Fvy247 25 = F 25 := ((hFvy247 25 (by decide)).trans ((hFvy27 25 (by decide)).trans (fn rfl (by decide))))
      have hey264 : Fvy247 27 = F 27 := ((hFvy247 27 (by decide)).trans ((hFvy27 27 (by decide)).trans (fn rfl (by decide))))
      have hey265 : Fvy247 28 = F 28 := ((hFvy247 28 (by decide)).trans ((hFvy27 28 (by decide)).trans (fn rfl (by decide))))
      have hey266 : Fvy247 29 = F 29 := ((hFvy247 29 (by decide)).trans ((hFvy27 29 (by decide)).trans (fn rfl (by decide))))
      have hKy267 : okF Fvy247 := okF.mv hM.2.1 hey253 hey254 hey255 hey256 hey257 hey258 hey259 hey260 hey261 hey262 hey263 hey264 hey265 hey266
      have hMy268 : okMr cs ad gvy247 i (x + 1) Fvy247 r st op ai fa mu tb tp := okMr.upd hM hcvy247 hKy267 (fun f a => hFy252 f (by omega)) hgy251 (hA.mono (by omega)) (fun j a b => by
          exact Or.inl (by rw [hfvy247 _ (by omega)]; rw [hfvy27 _ (by omega)]; rw [egy25, va_up_ne _ _ (by omega)]))
      have hkpy269 : Fvy247 13 = F 13 := ((hFvy247 13 (by decide)).trans ((hFvy27 13 (by decide)).trans (fn rfl (by decide))))
      have hkpy270 : Fvy247 14 = F 14 := ((hFvy247 14 (by decide)).trans ((hFvy27 14 (by decide)).trans (fn rfl (by decide))))
      have hkpy271 : Fvy247 17 = F 17 := ((hFvy247 17 (by decide)).trans ((hFvy27 17 (by decide)).trans (fn rfl (by decide))))
      have hkpy272 : Fvy247 20 = F 20 := ((hFvy247 20 (by decide)).trans ((hFvy27 20 (by decide)).trans (fn rfl (by decide))))
      have hkpy273 : Fvy247 21 = F 21 := ((hFvy247 21 (by decide)).trans ((hFvy27 21 (by decide)).trans (fn rfl (by decide))))
      have hkpy274 : Fvy247 23 = F 23 := ((hFvy247 23 (by decide)).trans ((hFvy27 23 (by decide)).trans (fn rfl (by decide))))
      have hkpy275 : Fvy247 24 = F 24 := ((hFvy247 24 (by decide)).trans ((hFvy27 24 (by decide)).trans (fn rfl (by decide))))
      exact z_iret C hr hlk dX10_toWarm_29 (by decide) (by decide) ⟨0, rfl, rfl, rfl, by omega, ⟨_, _, hMy268, ⟨hkpy269, hkpy270, hkpy271, hkpy272, hkpy273, hkpy274, hkpy275⟩⟩, fun j j1 => by rw [hfvy247 _ (by omega)]; rw [hfvy27 _ (by omega)]; rw [egy25, va_up_ne _ _ (by omega)]⟩
  · refine z_if_eq (tgt := 28) C dX10_toWarm_10 (by decide) (by omega) (fun _ => ?_) (fun h => absurd h (by omega))
    refine z_iconst (z := 0) C dX10_toWarm_28 rfl ?_
    have hgy276 := up_n egy25 ha1 (ne_o (i := i) (c := 1) (d := 0) rfl)
    have hgy277 := (hfvy27 (i + 1) (ne_o (i := i) (c := 1) (d := 0) rfl)).trans hgy276
    have hFy278 : ∀ f, f ≠ 12 → Fvy27 f = F f := fun f n12 => ((hFvy27 f n12).trans ((uZ_n _ _ n12).trans rfl))
    have hey279 : Fvy27 13 = F 13 := ((hFvy27 13 (by decide)).trans (fn rfl (by decide)))
    have hey280 : Fvy27 14 = F 14 := ((hFvy27 14 (by decide)).trans (fn rfl (by decide)))
    have hey281 : Fvy27 15 = F 15 := ((hFvy27 15 (by decide)).trans (fn rfl (by decide)))
    have hey282 : Fvy27 16 = F 16 := ((hFvy27 16 (by decide)).trans (fn rfl (by decide)))
    have hey283 : Fvy27 17 = F 17 := ((hFvy27 17 (by decide)).trans (fn rfl (by decide)))
    have hey284 : Fvy27 18 = F 18 := ((hFvy27 18 (by decide)).trans (fn rfl (by decide)))
    have hey285 : Fvy27 19 = F 19 := ((hFvy27 19 (by decide)).trans (fn rfl (by decide)))
    have hey286 : Fvy27 20 = F 20 := ((hFvy27 20 (by decide)).trans (fn rfl (by decide)))
    have hey287 : Fvy27 21 = F 21 := ((hFvy27 21 (by decide)).trans (fn rfl (by decide)))
    have hey288 : Fvy27 23 = F 23 := ((hFvy27 23 (by decide)).trans (fn rfl (by decide)))
    have hey289 : Fvy27 25 = F 25 := ((hFvy27 25 (by decide)).trans (fn rfl (by decide)))
    have hey290 : Fvy27 27 = F 27 := ((hFvy27 27 (by decide)).trans (fn rfl (by decide)))
    have hey291 : Fvy27 28 = F 28 := ((hFvy27 28 (by decide)).trans (fn rfl (by decide)))
    have hey292 : Fvy27 29 = F 29 := ((hFvy27 29 (by decide)).trans (fn rfl (by decide)))
    have hKy293 : okF Fvy27 := okF.mv hM.2.1 hey279 hey280 hey281 hey282 hey283 hey284 hey285 hey286 hey287 hey288 hey289 hey290 hey291 hey292
    have hMy294 : okMr cs ad gvy27 i (x + 1) Fvy27 r st op ai fa mu tb tp := okMr.upd hM hcvy27 hKy293 (fun f a => hFy278 f (by omega)) hgy277 (hA.mono (by omega)) (fun j a b => by
        exact Or.inl (by rw [hfvy27 _ (by omega)]; rw [egy25, va_up_ne _ _ (by omega)]))
    have hkpy295 : Fvy27 13 = F 13 := ((hFvy27 13 (by decide)).trans (fn rfl (by decide)))
    have hkpy296 : Fvy27 14 = F 14 := ((hFvy27 14 (by decide)).trans (fn rfl (by decide)))
    have hkpy297 : Fvy27 17 = F 17 := ((hFvy27 17 (by decide)).trans (fn rfl (by decide)))
    have hkpy298 : Fvy27 20 = F 20 := ((hFvy27 20 (by decide)).trans (fn rfl (by decide)))
    have hkpy299 : Fvy27 21 = F 21 := ((hFvy27 21 (by decide)).trans (fn rfl (by decide)))
    have hkpy300 : Fvy27 23 = F 23 := ((hFvy27 23 (by decide)).trans (fn rfl (by decide)))
    have hkpy301 : Fvy27 24 = F 24 := ((hFvy27 24 (by decide)).trans (fn rfl (by decide)))
    exact z_iret C hr hlk dX10_toWarm_29 (by decide) (by decide) ⟨0, rfl, rfl, rfl, by omega, ⟨_, _, hMy294, ⟨hkpy295, hkpy296, hkpy297, hkpy298, hkpy299, hkpy300, hkpy301⟩⟩, fun j j1 => by rw [hfvy27 _ (by omega)]; rw [egy25, va_up_ne _ _ (by omega)]⟩

set_option maxRecDepth 100000 in
set_option maxHeartbeats 4000000 in
theorem c_X10_toWarm_b (l : Launch) (D : va_G) (A : Nat → Prop) (cs : Nat → ClassId) (tt : Nat) (N : Nat) (ad : Nat → Nat) (g : Nat → va_E) (i : Nat) (hN : i + 30 ≤ N) (x : Int) (hx : 0 ≤ x ∧ x ≤ 512) (F r : Nat → Int) {st op ai fa mu tb tp : Nat → Int} (hM : okMr cs ad g i x F r st op ai fa mu tb tp) (z : Int) (hz : -2147483648 ≤ z ∧ z ≤ 2147483647) (hzo : z < 0 ∨ 3 < z) (z1 : Int) (hz1 : -2147483648 ≤ z1 ∧ z1 ≤ 2147483647) : zM l yX10_toWarm cX10_toWarm 6 (some .int) ({ frames := 11, cells := 0, slots := 0, locals := 660 } : Room) D A cs tt N ad g [.ref (ad i), .int (zI (z)), .int (zI (z1))] (rI0 N ad fun q g' => (-2147483648 ≤ q ∧ q ≤ 2147483647) ∧ (∃ F' r' : Nat → Int, okMr cs ad g' i (x + 1) F' r' st op ai fa mu tb tp ∧ (F' 13 = F 13 ∧ F' 14 = F 14 ∧ F' 17 = F 17 ∧ F' 20 = F 20 ∧ F' 21 = F 21 ∧ F' 23 = F 23 ∧ F' 24 = F 24)) ∧ ∀ j, j < i ∨ i + 30 ≤ j → g' j = g j) := by
  obtain ⟨hg, ⟨⟨e13, e14, e25, e27, e29⟩, k15, k16, k17, k18, k19, k20, k23, k21⟩, hRD, hTx, hA, ns, nh, nd, rf, pi, te, ki, li, ok1, ok2, fo, dd, dps, ⟨ha1, ha2, ha3, ha4, ha5, ha6, ha7, ha8, ha9, ha10, ha11, ha12, ha13, ha14, ha15, ha24, ha25, ha26, ha27, ha28, ha29⟩, hEv, hPt, hns, htp⟩ := id hM
  obtain ⟨-, hop, hai, hfa, hT, hT1⟩ := id hEv
  have hay1 : zAt ad (i) (ad i) := rfl
  have hay2 : zAt ad (i + 1) (ad (i + 1)) := rfl
  have hay3 : zAt ad (i + 2) (ad (i + 2)) := rfl
  have hay4 : zAt ad (i + 3) (ad (i + 3)) := rfl
  have hay5 : zAt ad (i + 4) (ad (i + 4)) := rfl
  have hay6 : zAt ad (i + 5) (ad (i + 5)) := rfl
  have hay7 : zAt ad (i + 6) (ad (i + 6)) := rfl
  have hay8 : zAt ad (i + 7) (ad (i + 7)) := rfl
  have hay9 : zAt ad (i + 8) (ad (i + 8)) := rfl
  have hay10 : zAt ad (i + 9) (ad (i + 9)) := rfl
  have hay11 : zAt ad (i + 10) (ad (i + 10)) := rfl
  have hay12 : zAt ad (i + 11) (ad (i + 11)) := rfl
  have hay13 : zAt ad (i + 12) (ad (i + 12)) := rfl
  have hay14 : zAt ad (i + 13) (ad (i + 13)) := rfl
  have hay15 : zAt ad (i + 14) (ad (i + 14)) := rfl
  have hay16 : zAt ad (i + 15) (ad (i + 15)) := rfl
  have hay17 : zAt ad (i + 24) (ad (i + 24)) := rfl
  have hay18 : zAt ad (i + 25) (ad (i + 25)) := rfl
  have hay19 : zAt ad (i + 26) (ad (i + 26)) := rfl
  have hay20 : zAt ad (i + 27) (ad (i + 27)) := rfl
  have hay21 : zAt ad (i + 28) (ad (i + 28)) := rfl
  have hay22 : zAt ad (i + 29) (ad (i + 29)) := rfl
  obtain ⟨⟨hsyy23, htyy23, hnyy23, hpyy23⟩, hlyy23⟩ := okA.at0 hA
  simp only [Nat.zero_add] at hsyy23 hnyy23 hpyy23
  have hmn : ∀ s, s < 4 → 0 ≤ r (6 + 86 * s) ∧ r (6 + 86 * s) ≤ 12 := fun s hs => (hsyy23 s hs).1
  have h5 : 0 ≤ r 5 ∧ r 5 ≤ 6 := hpyy23
  refine z_of (by decide) (Nat.le_of_ble_eq_true rfl) ?_
  intro pZ eZ sZ mZ below meth cZ C hr hlk hnm
  refine z_lv (lv' := [(0, .ref (ad i)), (1, .int (zI (z))), (2, .int (zI (z1)))]) [0, 1, 2] rfl ?_
  refine z_aload_n C 0 dX10_toWarm_0 rfl ?_
  refine z_iconst (z := 0) C dX10_toWarm_1 rfl ?_
  refine z_put (fs' := mF ad (i) (uZ F 12 (0))) C (lt_A0 hN rfl) hay1 hg tyX10 tyX10_ok nmX10 rfl inA_X10 12 (by decide) q_1471 rfl rfl rfl rfl (Nat.le_of_ble_eq_true rfl) rfl dX10_toWarm_2 (fun gy24 egy25 => ?_)
  have hgy26 := up_s egy25
  refine z_aload_n C 0 dX10_toWarm_5 rfl ?_
  refine z_iload_n C 1 dX10_toWarm_6 rfl ?_
  have h13vy27 : (uZ F 12 (0)) 13 = F 13 := (fn rfl (by decide))
  have hey28 : (uZ F 12 (0)) 12 = 0 := (uZ_s _ _ _)
  refine z_cV (As := [.int (zI (z))]) (rest := []) (ci := 12) C (c_X10_isSlope l D A cs tt N ad _ i hN _ hgy26 (by omega) (by omega) (z) (by omega)) (lt_A0 hN rfl) hay1 hgy26 rfl rfl mv_yX10_isSlope q_1803 hd_yX10_isSlope (by decide) (Nat.le_of_ble_eq_true rfl) (by decide) dX10_toWarm_7 rfl (kI0 fun vy27 gvy27 hvy27 => ?_)
  rw [h13vy27] at hvy27
  obtain ⟨hrvy27, ⟨Fvy27, hcvy27, htvy27, hFvy27⟩, hfvy27⟩ := hvy27
  obtain rfl : vy27 = 0 := by omega
  refine z_if_eq (tgt := 28) C dX10_toWarm_10 (by decide) (by omega) (fun _ => ?_) (fun h => absurd h (by omega))
  refine z_iconst (z := 0) C dX10_toWarm_28 rfl ?_
  have hgy29 := up_n egy25 ha1 (ne_o (i := i) (c := 1) (d := 0) rfl)
  have hgy30 := (hfvy27 (i + 1) (ne_o (i := i) (c := 1) (d := 0) rfl)).trans hgy29
  have hFy31 : ∀ f, f ≠ 12 → Fvy27 f = F f := fun f n12 => ((hFvy27 f n12).trans ((uZ_n _ _ n12).trans rfl))
  have hey32 : Fvy27 13 = F 13 := ((hFvy27 13 (by decide)).trans (fn rfl (by decide)))
  have hey33 : Fvy27 14 = F 14 := ((hFvy27 14 (by decide)).trans (fn rfl (by decide)))
  have hey34 : Fvy27 15 = F 15 := ((hFvy27 15 (by decide)).trans (fn rfl (by decide)))
  have hey35 : Fvy27 16 = F 16 := ((hFvy27 16 (by decide)).trans (fn rfl (by decide)))
  have hey36 : Fvy27 17 = F 17 := ((hFvy27 17 (by decide)).trans (fn rfl (by decide)))
  have hey37 : Fvy27 18 = F 18 := ((hFvy27 18 (by decide)).trans (fn rfl (by decide)))
  have hey38 : Fvy27 19 = F 19 := ((hFvy27 19 (by decide)).trans (fn rfl (by decide)))
  have hey39 : Fvy27 20 = F 20 := ((hFvy27 20 (by decide)).trans (fn rfl (by decide)))
  have hey40 : Fvy27 21 = F 21 := ((hFvy27 21 (by decide)).trans (fn rfl (by decide)))
  have hey41 : Fvy27 23 = F 23 := ((hFvy27 23 (by decide)).trans (fn rfl (by decide)))
  have hey42 : Fvy27 25 = F 25 := ((hFvy27 25 (by decide)).trans (fn rfl (by decide)))
  have hey43 : Fvy27 27 = F 27 := ((hFvy27 27 (by decide)).trans (fn rfl (by decide)))
  have hey44 : Fvy27 28 = F 28 := ((hFvy27 28 (by decide)).trans (fn rfl (by decide)))
  have hey45 : Fvy27 29 = F 29 := ((hFvy27 29 (by decide)).trans (fn rfl (by decide)))
  have hKy46 : okF Fvy27 := okF.mv hM.2.1 hey32 hey33 hey34 hey35 hey36 hey37 hey38 hey39 hey40 hey41 hey42 hey43 hey44 hey45
  have hMy47 : okMr cs ad gvy27 i (x + 1) Fvy27 r st op ai fa mu tb tp := okMr.upd hM hcvy27 hKy46 (fun f a => hFy31 f (by omega)) hgy30 (hA.mono (by omega)) (fun j a b => by
      exact Or.inl (by rw [hfvy27 _ (by omega)]; rw [egy25, va_up_ne _ _ (by omega)]))
  have hkpy48 : Fvy27 13 = F 13 := ((hFvy27 13 (by decide)).trans (fn rfl (by decide)))
  have hkpy49 : Fvy27 14 = F 14 := ((hFvy27 14 (by decide)).trans (fn rfl (by decide)))
  have hkpy50 : Fvy27 17 = F 17 := ((hFvy27 17 (by decide)).trans (fn rfl (by decide)))
  have hkpy51 : Fvy27 20 = F 20 := ((hFvy27 20 (by decide)).trans (fn rfl (by decide)))
  have hkpy52 : Fvy27 21 = F 21 := ((hFvy27 21 (by decide)).trans (fn rfl (by decide)))
  have hkpy53 : Fvy27 23 = F 23 := ((hFvy27 23 (by decide)).trans (fn rfl (by decide)))
  have hkpy54 : Fvy27 24 = F 24 := ((hFvy27 24 (by decide)).trans (fn rfl (by decide)))
  exact z_iret C hr hlk dX10_toWarm_29 (by decide) (by decide) ⟨0, rfl, rfl, rfl, by omega, ⟨_, _, hMy47, ⟨hkpy48, hkpy49, hkpy50, hkpy51, hkpy52, hkpy53, hkpy54⟩⟩, fun j j1 => by rw [hfvy27 _ (by omega)]; rw [egy25, va_up_ne _ _ (by omega)]⟩

set_option maxRecDepth 100000 in
set_option maxHeartbeats 4000000 in
theorem c_X10_toWarm (l : Launch) (D : va_G) (A : Nat → Prop) (cs : Nat → ClassId) (tt : Nat) (N : Nat) (ad : Nat → Nat) (g : Nat → va_E) (i : Nat) (hN : i + 30 ≤ N) (x : Int) (hx : 0 ≤ x ∧ x ≤ 512) (F r : Nat → Int) {st op ai fa mu tb tp : Nat → Int} (hM : okMr cs ad g i x F r st op ai fa mu tb tp) (z : Int) (hz : -2147483648 ≤ z ∧ z ≤ 2147483647) (z1 : Int) (hz1 : -2147483648 ≤ z1 ∧ z1 ≤ 2147483647) : zM l yX10_toWarm cX10_toWarm 6 (some .int) ({ frames := 11, cells := 0, slots := 0, locals := 660 } : Room) D A cs tt N ad g [.ref (ad i), .int (zI (z)), .int (zI (z1))] (rI0 N ad fun q g' => (-2147483648 ≤ q ∧ q ≤ 2147483647) ∧ (∃ F' r' : Nat → Int, okMr cs ad g' i (x + 1) F' r' st op ai fa mu tb tp ∧ (F' 13 = F 13 ∧ F' 14 = F 14 ∧ F' 17 = F 17 ∧ F' 20 = F 20 ∧ F' 21 = F 21 ∧ F' 23 = F 23 ∧ F' 24 = F 24)) ∧ ∀ j, j < i ∨ i + 30 ≤ j → g' j = g j) := by
  by_cases h9 : 0 ≤ z ∧ z ≤ 3
  · obtain ⟨n, rfl⟩ : ∃ n : Nat, z = (n : Int) := ⟨z.toNat, by omega⟩
    exact c_X10_toWarm_a l D A cs tt N ad g i hN x hx F r hM n (by omega) z1 hz1
  · exact c_X10_toWarm_b l D A cs tt N ad g i hN x hx F r hM z hz (by omega) z1 hz1
end
