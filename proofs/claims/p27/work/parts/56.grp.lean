section
-- 56.words.lean.txt
-- words of read
theorem n_834 : (Jvm.Cond.methodLinkNest "SnowRecorder$TextReader" (158 : Nat) ({ cls := "SnowRecorder", name := "kindWord", desc := "(I)Ljava/lang/String;" } : Jvm.MethodName) "SnowRecorder") ∈ NW := NW_m4 114 (by decide +kernel) (by decide +kernel)
theorem q_742 : (Jvm.Cond.methodLink "SnowRecorder$TextReader" (54 : Nat) ({ cls := "SnowRecorder$TextReader", name := "peek", desc := "()V" } : Jvm.MethodName)) ∈ AW := AW_m4 22 (by decide +kernel) (by decide +kernel)
theorem q_744 : (Jvm.Cond.instanceMethod ({ cls := "SnowRecorder$TextReader", name := "peek", desc := "()V" } : Jvm.MethodName)) ∈ AW := AW_m4 24 (by decide +kernel) (by decide +kernel)
theorem q_745 : (Jvm.Cond.code ({ cls := "SnowRecorder$TextReader", name := "peek", desc := "()V" } : Jvm.MethodName) prog_9_method_15_code (1 : Nat) (Option.none : Option Jvm.ClassFile.FieldType)) ∈ AW := AW_m4 25 (by decide +kernel) (by decide +kernel)
theorem q_746 : (Jvm.Cond.methodLink "SnowRecorder$TextReader" (171 : Nat) ({ cls := "SnowRecorder$TextReader", name := "typeOf", desc := "(I)I" } : Jvm.MethodName)) ∈ AW := AW_m4 26 (by decide +kernel) (by decide +kernel)
theorem q_747 : (Jvm.Cond.static ({ cls := "SnowRecorder$TextReader", name := "typeOf", desc := "(I)I" } : Jvm.MethodName)) ∈ AW := AW_m4 27 (by decide +kernel) (by decide +kernel)
theorem q_748 : (Jvm.Cond.code ({ cls := "SnowRecorder$TextReader", name := "typeOf", desc := "(I)I" } : Jvm.MethodName) prog_9_method_16_code (1 : Nat) (Option.some Jvm.ClassFile.FieldType.int)) ∈ AW := AW_m4 28 (by decide +kernel) (by decide +kernel)
theorem q_754 : (Jvm.Cond.methodLink "SnowRecorder$TextReader" (63 : Nat) ({ cls := "SnowRecorder$TextReader", name := "is", desc := "(Ljava/lang/String;)Z" } : Jvm.MethodName)) ∈ AW := AW_m4 34 (by decide +kernel) (by decide +kernel)
theorem q_756 : (Jvm.Cond.instanceMethod ({ cls := "SnowRecorder$TextReader", name := "is", desc := "(Ljava/lang/String;)Z" } : Jvm.MethodName)) ∈ AW := AW_m4 36 (by decide +kernel) (by decide +kernel)
theorem q_757 : (Jvm.Cond.code ({ cls := "SnowRecorder$TextReader", name := "is", desc := "(Ljava/lang/String;)Z" } : Jvm.MethodName) prog_9_method_13_code (3 : Nat) (Option.some Jvm.ClassFile.FieldType.boolean)) ∈ AW := AW_m4 37 (by decide +kernel) (by decide +kernel)
theorem q_758 : (Jvm.Cond.methodLink "SnowRecorder$TextReader" (162 : Nat) ({ cls := "java/lang/String", name := "length", desc := "()I" } : Jvm.MethodName)) ∈ AW := AW_m4 38 (by decide +kernel) (by decide +kernel)
theorem q_759 : (Jvm.Cond.instanceMethod ({ cls := "java/lang/String", name := "length", desc := "()I" } : Jvm.MethodName)) ∈ AW := AW_m4 39 (by decide +kernel) (by decide +kernel)
theorem q_760 : (Jvm.Cond.selects "java/lang/String" ({ cls := "java/lang/String", name := "length", desc := "()I" } : Jvm.MethodName) ({ cls := "java/lang/String", name := "length", desc := "()I" } : Jvm.MethodName)) ∈ AW := AW_m4 40 (by decide +kernel) (by decide +kernel)
theorem q_761 : (Jvm.Cond.code ({ cls := "java/lang/String", name := "length", desc := "()I" } : Jvm.MethodName) prog_25_method_54_code (1 : Nat) (Option.some Jvm.ClassFile.FieldType.int)) ∈ AW := AW_m4 41 (by decide +kernel) (by decide +kernel)
theorem q_767 : (Jvm.Cond.methodLink "SnowRecorder$TextReader" (167 : Nat) ({ cls := "java/lang/String", name := "charAt", desc := "(I)C" } : Jvm.MethodName)) ∈ AW := AW_m4 47 (by decide +kernel) (by decide +kernel)
theorem q_768 : (Jvm.Cond.instanceMethod ({ cls := "java/lang/String", name := "charAt", desc := "(I)C" } : Jvm.MethodName)) ∈ AW := AW_m4 48 (by decide +kernel) (by decide +kernel)
theorem q_769 : (Jvm.Cond.selects "java/lang/String" ({ cls := "java/lang/String", name := "charAt", desc := "(I)C" } : Jvm.MethodName) ({ cls := "java/lang/String", name := "charAt", desc := "(I)C" } : Jvm.MethodName)) ∈ AW := AW_m4 49 (by decide +kernel) (by decide +kernel)
theorem q_770 : (Jvm.Cond.code ({ cls := "java/lang/String", name := "charAt", desc := "(I)C" } : Jvm.MethodName) prog_25_method_56_code (2 : Nat) (Option.some Jvm.ClassFile.FieldType.char)) ∈ AW := AW_m4 50 (by decide +kernel) (by decide +kernel)
theorem q_809 : (Jvm.Cond.methodLink "SnowRecorder$TextReader" (91 : Nat) ({ cls := "SnowRecorder$TextReader", name := "fail", desc := "(II)V" } : Jvm.MethodName)) ∈ AW := AW_m4 89 (by decide +kernel) (by decide +kernel)
theorem q_811 : (Jvm.Cond.instanceMethod ({ cls := "SnowRecorder$TextReader", name := "fail", desc := "(II)V" } : Jvm.MethodName)) ∈ AW := AW_m4 91 (by decide +kernel) (by decide +kernel)
theorem q_812 : (Jvm.Cond.code ({ cls := "SnowRecorder$TextReader", name := "fail", desc := "(II)V" } : Jvm.MethodName) prog_9_method_12_code (3 : Nat) (Option.none : Option Jvm.ClassFile.FieldType)) ∈ AW := AW_m4 92 (by decide +kernel) (by decide +kernel)
theorem q_813 : (Jvm.Cond.methodLink "SnowRecorder$TextReader" (98 : Nat) ({ cls := "SnowRecorder$TextReader", name := "take", desc := "()V" } : Jvm.MethodName)) ∈ AW := AW_m4 93 (by decide +kernel) (by decide +kernel)
theorem q_815 : (Jvm.Cond.instanceMethod ({ cls := "SnowRecorder$TextReader", name := "take", desc := "()V" } : Jvm.MethodName)) ∈ AW := AW_m4 95 (by decide +kernel) (by decide +kernel)
theorem q_816 : (Jvm.Cond.code ({ cls := "SnowRecorder$TextReader", name := "take", desc := "()V" } : Jvm.MethodName) prog_9_method_14_code (1 : Nat) (Option.none : Option Jvm.ClassFile.FieldType)) ∈ AW := AW_m4 96 (by decide +kernel) (by decide +kernel)
theorem q_835 : (Jvm.Cond.static ({ cls := "SnowRecorder", name := "kindWord", desc := "(I)Ljava/lang/String;" } : Jvm.MethodName)) ∈ AW := AW_m4 115 (by decide +kernel) (by decide +kernel)
theorem q_836 : (Jvm.Cond.code ({ cls := "SnowRecorder", name := "kindWord", desc := "(I)Ljava/lang/String;" } : Jvm.MethodName) prog_1_method_62_code (1 : Nat) (Option.some (Jvm.ClassFile.FieldType.object "java/lang/String"))) ∈ AW := AW_m4 116 (by decide +kernel) (by decide +kernel)
theorem s_11 : Cond.selects "SnowRecorder$TextReader" ({ cls := "SnowRecorder$TextReader", name := "is", desc := "(Ljava/lang/String;)Z" } : Jvm.MethodName) ({ cls := "SnowRecorder$TextReader", name := "is", desc := "(Ljava/lang/String;)Z" } : Jvm.MethodName) ∈ AW := AW_m 11 (by decide +kernel) (by decide +kernel)
theorem s_13 : Cond.selects "SnowRecorder$TextReader" ({ cls := "SnowRecorder$TextReader", name := "fail", desc := "(II)V" } : Jvm.MethodName) ({ cls := "SnowRecorder$TextReader", name := "fail", desc := "(II)V" } : Jvm.MethodName) ∈ AW := AW_m 13 (by decide +kernel) (by decide +kernel)
theorem s_14 : Cond.selects "SnowRecorder$TextReader" ({ cls := "SnowRecorder$TextReader", name := "take", desc := "()V" } : Jvm.MethodName) ({ cls := "SnowRecorder$TextReader", name := "take", desc := "()V" } : Jvm.MethodName) ∈ AW := AW_m 14 (by decide +kernel) (by decide +kernel)
theorem s_9 : Cond.selects "SnowRecorder$TextReader" ({ cls := "SnowRecorder$TextReader", name := "peek", desc := "()V" } : Jvm.MethodName) ({ cls := "SnowRecorder$TextReader", name := "peek", desc := "()V" } : Jvm.MethodName) ∈ AW := AW_m 9 (by decide +kernel) (by decide +kernel)
theorem hd_yX7_typeOf : yX7_typeOf.cls ≠ "java/lang/invoke/MethodHandle" ∧ yX7_typeOf.cls ≠ "java/lang/invoke/VarHandle" ∧ (parseMethodDescriptor yX7_typeOf.desc).map (fun d => d.parameters.length) = some 1 := by decide +kernel
theorem hd_yX7_peek : yX7_peek.cls ≠ "java/lang/invoke/MethodHandle" ∧ yX7_peek.cls ≠ "java/lang/invoke/VarHandle" ∧ (parseMethodDescriptor yX7_peek.desc).map (fun d => d.parameters.length) = some 0 := by decide +kernel
theorem hd_yX7_take : yX7_take.cls ≠ "java/lang/invoke/MethodHandle" ∧ yX7_take.cls ≠ "java/lang/invoke/VarHandle" ∧ (parseMethodDescriptor yX7_take.desc).map (fun d => d.parameters.length) = some 0 := by decide +kernel
theorem hd_yX7_fail : yX7_fail.cls ≠ "java/lang/invoke/MethodHandle" ∧ yX7_fail.cls ≠ "java/lang/invoke/VarHandle" ∧ (parseMethodDescriptor yX7_fail.desc).map (fun d => d.parameters.length) = some 2 := by decide +kernel
theorem hd_yJ0_length_8abf5 : yJ0_length_8abf5.cls ≠ "java/lang/invoke/MethodHandle" ∧ yJ0_length_8abf5.cls ≠ "java/lang/invoke/VarHandle" ∧ (parseMethodDescriptor yJ0_length_8abf5.desc).map (fun d => d.parameters.length) = some 0 := by decide +kernel
theorem hd_yJ0_charAt_5068e : yJ0_charAt_5068e.cls ≠ "java/lang/invoke/MethodHandle" ∧ yJ0_charAt_5068e.cls ≠ "java/lang/invoke/VarHandle" ∧ (parseMethodDescriptor yJ0_charAt_5068e.desc).map (fun d => d.parameters.length) = some 1 := by decide +kernel
theorem hd_yX9_kindWord : yX9_kindWord.cls ≠ "java/lang/invoke/MethodHandle" ∧ yX9_kindWord.cls ≠ "java/lang/invoke/VarHandle" ∧ (parseMethodDescriptor yX9_kindWord.desc).map (fun d => d.parameters.length) = some 1 := by decide +kernel
theorem hd_yX7_is : yX7_is.cls ≠ "java/lang/invoke/MethodHandle" ∧ yX7_is.cls ≠ "java/lang/invoke/VarHandle" ∧ (parseMethodDescriptor yX7_is.desc).map (fun d => d.parameters.length) = some 1 := by decide +kernel
theorem ms_yX7_typeOf : zWs yX7_typeOf cX7_typeOf 1 (some .int) := ⟨q_747, q_2, q_748⟩
theorem mv_yX7_peek : zWv yX7_peek cX7_peek 1 none := ⟨q_744, s_9, q_2, q_745⟩
theorem mv_yX7_take : zWv yX7_take cX7_take 1 none := ⟨q_815, s_14, q_2, q_816⟩
theorem mv_yX7_fail : zWv yX7_fail cX7_fail 3 none := ⟨q_811, s_13, q_2, q_812⟩
theorem mv_yJ0_length_8abf5 : zWv yJ0_length_8abf5 cJ0_length_8abf5 1 (some .int) := ⟨q_759, q_760, q_13, q_761⟩
theorem mv_yJ0_charAt_5068e : zWv yJ0_charAt_5068e cJ0_charAt_5068e 2 (some .char) := ⟨q_768, q_769, q_13, q_770⟩
theorem ms_yX9_kindWord : zWs yX9_kindWord cX9_kindWord 1 (some (.object "java/lang/String")) := ⟨q_835, q_1, q_836⟩
theorem mv_yX7_is : zWv yX7_is cX7_is 3 (some .boolean) := ⟨q_756, s_11, q_2, q_757⟩
end
section
-- 57.dec.lean.txt
-- decode rows of read
theorem dX7_typeOf_0 : decode cX7_typeOf 0 = .ok (.iload_n 0, 1) := by decide +kernel
theorem dX7_typeOf_1 : decode cX7_typeOf 1 = .ok (.bipush 97, 2) := by decide +kernel
theorem dX7_typeOf_3 : decode cX7_typeOf 3 = .ok (.if_icmp .lt 11, 3) := by decide +kernel
theorem dX7_typeOf_14 : decode cX7_typeOf 14 = .ok (.iload_n 0, 1) := by decide +kernel
theorem dX7_typeOf_15 : decode cX7_typeOf 15 = .ok (.bipush 48, 2) := by decide +kernel
theorem dX7_typeOf_17 : decode cX7_typeOf 17 = .ok (.if_icmp .lt 11, 3) := by decide +kernel
theorem dX7_typeOf_28 : decode cX7_typeOf 28 = .ok (.iload_n 0, 1) := by decide +kernel
theorem dX7_typeOf_29 : decode cX7_typeOf 29 = .ok (.bipush 59, 2) := by decide +kernel
theorem dX7_typeOf_31 : decode cX7_typeOf 31 = .ok (.if_icmp .ne 7, 3) := by decide +kernel
theorem dX7_typeOf_38 : decode cX7_typeOf 38 = .ok (.iload_n 0, 1) := by decide +kernel
theorem dX7_typeOf_39 : decode cX7_typeOf 39 = .ok (.bipush 45, 2) := by decide +kernel
theorem dX7_typeOf_41 : decode cX7_typeOf 41 = .ok (.if_icmp .ne 7, 3) := by decide +kernel
theorem dX7_typeOf_48 : decode cX7_typeOf 48 = .ok (.iconst 5, 1) := by decide +kernel
theorem dX7_typeOf_49 : decode cX7_typeOf 49 = .ok (.ireturn, 1) := by decide +kernel
theorem dX7_typeOf_44 : decode cX7_typeOf 44 = .ok (.iconst 4, 1) := by decide +kernel
theorem dX7_typeOf_45 : decode cX7_typeOf 45 = .ok (.goto 4, 3) := by decide +kernel
theorem dX7_typeOf_34 : decode cX7_typeOf 34 = .ok (.iconst 3, 1) := by decide +kernel
theorem dX7_typeOf_35 : decode cX7_typeOf 35 = .ok (.goto 14, 3) := by decide +kernel
theorem dX7_typeOf_20 : decode cX7_typeOf 20 = .ok (.iload_n 0, 1) := by decide +kernel
theorem dX7_typeOf_21 : decode cX7_typeOf 21 = .ok (.bipush 57, 2) := by decide +kernel
theorem dX7_typeOf_23 : decode cX7_typeOf 23 = .ok (.if_icmp .gt 5, 3) := by decide +kernel
theorem dX7_typeOf_26 : decode cX7_typeOf 26 = .ok (.iconst 2, 1) := by decide +kernel
theorem dX7_typeOf_27 : decode cX7_typeOf 27 = .ok (.ireturn, 1) := by decide +kernel
theorem dX7_typeOf_6 : decode cX7_typeOf 6 = .ok (.iload_n 0, 1) := by decide +kernel
theorem dX7_typeOf_7 : decode cX7_typeOf 7 = .ok (.bipush 122, 2) := by decide +kernel
theorem dX7_typeOf_9 : decode cX7_typeOf 9 = .ok (.if_icmp .gt 5, 3) := by decide +kernel
theorem dX7_typeOf_12 : decode cX7_typeOf 12 = .ok (.iconst 1, 1) := by decide +kernel
theorem dX7_typeOf_13 : decode cX7_typeOf 13 = .ok (.ireturn, 1) := by decide +kernel
theorem dX7_peek_0 : decode cX7_peek 0 = .ok (.aload_n 0, 1) := by decide +kernel
theorem dX7_peek_1 : decode cX7_peek 1 = .ok (.aload_n 0, 1) := by decide +kernel
theorem dX7_peek_2 : decode cX7_peek 2 = .ok (.getfield 31, 3) := by decide +kernel
theorem dX7_peek_5 : decode cX7_peek 5 = .ok (.putfield 28, 3) := by decide +kernel
theorem dX7_peek_8 : decode cX7_peek 8 = .ok (.aload_n 0, 1) := by decide +kernel
theorem dX7_peek_9 : decode cX7_peek 9 = .ok (.getfield 28, 3) := by decide +kernel
theorem dX7_peek_12 : decode cX7_peek 12 = .ok (.aload_n 0, 1) := by decide +kernel
theorem dX7_peek_13 : decode cX7_peek 13 = .ok (.getfield 22, 3) := by decide +kernel
theorem dX7_peek_16 : decode cX7_peek 16 = .ok (.if_icmp .ge 44, 3) := by decide +kernel
theorem dX7_peek_60 : decode cX7_peek 60 = .ok (.aload_n 0, 1) := by decide +kernel
theorem dX7_peek_61 : decode cX7_peek 61 = .ok (.aload_n 0, 1) := by decide +kernel
theorem dX7_peek_62 : decode cX7_peek 62 = .ok (.getfield 28, 3) := by decide +kernel
theorem dX7_peek_65 : decode cX7_peek 65 = .ok (.aload_n 0, 1) := by decide +kernel
theorem dX7_peek_66 : decode cX7_peek 66 = .ok (.getfield 22, 3) := by decide +kernel
theorem dX7_peek_69 : decode cX7_peek 69 = .ok (.if_icmp .ge 18, 3) := by decide +kernel
theorem dX7_peek_87 : decode cX7_peek 87 = .ok (.iconst 0, 1) := by decide +kernel
theorem dX7_peek_88 : decode cX7_peek 88 = .ok (.putfield 25, 3) := by decide +kernel
theorem dX7_peek_91 : decode cX7_peek 91 = .ok (.aload_n 0, 1) := by decide +kernel
theorem dX7_peek_92 : decode cX7_peek 92 = .ok (.aload_n 0, 1) := by decide +kernel
theorem dX7_peek_93 : decode cX7_peek 93 = .ok (.getfield 28, 3) := by decide +kernel
theorem dX7_peek_96 : decode cX7_peek 96 = .ok (.aload_n 0, 1) := by decide +kernel
theorem dX7_peek_97 : decode cX7_peek 97 = .ok (.getfield 22, 3) := by decide +kernel
theorem dX7_peek_100 : decode cX7_peek 100 = .ok (.if_icmp .ge 12, 3) := by decide +kernel
theorem dX7_peek_112 : decode cX7_peek 112 = .ok (.aload_n 0, 1) := by decide +kernel
theorem dX7_peek_113 : decode cX7_peek 113 = .ok (.getfield 22, 3) := by decide +kernel
theorem dX7_peek_116 : decode cX7_peek 116 = .ok (.putfield 31, 3) := by decide +kernel
theorem dX7_peek_119 : decode cX7_peek 119 = .ok (.aload_n 0, 1) := by decide +kernel
theorem dX7_peek_120 : decode cX7_peek 120 = .ok (.getfield 25, 3) := by decide +kernel
theorem dX7_peek_123 : decode cX7_peek 123 = .ok (.iconst 1, 1) := by decide +kernel
theorem dX7_peek_124 : decode cX7_peek 124 = .ok (.if_icmp .eq 11, 3) := by decide +kernel
theorem dX7_peek_127 : decode cX7_peek 127 = .ok (.aload_n 0, 1) := by decide +kernel
theorem dX7_peek_128 : decode cX7_peek 128 = .ok (.getfield 25, 3) := by decide +kernel
theorem dX7_peek_131 : decode cX7_peek 131 = .ok (.iconst 2, 1) := by decide +kernel
theorem dX7_peek_132 : decode cX7_peek 132 = .ok (.if_icmp .ne 46, 3) := by decide +kernel
theorem dX7_peek_178 : decode cX7_peek 178 = .ok (.return_, 1) := by decide +kernel
theorem dX7_peek_103 : decode cX7_peek 103 = .ok (.aload_n 0, 1) := by decide +kernel
theorem dX7_peek_104 : decode cX7_peek 104 = .ok (.getfield 28, 3) := by decide +kernel
theorem dX7_peek_107 : decode cX7_peek 107 = .ok (.iconst 1, 1) := by decide +kernel
theorem dX7_peek_108 : decode cX7_peek 108 = .ok (.iadd, 1) := by decide +kernel
theorem dX7_peek_109 : decode cX7_peek 109 = .ok (.goto 7, 3) := by decide +kernel
theorem dX7_peek_72 : decode cX7_peek 72 = .ok (.aload_n 0, 1) := by decide +kernel
theorem dX7_peek_73 : decode cX7_peek 73 = .ok (.getfield 18, 3) := by decide +kernel
theorem dX7_peek_76 : decode cX7_peek 76 = .ok (.aload_n 0, 1) := by decide +kernel
theorem dX7_peek_77 : decode cX7_peek 77 = .ok (.getfield 28, 3) := by decide +kernel
theorem dX7_peek_80 : decode cX7_peek 80 = .ok (.baload, 1) := by decide +kernel
theorem dX7_peek_81 : decode cX7_peek 81 = .ok (.invokestatic 171, 3) := by decide +kernel
theorem dX7_peek_84 : decode cX7_peek 84 = .ok (.goto 4, 3) := by decide +kernel
theorem dX7_peek_135 : decode cX7_peek 135 = .ok (.aload_n 0, 1) := by decide +kernel
theorem dX7_peek_136 : decode cX7_peek 136 = .ok (.getfield 31, 3) := by decide +kernel
theorem dX7_peek_139 : decode cX7_peek 139 = .ok (.aload_n 0, 1) := by decide +kernel
theorem dX7_peek_140 : decode cX7_peek 140 = .ok (.getfield 22, 3) := by decide +kernel
theorem dX7_peek_143 : decode cX7_peek 143 = .ok (.if_icmp .ge 35, 3) := by decide +kernel
theorem dX7_peek_146 : decode cX7_peek 146 = .ok (.aload_n 0, 1) := by decide +kernel
theorem dX7_peek_147 : decode cX7_peek 147 = .ok (.getfield 18, 3) := by decide +kernel
theorem dX7_peek_150 : decode cX7_peek 150 = .ok (.aload_n 0, 1) := by decide +kernel
theorem dX7_peek_151 : decode cX7_peek 151 = .ok (.getfield 31, 3) := by decide +kernel
theorem dX7_peek_154 : decode cX7_peek 154 = .ok (.baload, 1) := by decide +kernel
theorem dX7_peek_155 : decode cX7_peek 155 = .ok (.invokestatic 171, 3) := by decide +kernel
theorem dX7_peek_158 : decode cX7_peek 158 = .ok (.aload_n 0, 1) := by decide +kernel
theorem dX7_peek_159 : decode cX7_peek 159 = .ok (.getfield 25, 3) := by decide +kernel
theorem dX7_peek_162 : decode cX7_peek 162 = .ok (.if_icmp .ne 16, 3) := by decide +kernel
theorem dX7_peek_165 : decode cX7_peek 165 = .ok (.aload_n 0, 1) := by decide +kernel
theorem dX7_peek_166 : decode cX7_peek 166 = .ok (.dup, 1) := by decide +kernel
theorem dX7_peek_167 : decode cX7_peek 167 = .ok (.getfield 31, 3) := by decide +kernel
theorem dX7_peek_170 : decode cX7_peek 170 = .ok (.iconst 1, 1) := by decide +kernel
theorem dX7_peek_171 : decode cX7_peek 171 = .ok (.iadd, 1) := by decide +kernel
theorem dX7_peek_172 : decode cX7_peek 172 = .ok (.putfield 31, 3) := by decide +kernel
theorem dX7_peek_175 : decode cX7_peek 175 = .ok (.goto (-40), 3) := by decide +kernel
theorem dX7_peek_19 : decode cX7_peek 19 = .ok (.aload_n 0, 1) := by decide +kernel
theorem dX7_peek_20 : decode cX7_peek 20 = .ok (.getfield 18, 3) := by decide +kernel
theorem dX7_peek_23 : decode cX7_peek 23 = .ok (.aload_n 0, 1) := by decide +kernel
theorem dX7_peek_24 : decode cX7_peek 24 = .ok (.getfield 28, 3) := by decide +kernel
theorem dX7_peek_27 : decode cX7_peek 27 = .ok (.baload, 1) := by decide +kernel
theorem dX7_peek_28 : decode cX7_peek 28 = .ok (.bipush 32, 2) := by decide +kernel
theorem dX7_peek_30 : decode cX7_peek 30 = .ok (.if_icmp .eq 17, 3) := by decide +kernel
theorem dX7_peek_47 : decode cX7_peek 47 = .ok (.aload_n 0, 1) := by decide +kernel
theorem dX7_peek_48 : decode cX7_peek 48 = .ok (.dup, 1) := by decide +kernel
theorem dX7_peek_49 : decode cX7_peek 49 = .ok (.getfield 28, 3) := by decide +kernel
theorem dX7_peek_52 : decode cX7_peek 52 = .ok (.iconst 1, 1) := by decide +kernel
theorem dX7_peek_53 : decode cX7_peek 53 = .ok (.iadd, 1) := by decide +kernel
theorem dX7_peek_54 : decode cX7_peek 54 = .ok (.putfield 28, 3) := by decide +kernel
theorem dX7_peek_57 : decode cX7_peek 57 = .ok (.goto (-49), 3) := by decide +kernel
theorem dX7_peek_33 : decode cX7_peek 33 = .ok (.aload_n 0, 1) := by decide +kernel
theorem dX7_peek_34 : decode cX7_peek 34 = .ok (.getfield 18, 3) := by decide +kernel
theorem dX7_peek_37 : decode cX7_peek 37 = .ok (.aload_n 0, 1) := by decide +kernel
theorem dX7_peek_38 : decode cX7_peek 38 = .ok (.getfield 28, 3) := by decide +kernel
theorem dX7_peek_41 : decode cX7_peek 41 = .ok (.baload, 1) := by decide +kernel
theorem dX7_peek_42 : decode cX7_peek 42 = .ok (.bipush 10, 2) := by decide +kernel
theorem dX7_peek_44 : decode cX7_peek 44 = .ok (.if_icmp .ne 16, 3) := by decide +kernel
theorem dX7_take_0 : decode cX7_take 0 = .ok (.aload_n 0, 1) := by decide +kernel
theorem dX7_take_1 : decode cX7_take 1 = .ok (.getfield 15, 3) := by decide +kernel
theorem dX7_take_4 : decode cX7_take 4 = .ok (.ifCond .ne 15, 3) := by decide +kernel
theorem dX7_take_19 : decode cX7_take 19 = .ok (.return_, 1) := by decide +kernel
theorem dX7_take_7 : decode cX7_take 7 = .ok (.aload_n 0, 1) := by decide +kernel
theorem dX7_take_8 : decode cX7_take 8 = .ok (.aload_n 0, 1) := by decide +kernel
theorem dX7_take_9 : decode cX7_take 9 = .ok (.getfield 28, 3) := by decide +kernel
theorem dX7_take_12 : decode cX7_take 12 = .ok (.putfield 34, 3) := by decide +kernel
theorem dX7_take_15 : decode cX7_take 15 = .ok (.aload_n 0, 1) := by decide +kernel
theorem dX7_take_16 : decode cX7_take 16 = .ok (.invokevirtual 54, 3) := by decide +kernel
theorem dX7_fail_0 : decode cX7_fail 0 = .ok (.aload_n 0, 1) := by decide +kernel
theorem dX7_fail_1 : decode cX7_fail 1 = .ok (.getfield 15, 3) := by decide +kernel
theorem dX7_fail_4 : decode cX7_fail 4 = .ok (.ifCond .ne 13, 3) := by decide +kernel
theorem dX7_fail_17 : decode cX7_fail 17 = .ok (.return_, 1) := by decide +kernel
theorem dX7_fail_7 : decode cX7_fail 7 = .ok (.aload_n 0, 1) := by decide +kernel
theorem dX7_fail_8 : decode cX7_fail 8 = .ok (.iload_n 1, 1) := by decide +kernel
theorem dX7_fail_9 : decode cX7_fail 9 = .ok (.putfield 15, 3) := by decide +kernel
theorem dX7_fail_12 : decode cX7_fail 12 = .ok (.aload_n 0, 1) := by decide +kernel
theorem dX7_fail_13 : decode cX7_fail 13 = .ok (.iload_n 2, 1) := by decide +kernel
theorem dX7_fail_14 : decode cX7_fail 14 = .ok (.putfield 9, 3) := by decide +kernel
theorem dX7_close_0 : decode cX7_close 0 = .ok (.aload_n 0, 1) := by decide +kernel
theorem dX7_close_1 : decode cX7_close 1 = .ok (.getfield 25, 3) := by decide +kernel
theorem dX7_close_4 : decode cX7_close 4 = .ok (.iconst 3, 1) := by decide +kernel
theorem dX7_close_5 : decode cX7_close 5 = .ok (.if_icmp .eq 12, 3) := by decide +kernel
theorem dX7_close_17 : decode cX7_close 17 = .ok (.aload_n 0, 1) := by decide +kernel
theorem dX7_close_18 : decode cX7_close 18 = .ok (.invokevirtual 98, 3) := by decide +kernel
theorem dX7_close_21 : decode cX7_close 21 = .ok (.return_, 1) := by decide +kernel
theorem dX7_close_8 : decode cX7_close 8 = .ok (.aload_n 0, 1) := by decide +kernel
theorem dX7_close_9 : decode cX7_close 9 = .ok (.iconst 1, 1) := by decide +kernel
theorem dX7_close_10 : decode cX7_close 10 = .ok (.aload_n 0, 1) := by decide +kernel
theorem dX7_close_11 : decode cX7_close 11 = .ok (.getfield 28, 3) := by decide +kernel
theorem dX7_close_14 : decode cX7_close 14 = .ok (.invokevirtual 91, 3) := by decide +kernel
theorem dX7_is_0 : decode cX7_is 0 = .ok (.aload_n 0, 1) := by decide +kernel
theorem dX7_is_1 : decode cX7_is 1 = .ok (.getfield 25, 3) := by decide +kernel
theorem dX7_is_4 : decode cX7_is 4 = .ok (.iconst 1, 1) := by decide +kernel
theorem dX7_is_5 : decode cX7_is 5 = .ok (.if_icmp .ne 19, 3) := by decide +kernel
theorem dX7_is_24 : decode cX7_is 24 = .ok (.iconst 0, 1) := by decide +kernel
theorem dX7_is_25 : decode cX7_is 25 = .ok (.ireturn, 1) := by decide +kernel
theorem dX7_is_8 : decode cX7_is 8 = .ok (.aload_n 0, 1) := by decide +kernel
theorem dX7_is_9 : decode cX7_is 9 = .ok (.getfield 31, 3) := by decide +kernel
theorem dX7_is_12 : decode cX7_is 12 = .ok (.aload_n 0, 1) := by decide +kernel
theorem dX7_is_13 : decode cX7_is 13 = .ok (.getfield 28, 3) := by decide +kernel
theorem dX7_is_16 : decode cX7_is 16 = .ok (.isub, 1) := by decide +kernel
theorem dX7_is_17 : decode cX7_is 17 = .ok (.aload_n 1, 1) := by decide +kernel
theorem dX7_is_18 : decode cX7_is 18 = .ok (.invokevirtual 162, 3) := by decide +kernel
theorem dX7_is_21 : decode cX7_is 21 = .ok (.if_icmp .eq 5, 3) := by decide +kernel
theorem dX7_is_26 : decode cX7_is 26 = .ok (.iconst 0, 1) := by decide +kernel
theorem dX7_is_27 : decode cX7_is 27 = .ok (.istore_n 2, 1) := by decide +kernel
theorem dX7_is_28 : decode cX7_is 28 = .ok (.iload_n 2, 1) := by decide +kernel
theorem dX7_is_29 : decode cX7_is 29 = .ok (.aload_n 1, 1) := by decide +kernel
theorem dX7_is_30 : decode cX7_is 30 = .ok (.invokevirtual 162, 3) := by decide +kernel
theorem dX7_is_33 : decode cX7_is 33 = .ok (.if_icmp .ge 30, 3) := by decide +kernel
theorem dX7_is_63 : decode cX7_is 63 = .ok (.iconst 1, 1) := by decide +kernel
theorem dX7_is_64 : decode cX7_is 64 = .ok (.ireturn, 1) := by decide +kernel
theorem dX7_is_36 : decode cX7_is 36 = .ok (.aload_n 0, 1) := by decide +kernel
theorem dX7_is_37 : decode cX7_is 37 = .ok (.getfield 18, 3) := by decide +kernel
theorem dX7_is_40 : decode cX7_is 40 = .ok (.aload_n 0, 1) := by decide +kernel
theorem dX7_is_41 : decode cX7_is 41 = .ok (.getfield 28, 3) := by decide +kernel
theorem dX7_is_44 : decode cX7_is 44 = .ok (.iload_n 2, 1) := by decide +kernel
theorem dX7_is_45 : decode cX7_is 45 = .ok (.iadd, 1) := by decide +kernel
theorem dX7_is_46 : decode cX7_is 46 = .ok (.baload, 1) := by decide +kernel
theorem dX7_is_47 : decode cX7_is 47 = .ok (.aload_n 1, 1) := by decide +kernel
theorem dX7_is_48 : decode cX7_is 48 = .ok (.iload_n 2, 1) := by decide +kernel
theorem dX7_is_49 : decode cX7_is 49 = .ok (.invokevirtual 167, 3) := by decide +kernel
theorem dX7_is_52 : decode cX7_is 52 = .ok (.if_icmp .eq 5, 3) := by decide +kernel
theorem dX7_is_57 : decode cX7_is 57 = .ok (.iinc 2 1, 3) := by decide +kernel
theorem dX7_is_60 : decode cX7_is 60 = .ok (.goto (-32), 3) := by decide +kernel
theorem dX7_is_55 : decode cX7_is 55 = .ok (.iconst 0, 1) := by decide +kernel
theorem dX7_is_56 : decode cX7_is 56 = .ok (.ireturn, 1) := by decide +kernel
theorem dX9_kindWord_0 : decode cX9_kindWord 0 = .ok (.iload_n 0, 1) := by decide +kernel
theorem dX9_kindWord_1 : decode cX9_kindWord 1 = .ok (.tableswitch 47 0 3 #[31, 35, 39, 43], 31) := by decide +kernel
theorem dX9_kindWord_48 : decode cX9_kindWord 48 = .ok (.ldc_w 503, 3) := by decide +kernel
theorem dX9_kindWord_51 : decode cX9_kindWord 51 = .ok (.areturn, 1) := by decide +kernel
theorem dX9_kindWord_32 : decode cX9_kindWord 32 = .ok (.ldc_w 495, 3) := by decide +kernel
theorem dX9_kindWord_35 : decode cX9_kindWord 35 = .ok (.areturn, 1) := by decide +kernel
theorem dX9_kindWord_36 : decode cX9_kindWord 36 = .ok (.ldc_w 497, 3) := by decide +kernel
theorem dX9_kindWord_39 : decode cX9_kindWord 39 = .ok (.areturn, 1) := by decide +kernel
theorem dX9_kindWord_40 : decode cX9_kindWord 40 = .ok (.ldc_w 499, 3) := by decide +kernel
theorem dX9_kindWord_43 : decode cX9_kindWord 43 = .ok (.areturn, 1) := by decide +kernel
theorem dX9_kindWord_44 : decode cX9_kindWord 44 = .ok (.ldc_w 501, 3) := by decide +kernel
theorem dX9_kindWord_47 : decode cX9_kindWord 47 = .ok (.areturn, 1) := by decide +kernel
theorem dX7_kind_0 : decode cX7_kind 0 = .ok (.iconst 0, 1) := by decide +kernel
theorem dX7_kind_1 : decode cX7_kind 1 = .ok (.istore_n 1, 1) := by decide +kernel
theorem dX7_kind_2 : decode cX7_kind 2 = .ok (.iload_n 1, 1) := by decide +kernel
theorem dX7_kind_3 : decode cX7_kind 3 = .ok (.iconst 5, 1) := by decide +kernel
theorem dX7_kind_4 : decode cX7_kind 4 = .ok (.if_icmp .ge 26, 3) := by decide +kernel
theorem dX7_kind_30 : decode cX7_kind 30 = .ok (.aload_n 0, 1) := by decide +kernel
theorem dX7_kind_31 : decode cX7_kind 31 = .ok (.iconst 1, 1) := by decide +kernel
theorem dX7_kind_32 : decode cX7_kind 32 = .ok (.aload_n 0, 1) := by decide +kernel
theorem dX7_kind_33 : decode cX7_kind 33 = .ok (.getfield 28, 3) := by decide +kernel
theorem dX7_kind_36 : decode cX7_kind 36 = .ok (.invokevirtual 91, 3) := by decide +kernel
theorem dX7_kind_39 : decode cX7_kind 39 = .ok (.iconst 0, 1) := by decide +kernel
theorem dX7_kind_40 : decode cX7_kind 40 = .ok (.ireturn, 1) := by decide +kernel
theorem dX7_kind_7 : decode cX7_kind 7 = .ok (.aload_n 0, 1) := by decide +kernel
theorem dX7_kind_8 : decode cX7_kind 8 = .ok (.iload_n 1, 1) := by decide +kernel
theorem dX7_kind_9 : decode cX7_kind 9 = .ok (.invokestatic 158, 3) := by decide +kernel
theorem dX7_kind_12 : decode cX7_kind 12 = .ok (.invokevirtual 63, 3) := by decide +kernel
theorem dX7_kind_15 : decode cX7_kind 15 = .ok (.ifCond .eq 9, 3) := by decide +kernel
theorem dX7_kind_24 : decode cX7_kind 24 = .ok (.iinc 1 1, 3) := by decide +kernel
theorem dX7_kind_27 : decode cX7_kind 27 = .ok (.goto (-25), 3) := by decide +kernel
theorem dX7_kind_18 : decode cX7_kind 18 = .ok (.aload_n 0, 1) := by decide +kernel
theorem dX7_kind_19 : decode cX7_kind 19 = .ok (.invokevirtual 98, 3) := by decide +kernel
theorem dX7_kind_22 : decode cX7_kind 22 = .ok (.iload_n 1, 1) := by decide +kernel
theorem dX7_kind_23 : decode cX7_kind 23 = .ok (.ireturn, 1) := by decide +kernel
theorem dX7_number_0 : decode cX7_number 0 = .ok (.aload_n 0, 1) := by decide +kernel
theorem dX7_number_1 : decode cX7_number 1 = .ok (.getfield 25, 3) := by decide +kernel
theorem dX7_number_4 : decode cX7_number 4 = .ok (.iconst 2, 1) := by decide +kernel
theorem dX7_number_5 : decode cX7_number 5 = .ok (.if_icmp .eq 14, 3) := by decide +kernel
theorem dX7_number_19 : decode cX7_number 19 = .ok (.iconst 0, 1) := by decide +kernel
theorem dX7_number_20 : decode cX7_number 20 = .ok (.istore_n 3, 1) := by decide +kernel
theorem dX7_number_21 : decode cX7_number 21 = .ok (.aload_n 0, 1) := by decide +kernel
theorem dX7_number_22 : decode cX7_number 22 = .ok (.getfield 28, 3) := by decide +kernel
theorem dX7_number_25 : decode cX7_number 25 = .ok (.istore 4, 2) := by decide +kernel
theorem dX7_number_27 : decode cX7_number 27 = .ok (.iload 4, 2) := by decide +kernel
theorem dX7_number_29 : decode cX7_number 29 = .ok (.aload_n 0, 1) := by decide +kernel
theorem dX7_number_30 : decode cX7_number 30 = .ok (.getfield 31, 3) := by decide +kernel
theorem dX7_number_33 : decode cX7_number 33 = .ok (.if_icmp .ge 30, 3) := by decide +kernel
theorem dX7_number_63 : decode cX7_number 63 = .ok (.aload_n 0, 1) := by decide +kernel
theorem dX7_number_64 : decode cX7_number 64 = .ok (.getfield 31, 3) := by decide +kernel
theorem dX7_number_67 : decode cX7_number 67 = .ok (.aload_n 0, 1) := by decide +kernel
theorem dX7_number_68 : decode cX7_number 68 = .ok (.getfield 28, 3) := by decide +kernel
theorem dX7_number_71 : decode cX7_number 71 = .ok (.isub, 1) := by decide +kernel
theorem dX7_number_72 : decode cX7_number 72 = .ok (.iconst 4, 1) := by decide +kernel
theorem dX7_number_73 : decode cX7_number 73 = .ok (.if_icmp .gt 13, 3) := by decide +kernel
theorem dX7_number_86 : decode cX7_number 86 = .ok (.aload_n 0, 1) := by decide +kernel
theorem dX7_number_87 : decode cX7_number 87 = .ok (.iconst 2, 1) := by decide +kernel
theorem dX7_number_88 : decode cX7_number 88 = .ok (.aload_n 0, 1) := by decide +kernel
theorem dX7_number_89 : decode cX7_number 89 = .ok (.getfield 28, 3) := by decide +kernel
theorem dX7_number_92 : decode cX7_number 92 = .ok (.invokevirtual 91, 3) := by decide +kernel
theorem dX7_number_95 : decode cX7_number 95 = .ok (.iconst 0, 1) := by decide +kernel
theorem dX7_number_96 : decode cX7_number 96 = .ok (.ireturn, 1) := by decide +kernel
theorem dX7_number_76 : decode cX7_number 76 = .ok (.iload_n 3, 1) := by decide +kernel
theorem dX7_number_77 : decode cX7_number 77 = .ok (.iload_n 1, 1) := by decide +kernel
theorem dX7_number_78 : decode cX7_number 78 = .ok (.if_icmp .lt 8, 3) := by decide +kernel
theorem dX7_number_81 : decode cX7_number 81 = .ok (.iload_n 3, 1) := by decide +kernel
theorem dX7_number_82 : decode cX7_number 82 = .ok (.iload_n 2, 1) := by decide +kernel
theorem dX7_number_83 : decode cX7_number 83 = .ok (.if_icmp .le 14, 3) := by decide +kernel
theorem dX7_number_97 : decode cX7_number 97 = .ok (.aload_n 0, 1) := by decide +kernel
theorem dX7_number_98 : decode cX7_number 98 = .ok (.invokevirtual 98, 3) := by decide +kernel
theorem dX7_number_101 : decode cX7_number 101 = .ok (.iload_n 3, 1) := by decide +kernel
theorem dX7_number_102 : decode cX7_number 102 = .ok (.ireturn, 1) := by decide +kernel
theorem dX7_number_36 : decode cX7_number 36 = .ok (.iload_n 3, 1) := by decide +kernel
theorem dX7_number_37 : decode cX7_number 37 = .ok (.iload_n 2, 1) := by decide +kernel
theorem dX7_number_38 : decode cX7_number 38 = .ok (.if_icmp .gt 25, 3) := by decide +kernel
theorem dX7_number_41 : decode cX7_number 41 = .ok (.bipush 10, 2) := by decide +kernel
theorem dX7_number_43 : decode cX7_number 43 = .ok (.iload_n 3, 1) := by decide +kernel
theorem dX7_number_44 : decode cX7_number 44 = .ok (.imul, 1) := by decide +kernel
theorem dX7_number_45 : decode cX7_number 45 = .ok (.aload_n 0, 1) := by decide +kernel
theorem dX7_number_46 : decode cX7_number 46 = .ok (.getfield 18, 3) := by decide +kernel
theorem dX7_number_49 : decode cX7_number 49 = .ok (.iload 4, 2) := by decide +kernel
theorem dX7_number_51 : decode cX7_number 51 = .ok (.baload, 1) := by decide +kernel
theorem dX7_number_52 : decode cX7_number 52 = .ok (.iadd, 1) := by decide +kernel
theorem dX7_number_53 : decode cX7_number 53 = .ok (.bipush 48, 2) := by decide +kernel
theorem dX7_number_55 : decode cX7_number 55 = .ok (.isub, 1) := by decide +kernel
theorem dX7_number_56 : decode cX7_number 56 = .ok (.istore_n 3, 1) := by decide +kernel
theorem dX7_number_57 : decode cX7_number 57 = .ok (.iinc 4 1, 3) := by decide +kernel
theorem dX7_number_60 : decode cX7_number 60 = .ok (.goto (-33), 3) := by decide +kernel
theorem dX7_number_8 : decode cX7_number 8 = .ok (.aload_n 0, 1) := by decide +kernel
theorem dX7_number_9 : decode cX7_number 9 = .ok (.iconst 1, 1) := by decide +kernel
theorem dX7_number_10 : decode cX7_number 10 = .ok (.aload_n 0, 1) := by decide +kernel
theorem dX7_number_11 : decode cX7_number 11 = .ok (.getfield 28, 3) := by decide +kernel
theorem dX7_number_14 : decode cX7_number 14 = .ok (.invokevirtual 91, 3) := by decide +kernel
theorem dX7_number_17 : decode cX7_number 17 = .ok (.iconst 0, 1) := by decide +kernel
theorem dX7_number_18 : decode cX7_number 18 = .ok (.ireturn, 1) := by decide +kernel
theorem dX7_readFall_0 : decode cX7_readFall 0 = .ok (.aload_n 0, 1) := by decide +kernel
theorem dX7_readFall_1 : decode cX7_readFall 1 = .ok (.ldc 149, 2) := by decide +kernel
theorem dX7_readFall_3 : decode cX7_readFall 3 = .ok (.invokevirtual 63, 3) := by decide +kernel
theorem dX7_readFall_6 : decode cX7_readFall 6 = .ok (.ifCond .eq 7, 3) := by decide +kernel
theorem dX7_readFall_13 : decode cX7_readFall 13 = .ok (.aload_n 0, 1) := by decide +kernel
theorem dX7_readFall_14 : decode cX7_readFall 14 = .ok (.ldc 151, 2) := by decide +kernel
theorem dX7_readFall_16 : decode cX7_readFall 16 = .ok (.invokevirtual 63, 3) := by decide +kernel
theorem dX7_readFall_19 : decode cX7_readFall 19 = .ok (.ifCond .eq 7, 3) := by decide +kernel
theorem dX7_readFall_26 : decode cX7_readFall 26 = .ok (.aload_n 0, 1) := by decide +kernel
theorem dX7_readFall_27 : decode cX7_readFall 27 = .ok (.ldc 153, 2) := by decide +kernel
theorem dX7_readFall_29 : decode cX7_readFall 29 = .ok (.invokevirtual 63, 3) := by decide +kernel
theorem dX7_readFall_32 : decode cX7_readFall 32 = .ok (.ifCond .eq 7, 3) := by decide +kernel
theorem dX7_readFall_39 : decode cX7_readFall 39 = .ok (.iconst 0, 1) := by decide +kernel
theorem dX7_readFall_40 : decode cX7_readFall 40 = .ok (.istore_n 1, 1) := by decide +kernel
theorem dX7_readFall_41 : decode cX7_readFall 41 = .ok (.iload_n 1, 1) := by decide +kernel
theorem dX7_readFall_42 : decode cX7_readFall 42 = .ok (.ifCond .eq 7, 3) := by decide +kernel
theorem dX7_readFall_49 : decode cX7_readFall 49 = .ok (.iload_n 1, 1) := by decide +kernel
theorem dX7_readFall_50 : decode cX7_readFall 50 = .ok (.ireturn, 1) := by decide +kernel
theorem dX7_readFall_35 : decode cX7_readFall 35 = .ok (.iconst 3, 1) := by decide +kernel
theorem dX7_readFall_36 : decode cX7_readFall 36 = .ok (.goto 4, 3) := by decide +kernel
theorem dX7_readFall_45 : decode cX7_readFall 45 = .ok (.aload_n 0, 1) := by decide +kernel
theorem dX7_readFall_46 : decode cX7_readFall 46 = .ok (.invokevirtual 98, 3) := by decide +kernel
theorem dX7_readFall_22 : decode cX7_readFall 22 = .ok (.iconst 2, 1) := by decide +kernel
theorem dX7_readFall_23 : decode cX7_readFall 23 = .ok (.goto 17, 3) := by decide +kernel
theorem dX7_readFall_9 : decode cX7_readFall 9 = .ok (.iconst 1, 1) := by decide +kernel
theorem dX7_readFall_10 : decode cX7_readFall 10 = .ok (.goto 30, 3) := by decide +kernel
end
section
-- 58.read.lean.txt
abbrev rdC (ad : Nat → Nat) (pl co en ty a9 be tk td : Int) : va_E := oC 9 [.int (zI pl), .int (zI co), .ref (ad 1), .int (zI en), .int (zI ty), .int (zI a9), .int (zI be), .int (zI tk), .int (zI td)]
/-- the reader at work: its code co, the tape tp -/
abbrev okRun (cs : Nat → ClassId) (ad : Nat → Nat) (g : Nat → va_E) (co : Int) (tp : Nat → Int) : Prop := ∃ (pl en ty a9 be tk td : Int), (0 ≤ a9 ∧ a9 ≤ be ∧ be ≤ en ∧ en ≤ 900 ∧ 0 ≤ co ∧ co ≤ 5) ∧ (0 ≤ ty ∧ ty ≤ 5) ∧ g 2 = rdC ad pl co en ty a9 be tk td ∧ g 1 = bA cs 900 tp

set_option maxRecDepth 100000 in
set_option maxHeartbeats 4000000 in
theorem c_X7_typeOf (l : Launch) (D : va_G) (A : Nat → Prop) (cs : Nat → ClassId) (tt : Nat) (N : Nat) (ad : Nat → Nat) (g : Nat → va_E) (z : Int) (hz : -2147483648 ≤ z ∧ z ≤ 2147483647) : zM l yX7_typeOf cX7_typeOf 1 (some .int) ({ frames := 1, cells := 0, slots := 0, locals := 60 } : Room) D A cs tt N ad g [.int (zI (z))] (rI0 N ad fun r g' => (1 ≤ r ∧ r ≤ 5) ∧ g = g') := by
  refine z_of (by decide) (Nat.le_of_ble_eq_true rfl) ?_
  intro p e s m below meth c C hr hlk hnm
  refine z_lv (lv' := [(0, .int (zI (z)))]) [0] rfl ?_
  refine z_iload_n C 0 dX7_typeOf_0 rfl ?_
  refine z_bipush (z := 97) C dX7_typeOf_1 (by decide) ?_
  refine z_icmp_lt (tgt := 14) C dX7_typeOf_3 (by decide) (by omega) (by omega) (fun hby1 => ?_) (fun hby1 => ?_)
  · refine z_iload_n C 0 dX7_typeOf_14 rfl ?_
    refine z_bipush (z := 48) C dX7_typeOf_15 (by decide) ?_
    refine z_icmp_lt (tgt := 28) C dX7_typeOf_17 (by decide) (by omega) (by omega) (fun hby2 => ?_) (fun hby2 => ?_)
    · refine z_iload_n C 0 dX7_typeOf_28 rfl ?_
      refine z_bipush (z := 59) C dX7_typeOf_29 (by decide) ?_
      refine z_icmp_ne (tgt := 38) C dX7_typeOf_31 (by decide) (by omega) (by omega) (fun hby3 => ?_) (fun hby3 => ?_)
      · refine z_iload_n C 0 dX7_typeOf_38 rfl ?_
        refine z_bipush (z := 45) C dX7_typeOf_39 (by decide) ?_
        refine z_icmp_ne (tgt := 48) C dX7_typeOf_41 (by decide) (by omega) (by omega) (fun hby4 => ?_) (fun hby4 => ?_)
        · refine z_iconst (z := 5) C dX7_typeOf_48 rfl ?_
          exact z_iret C hr hlk dX7_typeOf_49 (by decide) (by decide) ⟨5, rfl, rfl, rfl, by omega, rfl⟩
        · refine z_iconst (z := 4) C dX7_typeOf_44 rfl ?_
          refine z_goto (tgt := 49) C dX7_typeOf_45 (by decide) ?_
          exact z_iret C hr hlk dX7_typeOf_49 (by decide) (by decide) ⟨4, rfl, rfl, rfl, by omega, rfl⟩
      · refine z_iconst (z := 3) C dX7_typeOf_34 rfl ?_
        refine z_goto (tgt := 49) C dX7_typeOf_35 (by decide) ?_
        exact z_iret C hr hlk dX7_typeOf_49 (by decide) (by decide) ⟨3, rfl, rfl, rfl, by omega, rfl⟩
    · refine z_iload_n C 0 dX7_typeOf_20 rfl ?_
      refine z_bipush (z := 57) C dX7_typeOf_21 (by decide) ?_
      refine z_icmp_gt (tgt := 28) C dX7_typeOf_23 (by decide) (by omega) (by omega) (fun hby5 => ?_) (fun hby5 => ?_)
      · refine z_iload_n C 0 dX7_typeOf_28 rfl ?_
        refine z_bipush (z := 59) C dX7_typeOf_29 (by decide) ?_
        refine z_icmp_ne (tgt := 38) C dX7_typeOf_31 (by decide) (by omega) (by omega) (fun hby6 => ?_) (fun hby6 => ?_)
        · refine z_iload_n C 0 dX7_typeOf_38 rfl ?_
          refine z_bipush (z := 45) C dX7_typeOf_39 (by decide) ?_
          refine z_icmp_ne (tgt := 48) C dX7_typeOf_41 (by decide) (by omega) (by omega) (fun hby7 => ?_) (fun hby7 => ?_)
          · refine z_iconst (z := 5) C dX7_typeOf_48 rfl ?_
            exact z_iret C hr hlk dX7_typeOf_49 (by decide) (by decide) ⟨5, rfl, rfl, rfl, by omega, rfl⟩
          · refine z_iconst (z := 4) C dX7_typeOf_44 rfl ?_
            refine z_goto (tgt := 49) C dX7_typeOf_45 (by decide) ?_
            exact z_iret C hr hlk dX7_typeOf_49 (by decide) (by decide) ⟨4, rfl, rfl, rfl, by omega, rfl⟩
        · refine z_iconst (z := 3) C dX7_typeOf_34 rfl ?_
          refine z_goto (tgt := 49) C dX7_typeOf_35 (by decide) ?_
          exact z_iret C hr hlk dX7_typeOf_49 (by decide) (by decide) ⟨3, rfl, rfl, rfl, by omega, rfl⟩
      · refine z_iconst (z := 2) C dX7_typeOf_26 rfl ?_
        exact z_iret C hr hlk dX7_typeOf_27 (by decide) (by decide) ⟨2, rfl, rfl, rfl, by omega, rfl⟩
  · refine z_iload_n C 0 dX7_typeOf_6 rfl ?_
    refine z_bipush (z := 122) C dX7_typeOf_7 (by decide) ?_
    refine z_icmp_gt (tgt := 14) C dX7_typeOf_9 (by decide) (by omega) (by omega) (fun hby8 => ?_) (fun hby8 => ?_)
    · refine z_iload_n C 0 dX7_typeOf_14 rfl ?_
      refine z_bipush (z := 48) C dX7_typeOf_15 (by decide) ?_
      refine z_icmp_lt (tgt := 28) C dX7_typeOf_17 (by decide) (by omega) (by omega) (fun hby9 => ?_) (fun hby9 => ?_)
      · refine z_iload_n C 0 dX7_typeOf_28 rfl ?_
        refine z_bipush (z := 59) C dX7_typeOf_29 (by decide) ?_
        refine z_icmp_ne (tgt := 38) C dX7_typeOf_31 (by decide) (by omega) (by omega) (fun hby10 => ?_) (fun hby10 => ?_)
        · refine z_iload_n C 0 dX7_typeOf_38 rfl ?_
          refine z_bipush (z := 45) C dX7_typeOf_39 (by decide) ?_
          refine z_icmp_ne (tgt := 48) C dX7_typeOf_41 (by decide) (by omega) (by omega) (fun hby11 => ?_) (fun hby11 => ?_)
          · refine z_iconst (z := 5) C dX7_typeOf_48 rfl ?_
            exact z_iret C hr hlk dX7_typeOf_49 (by decide) (by decide) ⟨5, rfl, rfl, rfl, by omega, rfl⟩
          · refine z_iconst (z := 4) C dX7_typeOf_44 rfl ?_
            refine z_goto (tgt := 49) C dX7_typeOf_45 (by decide) ?_
            exact z_iret C hr hlk dX7_typeOf_49 (by decide) (by decide) ⟨4, rfl, rfl, rfl, by omega, rfl⟩
        · refine z_iconst (z := 3) C dX7_typeOf_34 rfl ?_
          refine z_goto (tgt := 49) C dX7_typeOf_35 (by decide) ?_
          exact z_iret C hr hlk dX7_typeOf_49 (by decide) (by decide) ⟨3, rfl, rfl, rfl, by omega, rfl⟩
      · refine z_iload_n C 0 dX7_typeOf_20 rfl ?_
        refine z_bipush (z := 57) C dX7_typeOf_21 (by decide) ?_
        refine z_icmp_gt (tgt := 28) C dX7_typeOf_23 (by decide) (by omega) (by omega) (fun hby12 => ?_) (fun hby12 => ?_)
        · refine z_iload_n C 0 dX7_typeOf_28 rfl ?_
          refine z_bipush (z := 59) C dX7_typeOf_29 (by decide) ?_
          refine z_icmp_ne (tgt := 38) C dX7_typeOf_31 (by decide) (by omega) (by omega) (fun hby13 => ?_) (fun hby13 => ?_)
          · refine z_iload_n C 0 dX7_typeOf_38 rfl ?_
            refine z_bipush (z := 45) C dX7_typeOf_39 (by decide) ?_
            refine z_icmp_ne (tgt := 48) C dX7_typeOf_41 (by decide) (by omega) (by omega) (fun hby14 => ?_) (fun hby14 => ?_)
            · refine z_iconst (z := 5) C dX7_typeOf_48 rfl ?_
              exact z_iret C hr hlk dX7_typeOf_49 (by decide) (by decide) ⟨5, rfl, rfl, rfl, by omega, rfl⟩
            · refine z_iconst (z := 4) C dX7_typeOf_44 rfl ?_
              refine z_goto (tgt := 49) C dX7_typeOf_45 (by decide) ?_
              exact z_iret C hr hlk dX7_typeOf_49 (by decide) (by decide) ⟨4, rfl, rfl, rfl, by omega, rfl⟩
          · refine z_iconst (z := 3) C dX7_typeOf_34 rfl ?_
            refine z_goto (tgt := 49) C dX7_typeOf_35 (by decide) ?_
            exact z_iret C hr hlk dX7_typeOf_49 (by decide) (by decide) ⟨3, rfl, rfl, rfl, by omega, rfl⟩
        · refine z_iconst (z := 2) C dX7_typeOf_26 rfl ?_
          exact z_iret C hr hlk dX7_typeOf_27 (by decide) (by decide) ⟨2, rfl, rfl, rfl, by omega, rfl⟩
    · refine z_iconst (z := 1) C dX7_typeOf_12 rfl ?_
      exact z_iret C hr hlk dX7_typeOf_13 (by decide) (by decide) ⟨1, rfl, rfl, rfl, by omega, rfl⟩

set_option maxRecDepth 100000 in
set_option maxHeartbeats 4000000 in
theorem c_X7_peek (l : Launch) (D : va_G) (A : Nat → Prop) (cs : Nat → ClassId) (tt : Nat) (N : Nat) (ad : Nat → Nat) (g : Nat → va_E) (hN : 952 ≤ N) (pl co en ty a9 be tk td : Int) (tp : Nat → Int) (hA : 0 ≤ be ∧ be ≤ en ∧ en ≤ 900 ∧ 0 ≤ co ∧ co ≤ 5) (hg2 : g 2 = rdC ad (pl) (co) (en) (ty) (a9) (be) (tk) (td)) (hg1 : g 1 = bA cs 900 tp) : zM l yX7_peek cX7_peek 1 none ({ frames := 2, cells := 0, slots := 0, locals := 120 } : Room) D A cs tt N ad g [.ref (ad 2)] (rV0 N ad fun g' => okRun cs ad g' co tp ∧ ∀ j, j ≠ 2 → g' j = g j) := by
  have hay1 : zAt ad (2) (ad 2) := rfl
  have hay2 : zAt ad (1) (ad 1) := rfl
  refine z_of (by decide) (Nat.le_of_ble_eq_true rfl) ?_
  intro p e s m below meth c C hr hlk hnm
  refine z_lv (lv' := [(0, .ref (ad 2))]) [0] rfl ?_
  refine z_aload_n C 0 dX7_peek_0 rfl ?_
  refine z_aload_n C 0 dX7_peek_1 rfl ?_
  refine z_get (v := .int (zI (be))) C (lt_K hN (rfl : Nat.blt (2) 952 = true)) hay1 hg2 rfl inA_X7 6 (by decide) q_50 rfl rfl dX7_peek_2 ?_
  refine z_put (fs' := [.int (zI (pl)), .int (zI (co)), .ref (ad 1), .int (zI (en)), .int (zI (ty)), .int (zI (be)), .int (zI (be)), .int (zI (tk)), .int (zI (td))]) C (lt_K hN (rfl : Nat.blt (2) 952 = true)) hay1 hg2 tyX7 tyX7_ok nmX7 rfl inA_X7 5 (by decide) q_49 rfl rfl rfl rfl (Nat.le_of_ble_eq_true rfl) rfl dX7_peek_5 (fun gy3 egy4 => ?_)
  have hgy5 := up_s egy4
  have lp8 : ∀ (n9 : Nat) (a8 : Int) (g1 : Nat → va_E), (en - a8).toNat = n9 → (g1 2 = rdC ad (pl) (co) (en) (ty) (a8) (be) (tk) (td)) → (∀ j, j ≠ 2 → g1 j = g j) → (0 ≤ a8 ∧ a8 ≤ en ∧ be ≤ a8) → zV p l e ({ frames := 2, cells := 0, slots := 0, locals := 120 } : Room) s m ([.ref (ad 2)] : List Value).toArray below meth c (MQ below (zPost D A (rV0 N ad fun g' => okRun cs ad g' co tp ∧ ∀ j, j ≠ 2 → g' j = g j)) ([.ref (ad 2)] : List Value).toArray s ({ frames := 2, cells := 0, slots := 0, locals := 120 } : Room).cells ({ frames := 2, cells := 0, slots := 0, locals := 120 } : Room).slots A) D A 1 (N) ad g1 (0) (0) 8 [(0, .ref (ad 2))] [] := by
    intro n9
    induction n9 using Nat.strongRecOn with
    | ind n9 ih_lp8 =>
      intro a8 g1 hm9 f1 f3 hy8_0
      have hay6 : zAt ad (2) (ad 2) := rfl
      have hay7 : zAt ad (1) (ad 1) := rfl
      refine z_aload_n C 0 dX7_peek_8 rfl ?_
      refine z_get (v := .int (zI (a8))) C (lt_K hN (rfl : Nat.blt (2) 952 = true)) hay6 f1 rfl inA_X7 5 (by decide) q_49 rfl rfl dX7_peek_9 ?_
      refine z_aload_n C 0 dX7_peek_12 rfl ?_
      refine z_get (v := .int (zI (en))) C (lt_K hN (rfl : Nat.blt (2) 952 = true)) hay6 f1 rfl inA_X7 3 (by decide) q_47 rfl rfl dX7_peek_13 ?_
      refine z_icmp_ge (tgt := 60) C dX7_peek_16 (by decide) (by omega) (by omega) (fun hby8 => ?_) (fun hby8 => ?_)
      · refine z_aload_n C 0 dX7_peek_60 rfl ?_
        refine z_aload_n C 0 dX7_peek_61 rfl ?_
        refine z_get (v := .int (zI (a8))) C (lt_K hN (rfl : Nat.blt (2) 952 = true)) hay6 f1 rfl inA_X7 5 (by decide) q_49 rfl rfl dX7_peek_62 ?_
        refine z_aload_n C 0 dX7_peek_65 rfl ?_
        refine z_get (v := .int (zI (en))) C (lt_K hN (rfl : Nat.blt (2) 952 = true)) hay6 f1 rfl inA_X7 3 (by decide) q_47 rfl rfl dX7_peek_66 ?_
        refine z_icmp_ge (tgt := 87) C dX7_peek_69 (by decide) (by omega) (by omega) (fun hby9 => ?_) (fun hby9 => ?_)
        · refine z_iconst (z := 0) C dX7_peek_87 rfl ?_
          refine z_put (fs' := [.int (zI (pl)), .int (zI (co)), .ref (ad 1), .int (zI (en)), .int (zI (0)), .int (zI (a8)), .int (zI (be)), .int (zI (tk)), .int (zI (td))]) C (lt_K hN (rfl : Nat.blt (2) 952 = true)) hay6 f1 tyX7 tyX7_ok nmX7 rfl inA_X7 4 (by decide) q_48 rfl rfl rfl rfl (Nat.le_of_ble_eq_true rfl) rfl dX7_peek_88 (fun gy10 egy11 => ?_)
          have hgy12 := up_s egy11
          refine z_aload_n C 0 dX7_peek_91 rfl ?_
          refine z_aload_n C 0 dX7_peek_92 rfl ?_
          refine z_get (v := .int (zI (a8))) C (lt_K hN (rfl : Nat.blt (2) 952 = true)) hay6 hgy12 rfl inA_X7 5 (by decide) q_49 rfl rfl dX7_peek_93 ?_
          refine z_aload_n C 0 dX7_peek_96 rfl ?_
          refine z_get (v := .int (zI (en))) C (lt_K hN (rfl : Nat.blt (2) 952 = true)) hay6 hgy12 rfl inA_X7 3 (by decide) q_47 rfl rfl dX7_peek_97 ?_
          refine z_icmp_ge (tgt := 112) C dX7_peek_100 (by decide) (by omega) (by omega) (fun hby13 => ?_) (fun hby13 => ?_)
          · refine z_aload_n C 0 dX7_peek_112 rfl ?_
            refine z_get (v := .int (zI (en))) C (lt_K hN (rfl : Nat.blt (2) 952 = true)) hay6 hgy12 rfl inA_X7 3 (by decide) q_47 rfl rfl dX7_peek_113 ?_
            refine z_put (fs' := [.int (zI (pl)), .int (zI (co)), .ref (ad 1), .int (zI (en)), .int (zI (0)), .int (zI (a8)), .int (zI (en)), .int (zI (tk)), .int (zI (td))]) C (lt_K hN (rfl : Nat.blt (2) 952 = true)) hay6 hgy12 tyX7 tyX7_ok nmX7 rfl inA_X7 6 (by decide) q_50 rfl rfl rfl rfl (Nat.le_of_ble_eq_true rfl) rfl dX7_peek_116 (fun gy14 egy15 => ?_)
            have hgy16 := up_s egy15
            refine z_aload_n C 0 dX7_peek_119 rfl ?_
            refine z_get (v := .int (zI (0))) C (lt_K hN (rfl : Nat.blt (2) 952 = true)) hay6 hgy16 rfl inA_X7 4 (by decide) q_48 rfl rfl dX7_peek_120 ?_
            refine z_iconst (z := 1) C dX7_peek_123 rfl ?_
            refine z_icmp_eq (tgt := 135) C dX7_peek_124 (by decide) (by omega) (by omega) (fun h => absurd h (by omega)) (fun _ => ?_)
            refine z_aload_n C 0 dX7_peek_127 rfl ?_
            refine z_get (v := .int (zI (0))) C (lt_K hN (rfl : Nat.blt (2) 952 = true)) hay6 hgy16 rfl inA_X7 4 (by decide) q_48 rfl rfl dX7_peek_128 ?_
            refine z_iconst (z := 2) C dX7_peek_131 rfl ?_
            refine z_icmp_ne (tgt := 178) C dX7_peek_132 (by decide) (by omega) (by omega) (fun _ => ?_) (fun h => absurd h (by omega))
            have hgy17 := up_n egy11 ((f3 _ (by omega)).trans hg1) (by decide)
            have hgy18 := up_n egy15 hgy17 (by decide)
            exact z_vret C hr hlk dX7_peek_178 (by decide) (by decide) ⟨rfl, rfl, rfl, ⟨_, _, _, _, _, _, _, by omega, by omega, hgy16, hgy18⟩, fun j j1 => by rw [egy15, va_up_ne _ _ (by omega)]; rw [egy11, va_up_ne _ _ (by omega)]; exact f3 j j1⟩
          · refine z_aload_n C 0 dX7_peek_103 rfl ?_
            refine z_get (v := .int (zI (a8))) C (lt_K hN (rfl : Nat.blt (2) 952 = true)) hay6 hgy12 rfl inA_X7 5 (by decide) q_49 rfl rfl dX7_peek_104 ?_
            refine z_iconst (z := 1) C dX7_peek_107 rfl ?_
            refine z_iadd C dX7_peek_108 ?_
            refine z_goto (tgt := 116) C dX7_peek_109 (by decide) ?_
            refine z_put (fs' := [.int (zI (pl)), .int (zI (co)), .ref (ad 1), .int (zI (en)), .int (zI (0)), .int (zI (a8)), .int (zI (a8 + 1)), .int (zI (tk)), .int (zI (td))]) C (lt_K hN (rfl : Nat.blt (2) 952 = true)) hay6 hgy12 tyX7 tyX7_ok nmX7 rfl inA_X7 6 (by decide) q_50 rfl rfl rfl rfl (Nat.le_of_ble_eq_true rfl) rfl dX7_peek_116 (fun gy19 egy20 => ?_)
            have hgy21 := up_s egy20
            refine z_aload_n C 0 dX7_peek_119 rfl ?_
            refine z_get (v := .int (zI (0))) C (lt_K hN (rfl : Nat.blt (2) 952 = true)) hay6 hgy21 rfl inA_X7 4 (by decide) q_48 rfl rfl dX7_peek_120 ?_
            refine z_iconst (z := 1) C dX7_peek_123 rfl ?_
            refine z_icmp_eq (tgt := 135) C dX7_peek_124 (by decide) (by omega) (by omega) (fun h => absurd h (by omega)) (fun _ => ?_)
            refine z_aload_n C 0 dX7_peek_127 rfl ?_
            refine z_get (v := .int (zI (0))) C (lt_K hN (rfl : Nat.blt (2) 952 = true)) hay6 hgy21 rfl inA_X7 4 (by decide) q_48 rfl rfl dX7_peek_128 ?_
            refine z_iconst (z := 2) C dX7_peek_131 rfl ?_
            refine z_icmp_ne (tgt := 178) C dX7_peek_132 (by decide) (by omega) (by omega) (fun _ => ?_) (fun h => absurd h (by omega))
            have hgy22 := up_n egy11 ((f3 _ (by omega)).trans hg1) (by decide)
            have hgy23 := up_n egy20 hgy22 (by decide)
            exact z_vret C hr hlk dX7_peek_178 (by decide) (by decide) ⟨rfl, rfl, rfl, ⟨_, _, _, _, _, _, _, by omega, by omega, hgy21, hgy23⟩, fun j j1 => by rw [egy20, va_up_ne _ _ (by omega)]; rw [egy11, va_up_ne _ _ (by omega)]; exact f3 j j1⟩
        · refine z_aload_n C 0 dX7_peek_72 rfl ?_
          refine z_get (v := .ref (ad 1)) C (lt_K hN (rfl : Nat.blt (2) 952 = true)) hay6 f1 rfl inA_X7 2 (by decide) q_46 rfl rfl dX7_peek_73 ?_
          refine z_aload_n C 0 dX7_peek_76 rfl ?_
          refine z_get (v := .int (zI (a8))) C (lt_K hN (rfl : Nat.blt (2) 952 = true)) hay6 f1 rfl inA_X7 5 (by decide) q_49 rfl rfl dX7_peek_77 ?_
          refine z_bald C (lt_K hN (rfl : Nat.blt (1) 952 = true)) hay7 ((f3 _ (by omega)).trans hg1) ((a8).toNat) (by omega) (by omega) (by decide) dX7_peek_80 ?_
          obtain ⟨xy24, exy25, hxy26⟩ := zI_of (zI (tp ((a8).toNat)))
          rw [exy25]
          refine z_cS (As := [.int (zI (xy24))]) (rest := [.ref (ad 2)]) C (c_X7_typeOf l D A cs tt N ad _ (xy24) (by omega)) ms_yX7_typeOf q_746 hd_yX7_typeOf (by decide) (Nat.le_of_ble_eq_true rfl) (by decide) dX7_peek_81 rfl (kI0 fun vy27 gvy27 hvy27 => ?_)
          obtain ⟨hvy27, rfl⟩ := hvy27
          refine z_goto (tgt := 88) C dX7_peek_84 (by decide) ?_
          refine z_put (fs' := [.int (zI (pl)), .int (zI (co)), .ref (ad 1), .int (zI (en)), .int (zI (vy27)), .int (zI (a8)), .int (zI (be)), .int (zI (tk)), .int (zI (td))]) C (lt_K hN (rfl : Nat.blt (2) 952 = true)) hay6 f1 tyX7 tyX7_ok nmX7 rfl inA_X7 4 (by decide) q_48 rfl rfl rfl rfl (Nat.le_of_ble_eq_true rfl) rfl dX7_peek_88 (fun gy28 egy29 => ?_)
          have hgy30 := up_s egy29
          refine z_aload_n C 0 dX7_peek_91 rfl ?_
          refine z_aload_n C 0 dX7_peek_92 rfl ?_
          refine z_get (v := .int (zI (a8))) C (lt_K hN (rfl : Nat.blt (2) 952 = true)) hay6 hgy30 rfl inA_X7 5 (by decide) q_49 rfl rfl dX7_peek_93 ?_
          refine z_aload_n C 0 dX7_peek_96 rfl ?_
          refine z_get (v := .int (zI (en))) C (lt_K hN (rfl : Nat.blt (2) 952 = true)) hay6 hgy30 rfl inA_X7 3 (by decide) q_47 rfl rfl dX7_peek_97 ?_
          refine z_icmp_ge (tgt := 112) C dX7_peek_100 (by decide) (by omega) (by omega) (fun hby31 => ?_) (fun hby31 => ?_)
          · refine z_aload_n C 0 dX7_peek_112 rfl ?_
            refine z_get (v := .int (zI (en))) C (lt_K hN (rfl : Nat.blt (2) 952 = true)) hay6 hgy30 rfl inA_X7 3 (by decide) q_47 rfl rfl dX7_peek_113 ?_
            refine z_put (fs' := [.int (zI (pl)), .int (zI (co)), .ref (ad 1), .int (zI (en)), .int (zI (vy27)), .int (zI (a8)), .int (zI (en)), .int (zI (tk)), .int (zI (td))]) C (lt_K hN (rfl : Nat.blt (2) 952 = true)) hay6 hgy30 tyX7 tyX7_ok nmX7 rfl inA_X7 6 (by decide) q_50 rfl rfl rfl rfl (Nat.le_of_ble_eq_true rfl) rfl dX7_peek_116 (fun gy32 egy33 => ?_)
            have hgy34 := up_s egy33
            refine z_aload_n C 0 dX7_peek_119 rfl ?_
            refine z_get (v := .int (zI (vy27))) C (lt_K hN (rfl : Nat.blt (2) 952 = true)) hay6 hgy34 rfl inA_X7 4 (by decide) q_48 rfl rfl dX7_peek_120 ?_
            refine z_iconst (z := 1) C dX7_peek_123 rfl ?_
            refine z_icmp_eq (tgt := 135) C dX7_peek_124 (by decide) (by omega) (by omega) (fun hby35 => ?_) (fun hby35 => ?_)
            · have lp135 : ∀ (n9 : Nat) (b8 : Int) (t8 : Int) (a7 : Int) (g1 : Nat → va_E), (en - b8).toNat = n9 → (g1 2 = rdC ad (pl) (co) (en) (t8) (a7) (b8) (tk) (td)) → (∀ j, j ≠ 2 → g1 j = g j) → (0 ≤ a7 ∧ a7 ≤ b8 ∧ b8 ≤ en) → (0 ≤ t8 ∧ t8 ≤ 5) → zV p l e ({ frames := 2, cells := 0, slots := 0, locals := 120 } : Room) s m ([.ref (ad 2)] : List Value).toArray below meth c (MQ below (zPost D A (rV0 N ad fun g' => okRun cs ad g' co tp ∧ ∀ j, j ≠ 2 → g' j = g j)) ([.ref (ad 2)] : List Value).toArray s ({ frames := 2, cells := 0, slots := 0, locals := 120 } : Room).cells ({ frames := 2, cells := 0, slots := 0, locals := 120 } : Room).slots A) D A 1 (N) ad g1 (0) (0) 135 [(0, .ref (ad 2))] [] := by
                intro n9
                induction n9 using Nat.strongRecOn with
                | ind n9 ih_lp135 =>
                  intro b8 t8 a7 g1 hm9 f1 f3 hy135_0 hy135_1
                  have hay36 : zAt ad (2) (ad 2) := rfl
                  have hay37 : zAt ad (1) (ad 1) := rfl
                  refine z_aload_n C 0 dX7_peek_135 rfl ?_
                  refine z_get (v := .int (zI (b8))) C (lt_K hN (rfl : Nat.blt (2) 952 = true)) hay36 f1 rfl inA_X7 6 (by decide) q_50 rfl rfl dX7_peek_136 ?_
                  refine z_aload_n C 0 dX7_peek_139 rfl ?_
                  refine z_get (v := .int (zI (en))) C (lt_K hN (rfl : Nat.blt (2) 952 = true)) hay36 f1 rfl inA_X7 3 (by decide) q_47 rfl rfl dX7_peek_140 ?_
                  refine z_icmp_ge (tgt := 178) C dX7_peek_143 (by decide) (by omega) (by omega) (fun hby38 => ?_) (fun hby38 => ?_)
                  · exact z_vret C hr hlk dX7_peek_178 (by decide) (by decide) ⟨rfl, rfl, rfl, ⟨_, _, _, _, _, _, _, by omega, by omega, f1, ((f3 _ (by omega)).trans hg1)⟩, fun j j1 => by exact f3 j j1⟩
                  · refine z_aload_n C 0 dX7_peek_146 rfl ?_
                    refine z_get (v := .ref (ad 1)) C (lt_K hN (rfl : Nat.blt (2) 952 = true)) hay36 f1 rfl inA_X7 2 (by decide) q_46 rfl rfl dX7_peek_147 ?_
                    refine z_aload_n C 0 dX7_peek_150 rfl ?_
                    refine z_get (v := .int (zI (b8))) C (lt_K hN (rfl : Nat.blt (2) 952 = true)) hay36 f1 rfl inA_X7 6 (by decide) q_50 rfl rfl dX7_peek_151 ?_
                    refine z_bald C (lt_K hN (rfl : Nat.blt (1) 952 = true)) hay37 ((f3 _ (by omega)).trans hg1) ((b8).toNat) (by omega) (by omega) (by decide) dX7_peek_154 ?_
                    obtain ⟨xy39, exy40, hxy41⟩ := zI_of (zI (tp ((b8).toNat)))
                    rw [exy40]
                    refine z_cS (As := [.int (zI (xy39))]) (rest := []) C (c_X7_typeOf l D A cs tt N ad _ (xy39) (by omega)) ms_yX7_typeOf q_746 hd_yX7_typeOf (by decide) (Nat.le_of_ble_eq_true rfl) (by decide) dX7_peek_155 rfl (kI0 fun vy42 gvy42 hvy42 => ?_)
                    obtain ⟨hvy42, rfl⟩ := hvy42
                    refine z_aload_n C 0 dX7_peek_158 rfl ?_
                    refine z_get (v := .int (zI (t8))) C (lt_K hN (rfl : Nat.blt (2) 952 = true)) hay36 f1 rfl inA_X7 4 (by decide) q_48 rfl rfl dX7_peek_159 ?_
                    refine z_icmp_ne (tgt := 178) C dX7_peek_162 (by decide) (by omega) (by omega) (fun hby43 => ?_) (fun hby43 => ?_)
                    · exact z_vret C hr hlk dX7_peek_178 (by decide) (by decide) ⟨rfl, rfl, rfl, ⟨_, _, _, _, _, _, _, by omega, by omega, f1, ((f3 _ (by omega)).trans hg1)⟩, fun j j1 => by exact f3 j j1⟩
                    · refine z_aload_n C 0 dX7_peek_165 rfl ?_
                      refine z_dup C dX7_peek_166 rfl ?_
                      refine z_get (v := .int (zI (b8))) C (lt_K hN (rfl : Nat.blt (2) 952 = true)) hay36 f1 rfl inA_X7 6 (by decide) q_50 rfl rfl dX7_peek_167 ?_
                      refine z_iconst (z := 1) C dX7_peek_170 rfl ?_
                      refine z_iadd C dX7_peek_171 ?_
                      refine z_put (fs' := [.int (zI (pl)), .int (zI (co)), .ref (ad 1), .int (zI (en)), .int (zI (t8)), .int (zI (a7)), .int (zI (b8 + 1)), .int (zI (tk)), .int (zI (td))]) C (lt_K hN (rfl : Nat.blt (2) 952 = true)) hay36 f1 tyX7 tyX7_ok nmX7 rfl inA_X7 6 (by decide) q_50 rfl rfl rfl rfl (Nat.le_of_ble_eq_true rfl) rfl dX7_peek_172 (fun gy44 egy45 => ?_)
                      have hgy46 := up_s egy45
                      refine z_goto (tgt := 135) C dX7_peek_175 (by decide) ?_
                      refine z_lv (lv' := [(0, .ref (ad 2))]) [0] rfl ?_
                      exact ih_lp135 _ (by omega) (b8 + 1) (t8) (a7) gy44 rfl hgy46 (fun j j1 => by rw [egy45, va_up_ne _ _ (by omega)]; exact f3 j j1) (by omega) (by omega)
              refine z_lv (lv' := [(0, .ref (ad 2))]) [0] rfl ?_
              exact lp135 _ (en) (vy27) (a8) gy32 rfl hgy34 (fun j j1 => by rw [egy33, va_up_ne _ _ (by omega)]; rw [egy29, va_up_ne _ _ (by omega)]; exact f3 j j1) (by omega) (by omega)
            · refine z_aload_n C 0 dX7_peek_127 rfl ?_
              refine z_get (v := .int (zI (vy27))) C (lt_K hN (rfl : Nat.blt (2) 952 = true)) hay6 hgy34 rfl inA_X7 4 (by decide) q_48 rfl rfl dX7_peek_128 ?_
              refine z_iconst (z := 2) C dX7_peek_131 rfl ?_
              refine z_icmp_ne (tgt := 178) C dX7_peek_132 (by decide) (by omega) (by omega) (fun hby47 => ?_) (fun hby47 => ?_)
              · have hgy48 := up_n egy29 ((f3 _ (by omega)).trans hg1) (by decide)
                have hgy49 := up_n egy33 hgy48 (by decide)
                exact z_vret C hr hlk dX7_peek_178 (by decide) (by decide) ⟨rfl, rfl, rfl, ⟨_, _, _, _, _, _, _, by omega, by omega, hgy34, hgy49⟩, fun j j1 => by rw [egy33, va_up_ne _ _ (by omega)]; rw [egy29, va_up_ne _ _ (by omega)]; exact f3 j j1⟩
              · have lp135 : ∀ (n9 : Nat) (b8 : Int) (t8 : Int) (a7 : Int) (g1 : Nat → va_E), (en - b8).toNat = n9 → (g1 2 = rdC ad (pl) (co) (en) (t8) (a7) (b8) (tk) (td)) → (∀ j, j ≠ 2 → g1 j = g j) → (0 ≤ a7 ∧ a7 ≤ b8 ∧ b8 ≤ en) → (0 ≤ t8 ∧ t8 ≤ 5) → zV p l e ({ frames := 2, cells := 0, slots := 0, locals := 120 } : Room) s m ([.ref (ad 2)] : List Value).toArray below meth c (MQ below (zPost D A (rV0 N ad fun g' => okRun cs ad g' co tp ∧ ∀ j, j ≠ 2 → g' j = g j)) ([.ref (ad 2)] : List Value).toArray s ({ frames := 2, cells := 0, slots := 0, locals := 120 } : Room).cells ({ frames := 2, cells := 0, slots := 0, locals := 120 } : Room).slots A) D A 1 (N) ad g1 (0) (0) 135 [(0, .ref (ad 2))] [] := by
                  intro n9
                  induction n9 using Nat.strongRecOn with
                  | ind n9 ih_lp135 =>
                    intro b8 t8 a7 g1 hm9 f1 f3 hy135_0 hy135_1
                    have hay50 : zAt ad (2) (ad 2) := rfl
                    have hay51 : zAt ad (1) (ad 1) := rfl
                    refine z_aload_n C 0 dX7_peek_135 rfl ?_
                    refine z_get (v := .int (zI (b8))) C (lt_K hN (rfl : Nat.blt (2) 952 = true)) hay50 f1 rfl inA_X7 6 (by decide) q_50 rfl rfl dX7_peek_136 ?_
                    refine z_aload_n C 0 dX7_peek_139 rfl ?_
                    refine z_get (v := .int (zI (en))) C (lt_K hN (rfl : Nat.blt (2) 952 = true)) hay50 f1 rfl inA_X7 3 (by decide) q_47 rfl rfl dX7_peek_140 ?_
                    refine z_icmp_ge (tgt := 178) C dX7_peek_143 (by decide) (by omega) (by omega) (fun hby52 => ?_) (fun hby52 => ?_)
                    · exact z_vret C hr hlk dX7_peek_178 (by decide) (by decide) ⟨rfl, rfl, rfl, ⟨_, _, _, _, _, _, _, by omega, by omega, f1, ((f3 _ (by omega)).trans hg1)⟩, fun j j1 => by exact f3 j j1⟩
                    · refine z_aload_n C 0 dX7_peek_146 rfl ?_
                      refine z_get (v := .ref (ad 1)) C (lt_K hN (rfl : Nat.blt (2) 952 = true)) hay50 f1 rfl inA_X7 2 (by decide) q_46 rfl rfl dX7_peek_147 ?_
                      refine z_aload_n C 0 dX7_peek_150 rfl ?_
                      refine z_get (v := .int (zI (b8))) C (lt_K hN (rfl : Nat.blt (2) 952 = true)) hay50 f1 rfl inA_X7 6 (by decide) q_50 rfl rfl dX7_peek_151 ?_
                      refine z_bald C (lt_K hN (rfl : Nat.blt (1) 952 = true)) hay51 ((f3 _ (by omega)).trans hg1) ((b8).toNat) (by omega) (by omega) (by decide) dX7_peek_154 ?_
                      obtain ⟨xy53, exy54, hxy55⟩ := zI_of (zI (tp ((b8).toNat)))
                      rw [exy54]
                      refine z_cS (As := [.int (zI (xy53))]) (rest := []) C (c_X7_typeOf l D A cs tt N ad _ (xy53) (by omega)) ms_yX7_typeOf q_746 hd_yX7_typeOf (by decide) (Nat.le_of_ble_eq_true rfl) (by decide) dX7_peek_155 rfl (kI0 fun vy56 gvy56 hvy56 => ?_)
                      obtain ⟨hvy56, rfl⟩ := hvy56
                      refine z_aload_n C 0 dX7_peek_158 rfl ?_
                      refine z_get (v := .int (zI (t8))) C (lt_K hN (rfl : Nat.blt (2) 952 = true)) hay50 f1 rfl inA_X7 4 (by decide) q_48 rfl rfl dX7_peek_159 ?_
                      refine z_icmp_ne (tgt := 178) C dX7_peek_162 (by decide) (by omega) (by omega) (fun hby57 => ?_) (fun hby57 => ?_)
                      · exact z_vret C hr hlk dX7_peek_178 (by decide) (by decide) ⟨rfl, rfl, rfl, ⟨_, _, _, _, _, _, _, by omega, by omega, f1, ((f3 _ (by omega)).trans hg1)⟩, fun j j1 => by exact f3 j j1⟩
                      · refine z_aload_n C 0 dX7_peek_165 rfl ?_
                        refine z_dup C dX7_peek_166 rfl ?_
                        refine z_get (v := .int (zI (b8))) C (lt_K hN (rfl : Nat.blt (2) 952 = true)) hay50 f1 rfl inA_X7 6 (by decide) q_50 rfl rfl dX7_peek_167 ?_
                        refine z_iconst (z := 1) C dX7_peek_170 rfl ?_
                        refine z_iadd C dX7_peek_171 ?_
                        refine z_put (fs' := [.int (zI (pl)), .int (zI (co)), .ref (ad 1), .int (zI (en)), .int (zI (t8)), .int (zI (a7)), .int (zI (b8 + 1)), .int (zI (tk)), .int (zI (td))]) C (lt_K hN (rfl : Nat.blt (2) 952 = true)) hay50 f1 tyX7 tyX7_ok nmX7 rfl inA_X7 6 (by decide) q_50 rfl rfl rfl rfl (Nat.le_of_ble_eq_true rfl) rfl dX7_peek_172 (fun gy58 egy59 => ?_)
                        have hgy60 := up_s egy59
                        refine z_goto (tgt := 135) C dX7_peek_175 (by decide) ?_
                        refine z_lv (lv' := [(0, .ref (ad 2))]) [0] rfl ?_
                        exact ih_lp135 _ (by omega) (b8 + 1) (t8) (a7) gy58 rfl hgy60 (fun j j1 => by rw [egy59, va_up_ne _ _ (by omega)]; exact f3 j j1) (by omega) (by omega)
                refine z_lv (lv' := [(0, .ref (ad 2))]) [0] rfl ?_
                exact lp135 _ (en) (vy27) (a8) gy32 rfl hgy34 (fun j j1 => by rw [egy33, va_up_ne _ _ (by omega)]; rw [egy29, va_up_ne _ _ (by omega)]; exact f3 j j1) (by omega) (by omega)
          · refine z_aload_n C 0 dX7_peek_103 rfl ?_
            refine z_get (v := .int (zI (a8))) C (lt_K hN (rfl : Nat.blt (2) 952 = true)) hay6 hgy30 rfl inA_X7 5 (by decide) q_49 rfl rfl dX7_peek_104 ?_
            refine z_iconst (z := 1) C dX7_peek_107 rfl ?_
            refine z_iadd C dX7_peek_108 ?_
            refine z_goto (tgt := 116) C dX7_peek_109 (by decide) ?_
            refine z_put (fs' := [.int (zI (pl)), .int (zI (co)), .ref (ad 1), .int (zI (en)), .int (zI (vy27)), .int (zI (a8)), .int (zI (a8 + 1)), .int (zI (tk)), .int (zI (td))]) C (lt_K hN (rfl : Nat.blt (2) 952 = true)) hay6 hgy30 tyX7 tyX7_ok nmX7 rfl inA_X7 6 (by decide) q_50 rfl rfl rfl rfl (Nat.le_of_ble_eq_true rfl) rfl dX7_peek_116 (fun gy61 egy62 => ?_)
            have hgy63 := up_s egy62
            refine z_aload_n C 0 dX7_peek_119 rfl ?_
            refine z_get (v := .int (zI (vy27))) C (lt_K hN (rfl : Nat.blt (2) 952 = true)) hay6 hgy63 rfl inA_X7 4 (by decide) q_48 rfl rfl dX7_peek_120 ?_
            refine z_iconst (z := 1) C dX7_peek_123 rfl ?_
            refine z_icmp_eq (tgt := 135) C dX7_peek_124 (by decide) (by omega) (by omega) (fun hby64 => ?_) (fun hby64 => ?_)
            · have lp135 : ∀ (n9 : Nat) (b8 : Int) (t8 : Int) (a7 : Int) (g1 : Nat → va_E), (en - b8).toNat = n9 → (g1 2 = rdC ad (pl) (co) (en) (t8) (a7) (b8) (tk) (td)) → (∀ j, j ≠ 2 → g1 j = g j) → (0 ≤ a7 ∧ a7 ≤ b8 ∧ b8 ≤ en) → (0 ≤ t8 ∧ t8 ≤ 5) → zV p l e ({ frames := 2, cells := 0, slots := 0, locals := 120 } : Room) s m ([.ref (ad 2)] : List Value).toArray below meth c (MQ below (zPost D A (rV0 N ad fun g' => okRun cs ad g' co tp ∧ ∀ j, j ≠ 2 → g' j = g j)) ([.ref (ad 2)] : List Value).toArray s ({ frames := 2, cells := 0, slots := 0, locals := 120 } : Room).cells ({ frames := 2, cells := 0, slots := 0, locals := 120 } : Room).slots A) D A 1 (N) ad g1 (0) (0) 135 [(0, .ref (ad 2))] [] := by
                intro n9
                induction n9 using Nat.strongRecOn with
                | ind n9 ih_lp135 =>
                  intro b8 t8 a7 g1 hm9 f1 f3 hy135_0 hy135_1
                  have hay65 : zAt ad (2) (ad 2) := rfl
                  have hay66 : zAt ad (1) (ad 1) := rfl
                  refine z_aload_n C 0 dX7_peek_135 rfl ?_
                  refine z_get (v := .int (zI (b8))) C (lt_K hN (rfl : Nat.blt (2) 952 = true)) hay65 f1 rfl inA_X7 6 (by decide) q_50 rfl rfl dX7_peek_136 ?_
                  refine z_aload_n C 0 dX7_peek_139 rfl ?_
                  refine z_get (v := .int (zI (en))) C (lt_K hN (rfl : Nat.blt (2) 952 = true)) hay65 f1 rfl inA_X7 3 (by decide) q_47 rfl rfl dX7_peek_140 ?_
                  refine z_icmp_ge (tgt := 178) C dX7_peek_143 (by decide) (by omega) (by omega) (fun hby67 => ?_) (fun hby67 => ?_)
                  · exact z_vret C hr hlk dX7_peek_178 (by decide) (by decide) ⟨rfl, rfl, rfl, ⟨_, _, _, _, _, _, _, by omega, by omega, f1, ((f3 _ (by omega)).trans hg1)⟩, fun j j1 => by exact f3 j j1⟩
                  · refine z_aload_n C 0 dX7_peek_146 rfl ?_
                    refine z_get (v := .ref (ad 1)) C (lt_K hN (rfl : Nat.blt (2) 952 = true)) hay65 f1 rfl inA_X7 2 (by decide) q_46 rfl rfl dX7_peek_147 ?_
                    refine z_aload_n C 0 dX7_peek_150 rfl ?_
                    refine z_get (v := .int (zI (b8))) C (lt_K hN (rfl : Nat.blt (2) 952 = true)) hay65 f1 rfl inA_X7 6 (by decide) q_50 rfl rfl dX7_peek_151 ?_
                    refine z_bald C (lt_K hN (rfl : Nat.blt (1) 952 = true)) hay66 ((f3 _ (by omega)).trans hg1) ((b8).toNat) (by omega) (by omega) (by decide) dX7_peek_154 ?_
                    obtain ⟨xy68, exy69, hxy70⟩ := zI_of (zI (tp ((b8).toNat)))
                    rw [exy69]
                    refine z_cS (As := [.int (zI (xy68))]) (rest := []) C (c_X7_typeOf l D A cs tt N ad _ (xy68) (by omega)) ms_yX7_typeOf q_746 hd_yX7_typeOf (by decide) (Nat.le_of_ble_eq_true rfl) (by decide) dX7_peek_155 rfl (kI0 fun vy71 gvy71 hvy71 => ?_)
                    obtain ⟨hvy71, rfl⟩ := hvy71
                    refine z_aload_n C 0 dX7_peek_158 rfl ?_
                    refine z_get (v := .int (zI (t8))) C (lt_K hN (rfl : Nat.blt (2) 952 = true)) hay65 f1 rfl inA_X7 4 (by decide) q_48 rfl rfl dX7_peek_159 ?_
                    refine z_icmp_ne (tgt := 178) C dX7_peek_162 (by decide) (by omega) (by omega) (fun hby72 => ?_) (fun hby72 => ?_)
                    · exact z_vret C hr hlk dX7_peek_178 (by decide) (by decide) ⟨rfl, rfl, rfl, ⟨_, _, _, _, _, _, _, by omega, by omega, f1, ((f3 _ (by omega)).trans hg1)⟩, fun j j1 => by exact f3 j j1⟩
                    · refine z_aload_n C 0 dX7_peek_165 rfl ?_
                      refine z_dup C dX7_peek_166 rfl ?_
                      refine z_get (v := .int (zI (b8))) C (lt_K hN (rfl : Nat.blt (2) 952 = true)) hay65 f1 rfl inA_X7 6 (by decide) q_50 rfl rfl dX7_peek_167 ?_
                      refine z_iconst (z := 1) C dX7_peek_170 rfl ?_
                      refine z_iadd C dX7_peek_171 ?_
                      refine z_put (fs' := [.int (zI (pl)), .int (zI (co)), .ref (ad 1), .int (zI (en)), .int (zI (t8)), .int (zI (a7)), .int (zI (b8 + 1)), .int (zI (tk)), .int (zI (td))]) C (lt_K hN (rfl : Nat.blt (2) 952 = true)) hay65 f1 tyX7 tyX7_ok nmX7 rfl inA_X7 6 (by decide) q_50 rfl rfl rfl rfl (Nat.le_of_ble_eq_true rfl) rfl dX7_peek_172 (fun gy73 egy74 => ?_)
                      have hgy75 := up_s egy74
                      refine z_goto (tgt := 135) C dX7_peek_175 (by decide) ?_
                      refine z_lv (lv' := [(0, .ref (ad 2))]) [0] rfl ?_
                      exact ih_lp135 _ (by omega) (b8 + 1) (t8) (a7) gy73 rfl hgy75 (fun j j1 => by rw [egy74, va_up_ne _ _ (by omega)]; exact f3 j j1) (by omega) (by omega)
              refine z_lv (lv' := [(0, .ref (ad 2))]) [0] rfl ?_
              exact lp135 _ (a8 + 1) (vy27) (a8) gy61 rfl hgy63 (fun j j1 => by rw [egy62, va_up_ne _ _ (by omega)]; rw [egy29, va_up_ne _ _ (by omega)]; exact f3 j j1) (by omega) (by omega)
            · refine z_aload_n C 0 dX7_peek_127 rfl ?_
              refine z_get (v := .int (zI (vy27))) C (lt_K hN (rfl : Nat.blt (2) 952 = true)) hay6 hgy63 rfl inA_X7 4 (by decide) q_48 rfl rfl dX7_peek_128 ?_
              refine z_iconst (z := 2) C dX7_peek_131 rfl ?_
              refine z_icmp_ne (tgt := 178) C dX7_peek_132 (by decide) (by omega) (by omega) (fun hby76 => ?_) (fun hby76 => ?_)
              · have hgy77 := up_n egy29 ((f3 _ (by omega)).trans hg1) (by decide)
                have hgy78 := up_n egy62 hgy77 (by decide)
                exact z_vret C hr hlk dX7_peek_178 (by decide) (by decide) ⟨rfl, rfl, rfl, ⟨_, _, _, _, _, _, _, by omega, by omega, hgy63, hgy78⟩, fun j j1 => by rw [egy62, va_up_ne _ _ (by omega)]; rw [egy29, va_up_ne _ _ (by omega)]; exact f3 j j1⟩
              · have lp135 : ∀ (n9 : Nat) (b8 : Int) (t8 : Int) (a7 : Int) (g1 : Nat → va_E), (en - b8).toNat = n9 → (g1 2 = rdC ad (pl) (co) (en) (t8) (a7) (b8) (tk) (td)) → (∀ j, j ≠ 2 → g1 j = g j) → (0 ≤ a7 ∧ a7 ≤ b8 ∧ b8 ≤ en) → (0 ≤ t8 ∧ t8 ≤ 5) → zV p l e ({ frames := 2, cells := 0, slots := 0, locals := 120 } : Room) s m ([.ref (ad 2)] : List Value).toArray below meth c (MQ below (zPost D A (rV0 N ad fun g' => okRun cs ad g' co tp ∧ ∀ j, j ≠ 2 → g' j = g j)) ([.ref (ad 2)] : List Value).toArray s ({ frames := 2, cells := 0, slots := 0, locals := 120 } : Room).cells ({ frames := 2, cells := 0, slots := 0, locals := 120 } : Room).slots A) D A 1 (N) ad g1 (0) (0) 135 [(0, .ref (ad 2))] [] := by
                  intro n9
                  induction n9 using Nat.strongRecOn with
                  | ind n9 ih_lp135 =>
                    intro b8 t8 a7 g1 hm9 f1 f3 hy135_0 hy135_1
                    have hay79 : zAt ad (2) (ad 2) := rfl
                    have hay80 : zAt ad (1) (ad 1) := rfl
                    refine z_aload_n C 0 dX7_peek_135 rfl ?_
                    refine z_get (v := .int (zI (b8))) C (lt_K hN (rfl : Nat.blt (2) 952 = true)) hay79 f1 rfl inA_X7 6 (by decide) q_50 rfl rfl dX7_peek_136 ?_
                    refine z_aload_n C 0 dX7_peek_139 rfl ?_
                    refine z_get (v := .int (zI (en))) C (lt_K hN (rfl : Nat.blt (2) 952 = true)) hay79 f1 rfl inA_X7 3 (by decide) q_47 rfl rfl dX7_peek_140 ?_
                    refine z_icmp_ge (tgt := 178) C dX7_peek_143 (by decide) (by omega) (by omega) (fun hby81 => ?_) (fun hby81 => ?_)
                    · exact z_vret C hr hlk dX7_peek_178 (by decide) (by decide) ⟨rfl, rfl, rfl, ⟨_, _, _, _, _, _, _, by omega, by omega, f1, ((f3 _ (by omega)).trans hg1)⟩, fun j j1 => by exact f3 j j1⟩
                    · refine z_aload_n C 0 dX7_peek_146 rfl ?_
                      refine z_get (v := .ref (ad 1)) C (lt_K hN (rfl : Nat.blt (2) 952 = true)) hay79 f1 rfl inA_X7 2 (by decide) q_46 rfl rfl dX7_peek_147 ?_
                      refine z_aload_n C 0 dX7_peek_150 rfl ?_
                      refine z_get (v := .int (zI (b8))) C (lt_K hN (rfl : Nat.blt (2) 952 = true)) hay79 f1 rfl inA_X7 6 (by decide) q_50 rfl rfl dX7_peek_151 ?_
                      refine z_bald C (lt_K hN (rfl : Nat.blt (1) 952 = true)) hay80 ((f3 _ (by omega)).trans hg1) ((b8).toNat) (by omega) (by omega) (by decide) dX7_peek_154 ?_
                      obtain ⟨xy82, exy83, hxy84⟩ := zI_of (zI (tp ((b8).toNat)))
                      rw [exy83]
                      refine z_cS (As := [.int (zI (xy82))]) (rest := []) C (c_X7_typeOf l D A cs tt N ad _ (xy82) (by omega)) ms_yX7_typeOf q_746 hd_yX7_typeOf (by decide) (Nat.le_of_ble_eq_true rfl) (by decide) dX7_peek_155 rfl (kI0 fun vy85 gvy85 hvy85 => ?_)
                      obtain ⟨hvy85, rfl⟩ := hvy85
                      refine z_aload_n C 0 dX7_peek_158 rfl ?_
                      refine z_get (v := .int (zI (t8))) C (lt_K hN (rfl : Nat.blt (2) 952 = true)) hay79 f1 rfl inA_X7 4 (by decide) q_48 rfl rfl dX7_peek_159 ?_
                      refine z_icmp_ne (tgt := 178) C dX7_peek_162 (by decide) (by omega) (by omega) (fun hby86 => ?_) (fun hby86 => ?_)
                      · exact z_vret C hr hlk dX7_peek_178 (by decide) (by decide) ⟨rfl, rfl, rfl, ⟨_, _, _, _, _, _, _, by omega, by omega, f1, ((f3 _ (by omega)).trans hg1)⟩, fun j j1 => by exact f3 j j1⟩
                      · refine z_aload_n C 0 dX7_peek_165 rfl ?_
                        refine z_dup C dX7_peek_166 rfl ?_
                        refine z_get (v := .int (zI (b8))) C (lt_K hN (rfl : Nat.blt (2) 952 = true)) hay79 f1 rfl inA_X7 6 (by decide) q_50 rfl rfl dX7_peek_167 ?_
                        refine z_iconst (z := 1) C dX7_peek_170 rfl ?_
                        refine z_iadd C dX7_peek_171 ?_
                        refine z_put (fs' := [.int (zI (pl)), .int (zI (co)), .ref (ad 1), .int (zI (en)), .int (zI (t8)), .int (zI (a7)), .int (zI (b8 + 1)), .int (zI (tk)), .int (zI (td))]) C (lt_K hN (rfl : Nat.blt (2) 952 = true)) hay79 f1 tyX7 tyX7_ok nmX7 rfl inA_X7 6 (by decide) q_50 rfl rfl rfl rfl (Nat.le_of_ble_eq_true rfl) rfl dX7_peek_172 (fun gy87 egy88 => ?_)
                        have hgy89 := up_s egy88
                        refine z_goto (tgt := 135) C dX7_peek_175 (by decide) ?_
                        refine z_lv (lv' := [(0, .ref (ad 2))]) [0] rfl ?_
                        exact ih_lp135 _ (by omega) (b8 + 1) (t8) (a7) gy87 rfl hgy89 (fun j j1 => by rw [egy88, va_up_ne _ _ (by omega)]; exact f3 j j1) (by omega) (by omega)
                refine z_lv (lv' := [(0, .ref (ad 2))]) [0] rfl ?_
                exact lp135 _ (a8 + 1) (vy27) (a8) gy61 rfl hgy63 (fun j j1 => by rw [egy62, va_up_ne _ _ (by omega)]; rw [egy29, va_up_ne _ _ (by omega)]; exact f3 j j1) (by omega) (by omega)
      · refine z_aload_n C 0 dX7_peek_19 rfl ?_
        refine z_get (v := .ref (ad 1)) C (lt_K hN (rfl : Nat.blt (2) 952 = true)) hay6 f1 rfl inA_X7 2 (by decide) q_46 rfl rfl dX7_peek_20 ?_
        refine z_aload_n C 0 dX7_peek_23 rfl ?_
        refine z_get (v := .int (zI (a8))) C (lt_K hN (rfl : Nat.blt (2) 952 = true)) hay6 f1 rfl inA_X7 5 (by decide) q_49 rfl rfl dX7_peek_24 ?_
        refine z_bald C (lt_K hN (rfl : Nat.blt (1) 952 = true)) hay7 ((f3 _ (by omega)).trans hg1) ((a8).toNat) (by omega) (by omega) (by decide) dX7_peek_27 ?_
        refine z_bipush (z := 32) C dX7_peek_28 (by decide) ?_
        obtain ⟨xy90, exy91, hxy92⟩ := zI_of (zI (tp ((a8).toNat)))
        rw [exy91]
        refine z_icmp_eq (tgt := 47) C dX7_peek_30 (by decide) (by omega) (by omega) (fun hby93 => ?_) (fun hby93 => ?_)
        · refine z_aload_n C 0 dX7_peek_47 rfl ?_
          refine z_dup C dX7_peek_48 rfl ?_
          refine z_get (v := .int (zI (a8))) C (lt_K hN (rfl : Nat.blt (2) 952 = true)) hay6 f1 rfl inA_X7 5 (by decide) q_49 rfl rfl dX7_peek_49 ?_
          refine z_iconst (z := 1) C dX7_peek_52 rfl ?_
          refine z_iadd C dX7_peek_53 ?_
          refine z_put (fs' := [.int (zI (pl)), .int (zI (co)), .ref (ad 1), .int (zI (en)), .int (zI (ty)), .int (zI (a8 + 1)), .int (zI (be)), .int (zI (tk)), .int (zI (td))]) C (lt_K hN (rfl : Nat.blt (2) 952 = true)) hay6 f1 tyX7 tyX7_ok nmX7 rfl inA_X7 5 (by decide) q_49 rfl rfl rfl rfl (Nat.le_of_ble_eq_true rfl) rfl dX7_peek_54 (fun gy94 egy95 => ?_)
          have hgy96 := up_s egy95
          refine z_goto (tgt := 8) C dX7_peek_57 (by decide) ?_
          refine z_lv (lv' := [(0, .ref (ad 2))]) [0] rfl ?_
          exact ih_lp8 _ (by omega) (a8 + 1) gy94 rfl hgy96 (fun j j1 => by rw [egy95, va_up_ne _ _ (by omega)]; exact f3 j j1) (by omega)
        · refine z_aload_n C 0 dX7_peek_33 rfl ?_
          refine z_get (v := .ref (ad 1)) C (lt_K hN (rfl : Nat.blt (2) 952 = true)) hay6 f1 rfl inA_X7 2 (by decide) q_46 rfl rfl dX7_peek_34 ?_
          refine z_aload_n C 0 dX7_peek_37 rfl ?_
          refine z_get (v := .int (zI (a8))) C (lt_K hN (rfl : Nat.blt (2) 952 = true)) hay6 f1 rfl inA_X7 5 (by decide) q_49 rfl rfl dX7_peek_38 ?_
          refine z_bald C (lt_K hN (rfl : Nat.blt (1) 952 = true)) hay7 ((f3 _ (by omega)).trans hg1) ((a8).toNat) (by omega) (by omega) (by decide) dX7_peek_41 ?_
          refine z_bipush (z := 10) C dX7_peek_42 (by decide) ?_
          obtain ⟨xy97, exy98, hxy99⟩ := zI_of (zI (tp ((a8).toNat)))
          rw [exy98]
          refine z_icmp_ne (tgt := 60) C dX7_peek_44 (by decide) (by omega) (by omega) (fun hby100 => ?_) (fun hby100 => ?_)
          · refine z_aload_n C 0 dX7_peek_60 rfl ?_
            refine z_aload_n C 0 dX7_peek_61 rfl ?_
            refine z_get (v := .int (zI (a8))) C (lt_K hN (rfl : Nat.blt (2) 952 = true)) hay6 f1 rfl inA_X7 5 (by decide) q_49 rfl rfl dX7_peek_62 ?_
            refine z_aload_n C 0 dX7_peek_65 rfl ?_
            refine z_get (v := .int (zI (en))) C (lt_K hN (rfl : Nat.blt (2) 952 = true)) hay6 f1 rfl inA_X7 3 (by decide) q_47 rfl rfl dX7_peek_66 ?_
            refine z_icmp_ge (tgt := 87) C dX7_peek_69 (by decide) (by omega) (by omega) (fun hby101 => ?_) (fun hby101 => ?_)
            · refine z_iconst (z := 0) C dX7_peek_87 rfl ?_
              refine z_put (fs' := [.int (zI (pl)), .int (zI (co)), .ref (ad 1), .int (zI (en)), .int (zI (0)), .int (zI (a8)), .int (zI (be)), .int (zI (tk)), .int (zI (td))]) C (lt_K hN (rfl : Nat.blt (2) 952 = true)) hay6 f1 tyX7 tyX7_ok nmX7 rfl inA_X7 4 (by decide) q_48 rfl rfl rfl rfl (Nat.le_of_ble_eq_true rfl) rfl dX7_peek_88 (fun gy102 egy103 => ?_)
              have hgy104 := up_s egy103
              refine z_aload_n C 0 dX7_peek_91 rfl ?_
              refine z_aload_n C 0 dX7_peek_92 rfl ?_
              refine z_get (v := .int (zI (a8))) C (lt_K hN (rfl : Nat.blt (2) 952 = true)) hay6 hgy104 rfl inA_X7 5 (by decide) q_49 rfl rfl dX7_peek_93 ?_
              refine z_aload_n C 0 dX7_peek_96 rfl ?_
              refine z_get (v := .int (zI (en))) C (lt_K hN (rfl : Nat.blt (2) 952 = true)) hay6 hgy104 rfl inA_X7 3 (by decide) q_47 rfl rfl dX7_peek_97 ?_
              refine z_icmp_ge (tgt := 112) C dX7_peek_100 (by decide) (by omega) (by omega) (fun hby105 => ?_) (fun hby105 => ?_)
              · refine z_aload_n C 0 dX7_peek_112 rfl ?_
                refine z_get (v := .int (zI (en))) C (lt_K hN (rfl : Nat.blt (2) 952 = true)) hay6 hgy104 rfl inA_X7 3 (by decide) q_47 rfl rfl dX7_peek_113 ?_
                refine z_put (fs' := [.int (zI (pl)), .int (zI (co)), .ref (ad 1), .int (zI (en)), .int (zI (0)), .int (zI (a8)), .int (zI (en)), .int (zI (tk)), .int (zI (td))]) C (lt_K hN (rfl : Nat.blt (2) 952 = true)) hay6 hgy104 tyX7 tyX7_ok nmX7 rfl inA_X7 6 (by decide) q_50 rfl rfl rfl rfl (Nat.le_of_ble_eq_true rfl) rfl dX7_peek_116 (fun gy106 egy107 => ?_)
                have hgy108 := up_s egy107
                refine z_aload_n C 0 dX7_peek_119 rfl ?_
                refine z_get (v := .int (zI (0))) C (lt_K hN (rfl : Nat.blt (2) 952 = true)) hay6 hgy108 rfl inA_X7 4 (by decide) q_48 rfl rfl dX7_peek_120 ?_
                refine z_iconst (z := 1) C dX7_peek_123 rfl ?_
                refine z_icmp_eq (tgt := 135) C dX7_peek_124 (by decide) (by omega) (by omega) (fun h => absurd h (by omega)) (fun _ => ?_)
                refine z_aload_n C 0 dX7_peek_127 rfl ?_
                refine z_get (v := .int (zI (0))) C (lt_K hN (rfl : Nat.blt (2) 952 = true)) hay6 hgy108 rfl inA_X7 4 (by decide) q_48 rfl rfl dX7_peek_128 ?_
                refine z_iconst (z := 2) C dX7_peek_131 rfl ?_
                refine z_icmp_ne (tgt := 178) C dX7_peek_132 (by decide) (by omega) (by omega) (fun _ => ?_) (fun h => absurd h (by omega))
                have hgy109 := up_n egy103 ((f3 _ (by omega)).trans hg1) (by decide)
                have hgy110 := up_n egy107 hgy109 (by decide)
                exact z_vret C hr hlk dX7_peek_178 (by decide) (by decide) ⟨rfl, rfl, rfl, ⟨_, _, _, _, _, _, _, by omega, by omega, hgy108, hgy110⟩, fun j j1 => by rw [egy107, va_up_ne _ _ (by omega)]; rw [egy103, va_up_ne _ _ (by omega)]; exact f3 j j1⟩
              · refine z_aload_n C 0 dX7_peek_103 rfl ?_
                refine z_get (v := .int (zI (a8))) C (lt_K hN (rfl : Nat.blt (2) 952 = true)) hay6 hgy104 rfl inA_X7 5 (by decide) q_49 rfl rfl dX7_peek_104 ?_
                refine z_iconst (z := 1) C dX7_peek_107 rfl ?_
                refine z_iadd C dX7_peek_108 ?_
                refine z_goto (tgt := 116) C dX7_peek_109 (by decide) ?_
                refine z_put (fs' := [.int (zI (pl)), .int (zI (co)), .ref (ad 1), .int (zI (en)), .int (zI (0)), .int (zI (a8)), .int (zI (a8 + 1)), .int (zI (tk)), .int (zI (td))]) C (lt_K hN (rfl : Nat.blt (2) 952 = true)) hay6 hgy104 tyX7 tyX7_ok nmX7 rfl inA_X7 6 (by decide) q_50 rfl rfl rfl rfl (Nat.le_of_ble_eq_true rfl) rfl dX7_peek_116 (fun gy111 egy112 => ?_)
                have hgy113 := up_s egy112
                refine z_aload_n C 0 dX7_peek_119 rfl ?_
                refine z_get (v := .int (zI (0))) C (lt_K hN (rfl : Nat.blt (2) 952 = true)) hay6 hgy113 rfl inA_X7 4 (by decide) q_48 rfl rfl dX7_peek_120 ?_
                refine z_iconst (z := 1) C dX7_peek_123 rfl ?_
                refine z_icmp_eq (tgt := 135) C dX7_peek_124 (by decide) (by omega) (by omega) (fun h => absurd h (by omega)) (fun _ => ?_)
                refine z_aload_n C 0 dX7_peek_127 rfl ?_
                refine z_get (v := .int (zI (0))) C (lt_K hN (rfl : Nat.blt (2) 952 = true)) hay6 hgy113 rfl inA_X7 4 (by decide) q_48 rfl rfl dX7_peek_128 ?_
                refine z_iconst (z := 2) C dX7_peek_131 rfl ?_
                refine z_icmp_ne (tgt := 178) C dX7_peek_132 (by decide) (by omega) (by omega) (fun _ => ?_) (fun h => absurd h (by omega))
                have hgy114 := up_n egy103 ((f3 _ (by omega)).trans hg1) (by decide)
                have hgy115 := up_n egy112 hgy114 (by decide)
                exact z_vret C hr hlk dX7_peek_178 (by decide) (by decide) ⟨rfl, rfl, rfl, ⟨_, _, _, _, _, _, _, by omega, by omega, hgy113, hgy115⟩, fun j j1 => by rw [egy112, va_up_ne _ _ (by omega)]; rw [egy103, va_up_ne _ _ (by omega)]; exact f3 j j1⟩
            · refine z_aload_n C 0 dX7_peek_72 rfl ?_
              refine z_get (v := .ref (ad 1)) C (lt_K hN (rfl : Nat.blt (2) 952 = true)) hay6 f1 rfl inA_X7 2 (by decide) q_46 rfl rfl dX7_peek_73 ?_
              refine z_aload_n C 0 dX7_peek_76 rfl ?_
              refine z_get (v := .int (zI (a8))) C (lt_K hN (rfl : Nat.blt (2) 952 = true)) hay6 f1 rfl inA_X7 5 (by decide) q_49 rfl rfl dX7_peek_77 ?_
              refine z_bald C (lt_K hN (rfl : Nat.blt (1) 952 = true)) hay7 ((f3 _ (by omega)).trans hg1) ((a8).toNat) (by omega) (by omega) (by decide) dX7_peek_80 ?_
              obtain ⟨xy116, exy117, hxy118⟩ := zI_of (zI (tp ((a8).toNat)))
              rw [exy117]
              refine z_cS (As := [.int (zI (xy116))]) (rest := [.ref (ad 2)]) C (c_X7_typeOf l D A cs tt N ad _ (xy116) (by omega)) ms_yX7_typeOf q_746 hd_yX7_typeOf (by decide) (Nat.le_of_ble_eq_true rfl) (by decide) dX7_peek_81 rfl (kI0 fun vy119 gvy119 hvy119 => ?_)
              obtain ⟨hvy119, rfl⟩ := hvy119
              refine z_goto (tgt := 88) C dX7_peek_84 (by decide) ?_
              refine z_put (fs' := [.int (zI (pl)), .int (zI (co)), .ref (ad 1), .int (zI (en)), .int (zI (vy119)), .int (zI (a8)), .int (zI (be)), .int (zI (tk)), .int (zI (td))]) C (lt_K hN (rfl : Nat.blt (2) 952 = true)) hay6 f1 tyX7 tyX7_ok nmX7 rfl inA_X7 4 (by decide) q_48 rfl rfl rfl rfl (Nat.le_of_ble_eq_true rfl) rfl dX7_peek_88 (fun gy120 egy121 => ?_)
              have hgy122 := up_s egy121
              refine z_aload_n C 0 dX7_peek_91 rfl ?_
              refine z_aload_n C 0 dX7_peek_92 rfl ?_
              refine z_get (v := .int (zI (a8))) C (lt_K hN (rfl : Nat.blt (2) 952 = true)) hay6 hgy122 rfl inA_X7 5 (by decide) q_49 rfl rfl dX7_peek_93 ?_
              refine z_aload_n C 0 dX7_peek_96 rfl ?_
              refine z_get (v := .int (zI (en))) C (lt_K hN (rfl : Nat.blt (2) 952 = true)) hay6 hgy122 rfl inA_X7 3 (by decide) q_47 rfl rfl dX7_peek_97 ?_
              refine z_icmp_ge (tgt := 112) C dX7_peek_100 (by decide) (by omega) (by omega) (fun hby123 => ?_) (fun hby123 => ?_)
              · refine z_aload_n C 0 dX7_peek_112 rfl ?_
                refine z_get (v := .int (zI (en))) C (lt_K hN (rfl : Nat.blt (2) 952 = true)) hay6 hgy122 rfl inA_X7 3 (by decide) q_47 rfl rfl dX7_peek_113 ?_
                refine z_put (fs' := [.int (zI (pl)), .int (zI (co)), .ref (ad 1), .int (zI (en)), .int (zI (vy119)), .int (zI (a8)), .int (zI (en)), .int (zI (tk)), .int (zI (td))]) C (lt_K hN (rfl : Nat.blt (2) 952 = true)) hay6 hgy122 tyX7 tyX7_ok nmX7 rfl inA_X7 6 (by decide) q_50 rfl rfl rfl rfl (Nat.le_of_ble_eq_true rfl) rfl dX7_peek_116 (fun gy124 egy125 => ?_)
                have hgy126 := up_s egy125
                refine z_aload_n C 0 dX7_peek_119 rfl ?_
                refine z_get (v := .int (zI (vy119))) C (lt_K hN (rfl : Nat.blt (2) 952 = true)) hay6 hgy126 rfl inA_X7 4 (by decide) q_48 rfl rfl dX7_peek_120 ?_
                refine z_iconst (z := 1) C dX7_peek_123 rfl ?_
                refine z_icmp_eq (tgt := 135) C dX7_peek_124 (by decide) (by omega) (by omega) (fun hby127 => ?_) (fun hby127 => ?_)
                · have lp135 : ∀ (n9 : Nat) (b8 : Int) (t8 : Int) (a7 : Int) (g1 : Nat → va_E), (en - b8).toNat = n9 → (g1 2 = rdC ad (pl) (co) (en) (t8) (a7) (b8) (tk) (td)) → (∀ j, j ≠ 2 → g1 j = g j) → (0 ≤ a7 ∧ a7 ≤ b8 ∧ b8 ≤ en) → (0 ≤ t8 ∧ t8 ≤ 5) → zV p l e ({ frames := 2, cells := 0, slots := 0, locals := 120 } : Room) s m ([.ref (ad 2)] : List Value).toArray below meth c (MQ below (zPost D A (rV0 N ad fun g' => okRun cs ad g' co tp ∧ ∀ j, j ≠ 2 → g' j = g j)) ([.ref (ad 2)] : List Value).toArray s ({ frames := 2, cells := 0, slots := 0, locals := 120 } : Room).cells ({ frames := 2, cells := 0, slots := 0, locals := 120 } : Room).slots A) D A 1 (N) ad g1 (0) (0) 135 [(0, .ref (ad 2))] [] := by
                    intro n9
                    induction n9 using Nat.strongRecOn with
                    | ind n9 ih_lp135 =>
                      intro b8 t8 a7 g1 hm9 f1 f3 hy135_0 hy135_1
                      have hay128 : zAt ad (2) (ad 2) := rfl
                      have hay129 : zAt ad (1) (ad 1) := rfl
                      refine z_aload_n C 0 dX7_peek_135 rfl ?_
                      refine z_get (v := .int (zI (b8))) C (lt_K hN (rfl : Nat.blt (2) 952 = true)) hay128 f1 rfl inA_X7 6 (by decide) q_50 rfl rfl dX7_peek_136 ?_
                      refine z_aload_n C 0 dX7_peek_139 rfl ?_
                      refine z_get (v := .int (zI (en))) C (lt_K hN (rfl : Nat.blt (2) 952 = true)) hay128 f1 rfl inA_X7 3 (by decide) q_47 rfl rfl dX7_peek_140 ?_
                      refine z_icmp_ge (tgt := 178) C dX7_peek_143 (by decide) (by omega) (by omega) (fun hby130 => ?_) (fun hby130 => ?_)
                      · exact z_vret C hr hlk dX7_peek_178 (by decide) (by decide) ⟨rfl, rfl, rfl, ⟨_, _, _, _, _, _, _, by omega, by omega, f1, ((f3 _ (by omega)).trans hg1)⟩, fun j j1 => by exact f3 j j1⟩
                      · refine z_aload_n C 0 dX7_peek_146 rfl ?_
                        refine z_get (v := .ref (ad 1)) C (lt_K hN (rfl : Nat.blt (2) 952 = true)) hay128 f1 rfl inA_X7 2 (by decide) q_46 rfl rfl dX7_peek_147 ?_
                        refine z_aload_n C 0 dX7_peek_150 rfl ?_
                        refine z_get (v := .int (zI (b8))) C (lt_K hN (rfl : Nat.blt (2) 952 = true)) hay128 f1 rfl inA_X7 6 (by decide) q_50 rfl rfl dX7_peek_151 ?_
                        refine z_bald C (lt_K hN (rfl : Nat.blt (1) 952 = true)) hay129 ((f3 _ (by omega)).trans hg1) ((b8).toNat) (by omega) (by omega) (by decide) dX7_peek_154 ?_
                        obtain ⟨xy131, exy132, hxy133⟩ := zI_of (zI (tp ((b8).toNat)))
                        rw [exy132]
                        refine z_cS (As := [.int (zI (xy131))]) (rest := []) C (c_X7_typeOf l D A cs tt N ad _ (xy131) (by omega)) ms_yX7_typeOf q_746 hd_yX7_typeOf (by decide) (Nat.le_of_ble_eq_true rfl) (by decide) dX7_peek_155 rfl (kI0 fun vy134 gvy134 hvy134 => ?_)
                        obtain ⟨hvy134, rfl⟩ := hvy134
                        refine z_aload_n C 0 dX7_peek_158 rfl ?_
                        refine z_get (v := .int (zI (t8))) C (lt_K hN (rfl : Nat.blt (2) 952 = true)) hay128 f1 rfl inA_X7 4 (by decide) q_48 rfl rfl dX7_peek_159 ?_
                        refine z_icmp_ne (tgt := 178) C dX7_peek_162 (by decide) (by omega) (by omega) (fun hby135 => ?_) (fun hby135 => ?_)
                        · exact z_vret C hr hlk dX7_peek_178 (by decide) (by decide) ⟨rfl, rfl, rfl, ⟨_, _, _, _, _, _, _, by omega, by omega, f1, ((f3 _ (by omega)).trans hg1)⟩, fun j j1 => by exact f3 j j1⟩
                        · refine z_aload_n C 0 dX7_peek_165 rfl ?_
                          refine z_dup C dX7_peek_166 rfl ?_
                          refine z_get (v := .int (zI (b8))) C (lt_K hN (rfl : Nat.blt (2) 952 = true)) hay128 f1 rfl inA_X7 6 (by decide) q_50 rfl rfl dX7_peek_167 ?_
                          refine z_iconst (z := 1) C dX7_peek_170 rfl ?_
                          refine z_iadd C dX7_peek_171 ?_
                          refine z_put (fs' := [.int (zI (pl)), .int (zI (co)), .ref (ad 1), .int (zI (en)), .int (zI (t8)), .int (zI (a7)), .int (zI (b8 + 1)), .int (zI (tk)), .int (zI (td))]) C (lt_K hN (rfl : Nat.blt (2) 952 = true)) hay128 f1 tyX7 tyX7_ok nmX7 rfl inA_X7 6 (by decide) q_50 rfl rfl rfl rfl (Nat.le_of_ble_eq_true rfl) rfl dX7_peek_172 (fun gy136 egy137 => ?_)
                          have hgy138 := up_s egy137
                          refine z_goto (tgt := 135) C dX7_peek_175 (by decide) ?_
                          refine z_lv (lv' := [(0, .ref (ad 2))]) [0] rfl ?_
                          exact ih_lp135 _ (by omega) (b8 + 1) (t8) (a7) gy136 rfl hgy138 (fun j j1 => by rw [egy137, va_up_ne _ _ (by omega)]; exact f3 j j1) (by omega) (by omega)
                  refine z_lv (lv' := [(0, .ref (ad 2))]) [0] rfl ?_
                  exact lp135 _ (en) (vy119) (a8) gy124 rfl hgy126 (fun j j1 => by rw [egy125, va_up_ne _ _ (by omega)]; rw [egy121, va_up_ne _ _ (by omega)]; exact f3 j j1) (by omega) (by omega)
                · refine z_aload_n C 0 dX7_peek_127 rfl ?_
                  refine z_get (v := .int (zI (vy119))) C (lt_K hN (rfl : Nat.blt (2) 952 = true)) hay6 hgy126 rfl inA_X7 4 (by decide) q_48 rfl rfl dX7_peek_128 ?_
                  refine z_iconst (z := 2) C dX7_peek_131 rfl ?_
                  refine z_icmp_ne (tgt := 178) C dX7_peek_132 (by decide) (by omega) (by omega) (fun hby139 => ?_) (fun hby139 => ?_)
                  · have hgy140 := up_n egy121 ((f3 _ (by omega)).trans hg1) (by decide)
                    have hgy141 := up_n egy125 hgy140 (by decide)
                    exact z_vret C hr hlk dX7_peek_178 (by decide) (by decide) ⟨rfl, rfl, rfl, ⟨_, _, _, _, _, _, _, by omega, by omega, hgy126, hgy141⟩, fun j j1 => by rw [egy125, va_up_ne _ _ (by omega)]; rw [egy121, va_up_ne _ _ (by omega)]; exact f3 j j1⟩
                  · have lp135 : ∀ (n9 : Nat) (b8 : Int) (t8 : Int) (a7 : Int) (g1 : Nat → va_E), (en - b8).toNat = n9 → (g1 2 = rdC ad (pl) (co) (en) (t8) (a7) (b8) (tk) (td)) → (∀ j, j ≠ 2 → g1 j = g j) → (0 ≤ a7 ∧ a7 ≤ b8 ∧ b8 ≤ en) → (0 ≤ t8 ∧ t8 ≤ 5) → zV p l e ({ frames := 2, cells := 0, slots := 0, locals := 120 } : Room) s m ([.ref (ad 2)] : List Value).toArray below meth c (MQ below (zPost D A (rV0 N ad fun g' => okRun cs ad g' co tp ∧ ∀ j, j ≠ 2 → g' j = g j)) ([.ref (ad 2)] : List Value).toArray s ({ frames := 2, cells := 0, slots := 0, locals := 120 } : Room).cells ({ frames := 2, cells := 0, slots := 0, locals := 120 } : Room).slots A) D A 1 (N) ad g1 (0) (0) 135 [(0, .ref (ad 2))] [] := by
                      intro n9
                      induction n9 using Nat.strongRecOn with
                      | ind n9 ih_lp135 =>
                        intro b8 t8 a7 g1 hm9 f1 f3 hy135_0 hy135_1
                        have hay142 : zAt ad (2) (ad 2) := rfl
                        have hay143 : zAt ad (1) (ad 1) := rfl
                        refine z_aload_n C 0 dX7_peek_135 rfl ?_
                        refine z_get (v := .int (zI (b8))) C (lt_K hN (rfl : Nat.blt (2) 952 = true)) hay142 f1 rfl inA_X7 6 (by decide) q_50 rfl rfl dX7_peek_136 ?_
                        refine z_aload_n C 0 dX7_peek_139 rfl ?_
                        refine z_get (v := .int (zI (en))) C (lt_K hN (rfl : Nat.blt (2) 952 = true)) hay142 f1 rfl inA_X7 3 (by decide) q_47 rfl rfl dX7_peek_140 ?_
                        refine z_icmp_ge (tgt := 178) C dX7_peek_143 (by decide) (by omega) (by omega) (fun hby144 => ?_) (fun hby144 => ?_)
                        · exact z_vret C hr hlk dX7_peek_178 (by decide) (by decide) ⟨rfl, rfl, rfl, ⟨_, _, _, _, _, _, _, by omega, by omega, f1, ((f3 _ (by omega)).trans hg1)⟩, fun j j1 => by exact f3 j j1⟩
                        · refine z_aload_n C 0 dX7_peek_146 rfl ?_
                          refine z_get (v := .ref (ad 1)) C (lt_K hN (rfl : Nat.blt (2) 952 = true)) hay142 f1 rfl inA_X7 2 (by decide) q_46 rfl rfl dX7_peek_147 ?_
                          refine z_aload_n C 0 dX7_peek_150 rfl ?_
                          refine z_get (v := .int (zI (b8))) C (lt_K hN (rfl : Nat.blt (2) 952 = true)) hay142 f1 rfl inA_X7 6 (by decide) q_50 rfl rfl dX7_peek_151 ?_
                          refine z_bald C (lt_K hN (rfl : Nat.blt (1) 952 = true)) hay143 ((f3 _ (by omega)).trans hg1) ((b8).toNat) (by omega) (by omega) (by decide) dX7_peek_154 ?_
                          obtain ⟨xy145, exy146, hxy147⟩ := zI_of (zI (tp ((b8).toNat)))
                          rw [exy146]
                          refine z_cS (As := [.int (zI (xy145))]) (rest := []) C (c_X7_typeOf l D A cs tt N ad _ (xy145) (by omega)) ms_yX7_typeOf q_746 hd_yX7_typeOf (by decide) (Nat.le_of_ble_eq_true rfl) (by decide) dX7_peek_155 rfl (kI0 fun vy148 gvy148 hvy148 => ?_)
                          obtain ⟨hvy148, rfl⟩ := hvy148
                          refine z_aload_n C 0 dX7_peek_158 rfl ?_
                          refine z_get (v := .int (zI (t8))) C (lt_K hN (rfl : Nat.blt (2) 952 = true)) hay142 f1 rfl inA_X7 4 (by decide) q_48 rfl rfl dX7_peek_159 ?_
                          refine z_icmp_ne (tgt := 178) C dX7_peek_162 (by decide) (by omega) (by omega) (fun hby149 => ?_) (fun hby149 => ?_)
                          · exact z_vret C hr hlk dX7_peek_178 (by decide) (by decide) ⟨rfl, rfl, rfl, ⟨_, _, _, _, _, _, _, by omega, by omega, f1, ((f3 _ (by omega)).trans hg1)⟩, fun j j1 => by exact f3 j j1⟩
                          · refine z_aload_n C 0 dX7_peek_165 rfl ?_
                            refine z_dup C dX7_peek_166 rfl ?_
                            refine z_get (v := .int (zI (b8))) C (lt_K hN (rfl : Nat.blt (2) 952 = true)) hay142 f1 rfl inA_X7 6 (by decide) q_50 rfl rfl dX7_peek_167 ?_
                            refine z_iconst (z := 1) C dX7_peek_170 rfl ?_
                            refine z_iadd C dX7_peek_171 ?_
                            refine z_put (fs' := [.int (zI (pl)), .int (zI (co)), .ref (ad 1), .int (zI (en)), .int (zI (t8)), .int (zI (a7)), .int (zI (b8 + 1)), .int (zI (tk)), .int (zI (td))]) C (lt_K hN (rfl : Nat.blt (2) 952 = true)) hay142 f1 tyX7 tyX7_ok nmX7 rfl inA_X7 6 (by decide) q_50 rfl rfl rfl rfl (Nat.le_of_ble_eq_true rfl) rfl dX7_peek_172 (fun gy150 egy151 => ?_)
                            have hgy152 := up_s egy151
                            refine z_goto (tgt := 135) C dX7_peek_175 (by decide) ?_
                            refine z_lv (lv' := [(0, .ref (ad 2))]) [0] rfl ?_
                            exact ih_lp135 _ (by omega) (b8 + 1) (t8) (a7) gy150 rfl hgy152 (fun j j1 => by rw [egy151, va_up_ne _ _ (by omega)]; exact f3 j j1) (by omega) (by omega)
                    refine z_lv (lv' := [(0, .ref (ad 2))]) [0] rfl ?_
                    exact lp135 _ (en) (vy119) (a8) gy124 rfl hgy126 (fun j j1 => by rw [egy125, va_up_ne _ _ (by omega)]; rw [egy121, va_up_ne _ _ (by omega)]; exact f3 j j1) (by omega) (by omega)
              · refine z_aload_n C 0 dX7_peek_103 rfl ?_
                refine z_get (v := .int (zI (a8))) C (lt_K hN (rfl : Nat.blt (2) 952 = true)) hay6 hgy122 rfl inA_X7 5 (by decide) q_49 rfl rfl dX7_peek_104 ?_
                refine z_iconst (z := 1) C dX7_peek_107 rfl ?_
                refine z_iadd C dX7_peek_108 ?_
                refine z_goto (tgt := 116) C dX7_peek_109 (by decide) ?_
                refine z_put (fs' := [.int (zI (pl)), .int (zI (co)), .ref (ad 1), .int (zI (en)), .int (zI (vy119)), .int (zI (a8)), .int (zI (a8 + 1)), .int (zI (tk)), .int (zI (td))]) C (lt_K hN (rfl : Nat.blt (2) 952 = true)) hay6 hgy122 tyX7 tyX7_ok nmX7 rfl inA_X7 6 (by decide) q_50 rfl rfl rfl rfl (Nat.le_of_ble_eq_true rfl) rfl dX7_peek_116 (fun gy153 egy154 => ?_)
                have hgy155 := up_s egy154
                refine z_aload_n C 0 dX7_peek_119 rfl ?_
                refine z_get (v := .int (zI (vy119))) C (lt_K hN (rfl : Nat.blt (2) 952 = true)) hay6 hgy155 rfl inA_X7 4 (by decide) q_48 rfl rfl dX7_peek_120 ?_
                refine z_iconst (z := 1) C dX7_peek_123 rfl ?_
                refine z_icmp_eq (tgt := 135) C dX7_peek_124 (by decide) (by omega) (by omega) (fun hby156 => ?_) (fun hby156 => ?_)
                · have lp135 : ∀ (n9 : Nat) (b8 : Int) (t8 : Int) (a7 : Int) (g1 : Nat → va_E), (en - b8).toNat = n9 → (g1 2 = rdC ad (pl) (co) (en) (t8) (a7) (b8) (tk) (td)) → (∀ j, j ≠ 2 → g1 j = g j) → (0 ≤ a7 ∧ a7 ≤ b8 ∧ b8 ≤ en) → (0 ≤ t8 ∧ t8 ≤ 5) → zV p l e ({ frames := 2, cells := 0, slots := 0, locals := 120 } : Room) s m ([.ref (ad 2)] : List Value).toArray below meth c (MQ below (zPost D A (rV0 N ad fun g' => okRun cs ad g' co tp ∧ ∀ j, j ≠ 2 → g' j = g j)) ([.ref (ad 2)] : List Value).toArray s ({ frames := 2, cells := 0, slots := 0, locals := 120 } : Room).cells ({ frames := 2, cells := 0, slots := 0, locals := 120 } : Room).slots A) D A 1 (N) ad g1 (0) (0) 135 [(0, .ref (ad 2))] [] := by
                    intro n9
                    induction n9 using Nat.strongRecOn with
                    | ind n9 ih_lp135 =>
                      intro b8 t8 a7 g1 hm9 f1 f3 hy135_0 hy135_1
                      have hay157 : zAt ad (2) (ad 2) := rfl
                      have hay158 : zAt ad (1) (ad 1) := rfl
                      refine z_aload_n C 0 dX7_peek_135 rfl ?_
                      refine z_get (v := .int (zI (b8))) C (lt_K hN (rfl : Nat.blt (2) 952 = true)) hay157 f1 rfl inA_X7 6 (by decide) q_50 rfl rfl dX7_peek_136 ?_
                      refine z_aload_n C 0 dX7_peek_139 rfl ?_
                      refine z_get (v := .int (zI (en))) C (lt_K hN (rfl : Nat.blt (2) 952 = true)) hay157 f1 rfl inA_X7 3 (by decide) q_47 rfl rfl dX7_peek_140 ?_
                      refine z_icmp_ge (tgt := 178) C dX7_peek_143 (by decide) (by omega) (by omega) (fun hby159 => ?_) (fun hby159 => ?_)
                      · exact z_vret C hr hlk dX7_peek_178 (by decide) (by decide) ⟨rfl, rfl, rfl, ⟨_, _, _, _, _, _, _, by omega, by omega, f1, ((f3 _ (by omega)).trans hg1)⟩, fun j j1 => by exact f3 j j1⟩
                      · refine z_aload_n C 0 dX7_peek_146 rfl ?_
                        refine z_get (v := .ref (ad 1)) C (lt_K hN (rfl : Nat.blt (2) 952 = true)) hay157 f1 rfl inA_X7 2 (by decide) q_46 rfl rfl dX7_peek_147 ?_
                        refine z_aload_n C 0 dX7_peek_150 rfl ?_
                        refine z_get (v := .int (zI (b8))) C (lt_K hN (rfl : Nat.blt (2) 952 = true)) hay157 f1 rfl inA_X7 6 (by decide) q_50 rfl rfl dX7_peek_151 ?_
                        refine z_bald C (lt_K hN (rfl : Nat.blt (1) 952 = true)) hay158 ((f3 _ (by omega)).trans hg1) ((b8).toNat) (by omega) (by omega) (by decide) dX7_peek_154 ?_
                        obtain ⟨xy160, exy161, hxy162⟩ := zI_of (zI (tp ((b8).toNat)))
                        rw [exy161]
                        refine z_cS (As := [.int (zI (xy160))]) (rest := []) C (c_X7_typeOf l D A cs tt N ad _ (xy160) (by omega)) ms_yX7_typeOf q_746 hd_yX7_typeOf (by decide) (Nat.le_of_ble_eq_true rfl) (by decide) dX7_peek_155 rfl (kI0 fun vy163 gvy163 hvy163 => ?_)
                        obtain ⟨hvy163, rfl⟩ := hvy163
                        refine z_aload_n C 0 dX7_peek_158 rfl ?_
                        refine z_get (v := .int (zI (t8))) C (lt_K hN (rfl : Nat.blt (2) 952 = true)) hay157 f1 rfl inA_X7 4 (by decide) q_48 rfl rfl dX7_peek_159 ?_
                        refine z_icmp_ne (tgt := 178) C dX7_peek_162 (by decide) (by omega) (by omega) (fun hby164 => ?_) (fun hby164 => ?_)
                        · exact z_vret C hr hlk dX7_peek_178 (by decide) (by decide) ⟨rfl, rfl, rfl, ⟨_, _, _, _, _, _, _, by omega, by omega, f1, ((f3 _ (by omega)).trans hg1)⟩, fun j j1 => by exact f3 j j1⟩
                        · refine z_aload_n C 0 dX7_peek_165 rfl ?_
                          refine z_dup C dX7_peek_166 rfl ?_
                          refine z_get (v := .int (zI (b8))) C (lt_K hN (rfl : Nat.blt (2) 952 = true)) hay157 f1 rfl inA_X7 6 (by decide) q_50 rfl rfl dX7_peek_167 ?_
                          refine z_iconst (z := 1) C dX7_peek_170 rfl ?_
                          refine z_iadd C dX7_peek_171 ?_
                          refine z_put (fs' := [.int (zI (pl)), .int (zI (co)), .ref (ad 1), .int (zI (en)), .int (zI (t8)), .int (zI (a7)), .int (zI (b8 + 1)), .int (zI (tk)), .int (zI (td))]) C (lt_K hN (rfl : Nat.blt (2) 952 = true)) hay157 f1 tyX7 tyX7_ok nmX7 rfl inA_X7 6 (by decide) q_50 rfl rfl rfl rfl (Nat.le_of_ble_eq_true rfl) rfl dX7_peek_172 (fun gy165 egy166 => ?_)
                          have hgy167 := up_s egy166
                          refine z_goto (tgt := 135) C dX7_peek_175 (by decide) ?_
                          refine z_lv (lv' := [(0, .ref (ad 2))]) [0] rfl ?_
                          exact ih_lp135 _ (by omega) (b8 + 1) (t8) (a7) gy165 rfl hgy167 (fun j j1 => by rw [egy166, va_up_ne _ _ (by omega)]; exact f3 j j1) (by omega) (by omega)
                  refine z_lv (lv' := [(0, .ref (ad 2))]) [0] rfl ?_
                  exact lp135 _ (a8 + 1) (vy119) (a8) gy153 rfl hgy155 (fun j j1 => by rw [egy154, va_up_ne _ _ (by omega)]; rw [egy121, va_up_ne _ _ (by omega)]; exact f3 j j1) (by omega) (by omega)
                · refine z_aload_n C 0 dX7_peek_127 rfl ?_
                  refine z_get (v := .int (zI (vy119))) C (lt_K hN (rfl : Nat.blt (2) 952 = true)) hay6 hgy155 rfl inA_X7 4 (by decide) q_48 rfl rfl dX7_peek_128 ?_
                  refine z_iconst (z := 2) C dX7_peek_131 rfl ?_
                  refine z_icmp_ne (tgt := 178) C dX7_peek_132 (by decide) (by omega) (by omega) (fun hby168 => ?_) (fun hby168 => ?_)
                  · have hgy169 := up_n egy121 ((f3 _ (by omega)).trans hg1) (by decide)
                    have hgy170 := up_n egy154 hgy169 (by decide)
                    exact z_vret C hr hlk dX7_peek_178 (by decide) (by decide) ⟨rfl, rfl, rfl, ⟨_, _, _, _, _, _, _, by omega, by omega, hgy155, hgy170⟩, fun j j1 => by rw [egy154, va_up_ne _ _ (by omega)]; rw [egy121, va_up_ne _ _ (by omega)]; exact f3 j j1⟩
                  · have lp135 : ∀ (n9 : Nat) (b8 : Int) (t8 : Int) (a7 : Int) (g1 : Nat → va_E), (en - b8).toNat = n9 → (g1 2 = rdC ad (pl) (co) (en) (t8) (a7) (b8) (tk) (td)) → (∀ j, j ≠ 2 → g1 j = g j) → (0 ≤ a7 ∧ a7 ≤ b8 ∧ b8 ≤ en) → (0 ≤ t8 ∧ t8 ≤ 5) → zV p l e ({ frames := 2, cells := 0, slots := 0, locals := 120 } : Room) s m ([.ref (ad 2)] : List Value).toArray below meth c (MQ below (zPost D A (rV0 N ad fun g' => okRun cs ad g' co tp ∧ ∀ j, j ≠ 2 → g' j = g j)) ([.ref (ad 2)] : List Value).toArray s ({ frames := 2, cells := 0, slots := 0, locals := 120 } : Room).cells ({ frames := 2, cells := 0, slots := 0, locals := 120 } : Room).slots A) D A 1 (N) ad g1 (0) (0) 135 [(0, .ref (ad 2))] [] := by
                      intro n9
                      induction n9 using Nat.strongRecOn with
                      | ind n9 ih_lp135 =>
                        intro b8 t8 a7 g1 hm9 f1 f3 hy135_0 hy135_1
                        have hay171 : zAt ad (2) (ad 2) := rfl
                        have hay172 : zAt ad (1) (ad 1) := rfl
                        refine z_aload_n C 0 dX7_peek_135 rfl ?_
                        refine z_get (v := .int (zI (b8))) C (lt_K hN (rfl : Nat.blt (2) 952 = true)) hay171 f1 rfl inA_X7 6 (by decide) q_50 rfl rfl dX7_peek_136 ?_
                        refine z_aload_n C 0 dX7_peek_139 rfl ?_
                        refine z_get (v := .int (zI (en))) C (lt_K hN (rfl : Nat.blt (2) 952 = true)) hay171 f1 rfl inA_X7 3 (by decide) q_47 rfl rfl dX7_peek_140 ?_
                        refine z_icmp_ge (tgt := 178) C dX7_peek_143 (by decide) (by omega) (by omega) (fun hby173 => ?_) (fun hby173 => ?_)
                        · exact z_vret C hr hlk dX7_peek_178 (by decide) (by decide) ⟨rfl, rfl, rfl, ⟨_, _, _, _, _, _, _, by omega, by omega, f1, ((f3 _ (by omega)).trans hg1)⟩, fun j j1 => by exact f3 j j1⟩
                        · refine z_aload_n C 0 dX7_peek_146 rfl ?_
                          refine z_get (v := .ref (ad 1)) C (lt_K hN (rfl : Nat.blt (2) 952 = true)) hay171 f1 rfl inA_X7 2 (by decide) q_46 rfl rfl dX7_peek_147 ?_
                          refine z_aload_n C 0 dX7_peek_150 rfl ?_
                          refine z_get (v := .int (zI (b8))) C (lt_K hN (rfl : Nat.blt (2) 952 = true)) hay171 f1 rfl inA_X7 6 (by decide) q_50 rfl rfl dX7_peek_151 ?_
                          refine z_bald C (lt_K hN (rfl : Nat.blt (1) 952 = true)) hay172 ((f3 _ (by omega)).trans hg1) ((b8).toNat) (by omega) (by omega) (by decide) dX7_peek_154 ?_
                          obtain ⟨xy174, exy175, hxy176⟩ := zI_of (zI (tp ((b8).toNat)))
                          rw [exy175]
                          refine z_cS (As := [.int (zI (xy174))]) (rest := []) C (c_X7_typeOf l D A cs tt N ad _ (xy174) (by omega)) ms_yX7_typeOf q_746 hd_yX7_typeOf (by decide) (Nat.le_of_ble_eq_true rfl) (by decide) dX7_peek_155 rfl (kI0 fun vy177 gvy177 hvy177 => ?_)
                          obtain ⟨hvy177, rfl⟩ := hvy177
                          refine z_aload_n C 0 dX7_peek_158 rfl ?_
                          refine z_get (v := .int (zI (t8))) C (lt_K hN (rfl : Nat.blt (2) 952 = true)) hay171 f1 rfl inA_X7 4 (by decide) q_48 rfl rfl dX7_peek_159 ?_
                          refine z_icmp_ne (tgt := 178) C dX7_peek_162 (by decide) (by omega) (by omega) (fun hby178 => ?_) (fun hby178 => ?_)
                          · exact z_vret C hr hlk dX7_peek_178 (by decide) (by decide) ⟨rfl, rfl, rfl, ⟨_, _, _, _, _, _, _, by omega, by omega, f1, ((f3 _ (by omega)).trans hg1)⟩, fun j j1 => by exact f3 j j1⟩
                          · refine z_aload_n C 0 dX7_peek_165 rfl ?_
                            refine z_dup C dX7_peek_166 rfl ?_
                            refine z_get (v := .int (zI (b8))) C (lt_K hN (rfl : Nat.blt (2) 952 = true)) hay171 f1 rfl inA_X7 6 (by decide) q_50 rfl rfl dX7_peek_167 ?_
                            refine z_iconst (z := 1) C dX7_peek_170 rfl ?_
                            refine z_iadd C dX7_peek_171 ?_
                            refine z_put (fs' := [.int (zI (pl)), .int (zI (co)), .ref (ad 1), .int (zI (en)), .int (zI (t8)), .int (zI (a7)), .int (zI (b8 + 1)), .int (zI (tk)), .int (zI (td))]) C (lt_K hN (rfl : Nat.blt (2) 952 = true)) hay171 f1 tyX7 tyX7_ok nmX7 rfl inA_X7 6 (by decide) q_50 rfl rfl rfl rfl (Nat.le_of_ble_eq_true rfl) rfl dX7_peek_172 (fun gy179 egy180 => ?_)
                            have hgy181 := up_s egy180
                            refine z_goto (tgt := 135) C dX7_peek_175 (by decide) ?_
                            refine z_lv (lv' := [(0, .ref (ad 2))]) [0] rfl ?_
                            exact ih_lp135 _ (by omega) (b8 + 1) (t8) (a7) gy179 rfl hgy181 (fun j j1 => by rw [egy180, va_up_ne _ _ (by omega)]; exact f3 j j1) (by omega) (by omega)
                    refine z_lv (lv' := [(0, .ref (ad 2))]) [0] rfl ?_
                    exact lp135 _ (a8 + 1) (vy119) (a8) gy153 rfl hgy155 (fun j j1 => by rw [egy154, va_up_ne _ _ (by omega)]; rw [egy121, va_up_ne _ _ (by omega)]; exact f3 j j1) (by omega) (by omega)
          · refine z_aload_n C 0 dX7_peek_47 rfl ?_
            refine z_dup C dX7_peek_48 rfl ?_
            refine z_get (v := .int (zI (a8))) C (lt_K hN (rfl : Nat.blt (2) 952 = true)) hay6 f1 rfl inA_X7 5 (by decide) q_49 rfl rfl dX7_peek_49 ?_
            refine z_iconst (z := 1) C dX7_peek_52 rfl ?_
            refine z_iadd C dX7_peek_53 ?_
            refine z_put (fs' := [.int (zI (pl)), .int (zI (co)), .ref (ad 1), .int (zI (en)), .int (zI (ty)), .int (zI (a8 + 1)), .int (zI (be)), .int (zI (tk)), .int (zI (td))]) C (lt_K hN (rfl : Nat.blt (2) 952 = true)) hay6 f1 tyX7 tyX7_ok nmX7 rfl inA_X7 5 (by decide) q_49 rfl rfl rfl rfl (Nat.le_of_ble_eq_true rfl) rfl dX7_peek_54 (fun gy182 egy183 => ?_)
            have hgy184 := up_s egy183
            refine z_goto (tgt := 8) C dX7_peek_57 (by decide) ?_
            refine z_lv (lv' := [(0, .ref (ad 2))]) [0] rfl ?_
            exact ih_lp8 _ (by omega) (a8 + 1) gy182 rfl hgy184 (fun j j1 => by rw [egy183, va_up_ne _ _ (by omega)]; exact f3 j j1) (by omega)
  refine z_lv (lv' := [(0, .ref (ad 2))]) [0] rfl ?_
  exact lp8 _ (be) gy3 rfl hgy5 (fun j j1 => by rw [egy4, va_up_ne _ _ (by omega)]) (by omega)

set_option maxRecDepth 100000 in
set_option maxHeartbeats 4000000 in
theorem c_X7_take (l : Launch) (D : va_G) (A : Nat → Prop) (cs : Nat → ClassId) (tt : Nat) (N : Nat) (ad : Nat → Nat) (g : Nat → va_E) (hN : 952 ≤ N) (co : Int) (tp : Nat → Int) (hR : okRun cs ad g co tp) : zM l yX7_take cX7_take 1 none ({ frames := 3, cells := 0, slots := 0, locals := 180 } : Room) D A cs tt N ad g [.ref (ad 2)] (rV0 N ad fun g' => okRun cs ad g' co tp ∧ ∀ j, j ≠ 2 → g' j = g j) := by
  obtain ⟨pldy1, endy1, tydy1, a9dy1, bedy1, tkdy1, tddy1, hAdy1, hTdy1, hcdy1, hddy1⟩ := id hR
  have hay2 : zAt ad (2) (ad 2) := rfl
  have hay3 : zAt ad (1) (ad 1) := rfl
  refine z_of (by decide) (Nat.le_of_ble_eq_true rfl) ?_
  intro p e s m below meth c C hr hlk hnm
  refine z_lv (lv' := [(0, .ref (ad 2))]) [0] rfl ?_
  refine z_aload_n C 0 dX7_take_0 rfl ?_
  refine z_get (v := .int (zI (co))) C (lt_K hN (rfl : Nat.blt (2) 952 = true)) hay2 hcdy1 rfl inA_X7 1 (by decide) q_45 rfl rfl dX7_take_1 ?_
  refine z_if_ne (tgt := 19) C dX7_take_4 (by decide) (by omega) (fun hby4 => ?_) (fun hby4 => ?_)
  · exact z_vret C hr hlk dX7_take_19 (by decide) (by decide) ⟨rfl, rfl, rfl, ⟨_, _, _, _, _, _, _, by omega, by omega, hcdy1, hddy1⟩, fun j j1 => by rfl⟩
  · refine z_aload_n C 0 dX7_take_7 rfl ?_
    refine z_aload_n C 0 dX7_take_8 rfl ?_
    refine z_get (v := .int (zI (a9dy1))) C (lt_K hN (rfl : Nat.blt (2) 952 = true)) hay2 hcdy1 rfl inA_X7 5 (by decide) q_49 rfl rfl dX7_take_9 ?_
    refine z_put (fs' := [.int (zI (pldy1)), .int (zI (co)), .ref (ad 1), .int (zI (endy1)), .int (zI (tydy1)), .int (zI (a9dy1)), .int (zI (bedy1)), .int (zI (a9dy1)), .int (zI (tddy1))]) C (lt_K hN (rfl : Nat.blt (2) 952 = true)) hay2 hcdy1 tyX7 tyX7_ok nmX7 rfl inA_X7 7 (by decide) q_51 rfl rfl rfl rfl (Nat.le_of_ble_eq_true rfl) rfl dX7_take_12 (fun gy5 egy6 => ?_)
    have hgy7 := up_s egy6
    refine z_aload_n C 0 dX7_take_15 rfl ?_
    have hgy8 := up_n egy6 hddy1 (by decide)
    refine z_cV (As := []) (rest := []) (ci := 9) C (c_X7_peek l D A cs tt N ad _ (by omega) _ _ _ _ _ _ _ _ tp (by omega) hgy7 hgy8) (lt_K hN (rfl : Nat.blt (2) 952 = true)) hay2 hgy7 rfl rfl mv_yX7_peek q_742 hd_yX7_peek (by decide) (Nat.le_of_ble_eq_true rfl) (by decide) dX7_take_16 rfl (kV0 fun gvy9 hvy9 => ?_)
    obtain ⟨hkvy9, hfvy9⟩ := hvy9
    obtain ⟨pldy10, endy10, tydy10, a9dy10, bedy10, tkdy10, tddy10, hAdy10, hTdy10, hcdy10, hddy10⟩ := id hkvy9
    exact z_vret C hr hlk dX7_take_19 (by decide) (by decide) ⟨rfl, rfl, rfl, ⟨_, _, _, _, _, _, _, by omega, by omega, hcdy10, hddy10⟩, fun j j1 => by rw [hfvy9 _ (by omega)]; rw [egy6, va_up_ne _ _ (by omega)]⟩

set_option maxRecDepth 100000 in
set_option maxHeartbeats 4000000 in
theorem c_X7_fail (l : Launch) (D : va_G) (A : Nat → Prop) (cs : Nat → ClassId) (tt : Nat) (N : Nat) (ad : Nat → Nat) (g : Nat → va_E) (hN : 952 ≤ N) (co : Int) (tp : Nat → Int) (hR : okRun cs ad g co tp) (z : Int) (hz : 1 ≤ z ∧ z ≤ 5) (z1 : Int) (hz1 : -2147483648 ≤ z1 ∧ z1 ≤ 2147483647) : zM l yX7_fail cX7_fail 3 none ({ frames := 1, cells := 0, slots := 0, locals := 60 } : Room) D A cs tt N ad g [.ref (ad 2), .int (zI (z)), .int (zI (z1))] (rV0 N ad fun g' => (∃ co' : Int, okRun cs ad g' co' tp ∧ 1 ≤ co' ∧ co ≤ co') ∧ ∀ j, j ≠ 2 → g' j = g j) := by
  obtain ⟨pldy1, endy1, tydy1, a9dy1, bedy1, tkdy1, tddy1, hAdy1, hTdy1, hcdy1, hddy1⟩ := id hR
  have hay2 : zAt ad (2) (ad 2) := rfl
  have hay3 : zAt ad (1) (ad 1) := rfl
  refine z_of (by decide) (Nat.le_of_ble_eq_true rfl) ?_
  intro p e s m below meth c C hr hlk hnm
  refine z_lv (lv' := [(0, .ref (ad 2)), (1, .int (zI (z))), (2, .int (zI (z1)))]) [0, 1, 2] rfl ?_
  refine z_aload_n C 0 dX7_fail_0 rfl ?_
  refine z_get (v := .int (zI (co))) C (lt_K hN (rfl : Nat.blt (2) 952 = true)) hay2 hcdy1 rfl inA_X7 1 (by decide) q_45 rfl rfl dX7_fail_1 ?_
  refine z_if_ne (tgt := 17) C dX7_fail_4 (by decide) (by omega) (fun hby4 => ?_) (fun hby4 => ?_)
  · have hruny5 : okRun cs ad g (co) tp := ⟨_, _, _, _, _, _, _, by omega, by omega, hcdy1, hddy1⟩
    exact z_vret C hr hlk dX7_fail_17 (by decide) (by decide) ⟨rfl, rfl, rfl, ⟨_, hruny5, by omega, by omega⟩, fun j j1 => by rfl⟩
  · refine z_aload_n C 0 dX7_fail_7 rfl ?_
    refine z_iload_n C 1 dX7_fail_8 rfl ?_
    refine z_put (fs' := [.int (zI (pldy1)), .int (zI (z)), .ref (ad 1), .int (zI (endy1)), .int (zI (tydy1)), .int (zI (a9dy1)), .int (zI (bedy1)), .int (zI (tkdy1)), .int (zI (tddy1))]) C (lt_K hN (rfl : Nat.blt (2) 952 = true)) hay2 hcdy1 tyX7 tyX7_ok nmX7 rfl inA_X7 1 (by decide) q_45 rfl rfl rfl rfl (Nat.le_of_ble_eq_true rfl) rfl dX7_fail_9 (fun gy6 egy7 => ?_)
    have hgy8 := up_s egy7
    refine z_aload_n C 0 dX7_fail_12 rfl ?_
    refine z_iload_n C 2 dX7_fail_13 rfl ?_
    refine z_put (fs' := [.int (zI (z1)), .int (zI (z)), .ref (ad 1), .int (zI (endy1)), .int (zI (tydy1)), .int (zI (a9dy1)), .int (zI (bedy1)), .int (zI (tkdy1)), .int (zI (tddy1))]) C (lt_K hN (rfl : Nat.blt (2) 952 = true)) hay2 hgy8 tyX7 tyX7_ok nmX7 rfl inA_X7 0 (by decide) q_43 rfl rfl rfl rfl (Nat.le_of_ble_eq_true rfl) rfl dX7_fail_14 (fun gy9 egy10 => ?_)
    have hgy11 := up_s egy10
    have hgy13 := up_n egy7 hddy1 (by decide)
    have hgy14 := up_n egy10 hgy13 (by decide)
    have hruny12 : okRun cs ad gy9 (z) tp := ⟨_, _, _, _, _, _, _, by omega, by omega, hgy11, hgy14⟩
    exact z_vret C hr hlk dX7_fail_17 (by decide) (by decide) ⟨rfl, rfl, rfl, ⟨_, hruny12, by omega, by omega⟩, fun j j1 => by rw [egy10, va_up_ne _ _ (by omega)]; rw [egy7, va_up_ne _ _ (by omega)]⟩

set_option maxRecDepth 100000 in
set_option maxHeartbeats 4000000 in
theorem c_X7_close (l : Launch) (D : va_G) (A : Nat → Prop) (cs : Nat → ClassId) (tt : Nat) (N : Nat) (ad : Nat → Nat) (g : Nat → va_E) (hN : 952 ≤ N) (co : Int) (tp : Nat → Int) (hR : okRun cs ad g co tp) : zM l yX7_close cX7_close 1 none ({ frames := 4, cells := 0, slots := 0, locals := 240 } : Room) D A cs tt N ad g [.ref (ad 2)] (rV0 N ad fun g' => (∃ co' : Int, okRun cs ad g' co' tp ∧ co ≤ co') ∧ ∀ j, j ≠ 2 → g' j = g j) := by
  obtain ⟨pldy1, endy1, tydy1, a9dy1, bedy1, tkdy1, tddy1, hAdy1, hTdy1, hcdy1, hddy1⟩ := id hR
  have hay2 : zAt ad (2) (ad 2) := rfl
  have hay3 : zAt ad (1) (ad 1) := rfl
  refine z_of (by decide) (Nat.le_of_ble_eq_true rfl) ?_
  intro p e s m below meth c C hr hlk hnm
  refine z_lv (lv' := [(0, .ref (ad 2))]) [0] rfl ?_
  refine z_aload_n C 0 dX7_close_0 rfl ?_
  refine z_get (v := .int (zI (tydy1))) C (lt_K hN (rfl : Nat.blt (2) 952 = true)) hay2 hcdy1 rfl inA_X7 4 (by decide) q_48 rfl rfl dX7_close_1 ?_
  refine z_iconst (z := 3) C dX7_close_4 rfl ?_
  refine z_icmp_eq (tgt := 17) C dX7_close_5 (by decide) (by omega) (by omega) (fun hby4 => ?_) (fun hby4 => ?_)
  · refine z_aload_n C 0 dX7_close_17 rfl ?_
    have hruny5 : okRun cs ad g (co) tp := ⟨_, _, _, _, _, _, _, by omega, by omega, hcdy1, hddy1⟩
    refine z_cV (As := []) (rest := []) (ci := 9) C (c_X7_take l D A cs tt N ad _ (by omega) _ tp hruny5) (lt_K hN (rfl : Nat.blt (2) 952 = true)) hay2 hcdy1 rfl rfl mv_yX7_take q_813 hd_yX7_take (by decide) (Nat.le_of_ble_eq_true rfl) (by decide) dX7_close_18 rfl (kV0 fun gvy6 hvy6 => ?_)
    obtain ⟨hkvy6, hfvy6⟩ := hvy6
    obtain ⟨pldy7, endy7, tydy7, a9dy7, bedy7, tkdy7, tddy7, hAdy7, hTdy7, hcdy7, hddy7⟩ := id hkvy6
    have hruny8 : okRun cs ad gvy6 (co) tp := ⟨_, _, _, _, _, _, _, by omega, by omega, hcdy7, hddy7⟩
    exact z_vret C hr hlk dX7_close_21 (by decide) (by decide) ⟨rfl, rfl, rfl, ⟨_, hruny8, by omega⟩, fun j j1 => by rw [hfvy6 _ (by omega)]⟩
  · refine z_aload_n C 0 dX7_close_8 rfl ?_
    refine z_iconst (z := 1) C dX7_close_9 rfl ?_
    refine z_aload_n C 0 dX7_close_10 rfl ?_
    refine z_get (v := .int (zI (a9dy1))) C (lt_K hN (rfl : Nat.blt (2) 952 = true)) hay2 hcdy1 rfl inA_X7 5 (by decide) q_49 rfl rfl dX7_close_11 ?_
    have hruny9 : okRun cs ad g (co) tp := ⟨_, _, _, _, _, _, _, by omega, by omega, hcdy1, hddy1⟩
    refine z_cV (As := [.int (zI (1)), .int (zI (a9dy1))]) (rest := []) (ci := 9) C (c_X7_fail l D A cs tt N ad _ (by omega) _ tp hruny9 (1) (by omega) (a9dy1) (by omega)) (lt_K hN (rfl : Nat.blt (2) 952 = true)) hay2 hcdy1 rfl rfl mv_yX7_fail q_809 hd_yX7_fail (by decide) (Nat.le_of_ble_eq_true rfl) (by decide) dX7_close_14 rfl (kV0 fun gvy10 hvy10 => ?_)
    obtain ⟨⟨covy10, hkvy10, hnvy10⟩, hfvy10⟩ := hvy10
    obtain ⟨pldy11, endy11, tydy11, a9dy11, bedy11, tkdy11, tddy11, hAdy11, hTdy11, hcdy11, hddy11⟩ := id hkvy10
    refine z_aload_n C 0 dX7_close_17 rfl ?_
    have hruny12 : okRun cs ad gvy10 (covy10) tp := ⟨_, _, _, _, _, _, _, by omega, by omega, hcdy11, hddy11⟩
    refine z_cV (As := []) (rest := []) (ci := 9) C (c_X7_take l D A cs tt N ad _ (by omega) _ tp hruny12) (lt_K hN (rfl : Nat.blt (2) 952 = true)) hay2 hcdy11 rfl rfl mv_yX7_take q_813 hd_yX7_take (by decide) (Nat.le_of_ble_eq_true rfl) (by decide) dX7_close_18 rfl (kV0 fun gvy13 hvy13 => ?_)
    obtain ⟨hkvy13, hfvy13⟩ := hvy13
    obtain ⟨pldy14, endy14, tydy14, a9dy14, bedy14, tkdy14, tddy14, hAdy14, hTdy14, hcdy14, hddy14⟩ := id hkvy13
    have hruny15 : okRun cs ad gvy13 (covy10) tp := ⟨_, _, _, _, _, _, _, by omega, by omega, hcdy14, hddy14⟩
    exact z_vret C hr hlk dX7_close_21 (by decide) (by decide) ⟨rfl, rfl, rfl, ⟨_, hruny15, by omega⟩, fun j j1 => by rw [hfvy13 _ (by omega)]; rw [hfvy10 _ (by omega)]⟩

set_option maxRecDepth 100000 in
set_option maxHeartbeats 4000000 in
theorem c_X7_is (l : Launch) (D : va_G) (A : Nat → Prop) (cs : Nat → ClassId) (tt : Nat) (N : Nat) (ad : Nat → Nat) (g : Nat → va_E) (hN : 952 ≤ N) (co : Int) (tp : Nat → Int) (hR : okRun cs ad g co tp) (q : String × Nat × String × Nat × List Int32) (hq : q ∈ SKL) : zM l yX7_is cX7_is 3 (some .boolean) ({ frames := 5, cells := 0, slots := 0, locals := 300 } : Room) D A cs tt N ad g [.ref (ad 2), .ref (cs (100 + q.2.2.2.1))] (rI0 N ad fun r g' => (0 ≤ r ∧ r ≤ 1) ∧ g = g') := by
  obtain ⟨pldy1, endy1, tydy1, a9dy1, bedy1, tkdy1, tddy1, hAdy1, hTdy1, hcdy1, hddy1⟩ := id hR
  have hay2 : zAt ad (2) (ad 2) := rfl
  have hay3 : zAt ad (1) (ad 1) := rfl
  have hqL := SKL_len q hq
  refine z_of (by decide) (Nat.le_of_ble_eq_true rfl) ?_
  intro p e s m below meth c C hr hlk hnm
  refine z_lv (lv' := [(0, .ref (ad 2)), (1, .ref (cs (100 + q.2.2.2.1)))]) [0, 1] rfl ?_
  refine z_aload_n C 0 dX7_is_0 rfl ?_
  refine z_get (v := .int (zI (tydy1))) C (lt_K hN (rfl : Nat.blt (2) 952 = true)) hay2 hcdy1 rfl inA_X7 4 (by decide) q_48 rfl rfl dX7_is_1 ?_
  refine z_iconst (z := 1) C dX7_is_4 rfl ?_
  refine z_icmp_ne (tgt := 24) C dX7_is_5 (by decide) (by omega) (by omega) (fun hby4 => ?_) (fun hby4 => ?_)
  · refine z_iconst (z := 0) C dX7_is_24 rfl ?_
    exact z_zret C hr hlk dX7_is_25 (by decide) (by decide) (by decide) ⟨0, rfl, rfl, rfl, by omega, rfl⟩
  · refine z_aload_n C 0 dX7_is_8 rfl ?_
    refine z_get (v := .int (zI (bedy1))) C (lt_K hN (rfl : Nat.blt (2) 952 = true)) hay2 hcdy1 rfl inA_X7 6 (by decide) q_50 rfl rfl dX7_is_9 ?_
    refine z_aload_n C 0 dX7_is_12 rfl ?_
    refine z_get (v := .int (zI (a9dy1))) C (lt_K hN (rfl : Nat.blt (2) 952 = true)) hay2 hcdy1 rfl inA_X7 5 (by decide) q_49 rfl rfl dX7_is_13 ?_
    refine z_isub C dX7_is_16 ?_
    refine z_aload_n C 1 dX7_is_17 rfl ?_
    refine z_cVs (As := []) (rest := [.int (zI (bedy1 - a9dy1))]) C hq (c_slen l D A cs tt N ad _ q hq) rfl mv_yJ0_length_8abf5 q_758 hd_yJ0_length_8abf5 (by decide) (Nat.le_of_ble_eq_true rfl) (by decide) dX7_is_18 rfl (kI0 fun vy5 gvy5 hvy5 => ?_)
    obtain ⟨rfl, rfl⟩ := hvy5
    refine z_icmp_eq (tgt := 26) C dX7_is_21 (by decide) (by omega) (by omega) (fun hby6 => ?_) (fun hby6 => ?_)
    · refine z_iconst (z := 0) C dX7_is_26 rfl ?_
      refine z_istore_n (lv' := [(2, .int (zI (0))), (0, .ref (ad 2)), (1, .ref (cs (100 + q.2.2.2.1)))]) C dX7_is_27 rfl (by decide) rfl ?_
      have lp : ∀ (n9 : Nat) (i : Int) (g1 : Nat → va_E), (6 - i).toNat = n9 → (g1 = g) → (0 ≤ i ∧ i ≤ (q.2.2.2.2.length : Int)) → zV p l e ({ frames := 5, cells := 0, slots := 0, locals := 300 } : Room) s m ([.ref (ad 2), .ref (cs (100 + q.2.2.2.1))] : List Value).toArray below meth c (MQ below (zPost D A (rI0 N ad fun r g' => (0 ≤ r ∧ r ≤ 1) ∧ g = g')) ([.ref (ad 2), .ref (cs (100 + q.2.2.2.1))] : List Value).toArray s ({ frames := 5, cells := 0, slots := 0, locals := 300 } : Room).cells ({ frames := 5, cells := 0, slots := 0, locals := 300 } : Room).slots A) D A 3 (N) ad g1 (0) (0) 28 [(2, .int (zI (i))), (0, .ref (ad 2)), (1, .ref (cs (100 + q.2.2.2.1)))] [] := by
        intro n9
        induction n9 using Nat.strongRecOn with
        | ind n9 ih =>
          intro i g1 hm9 hg1 hi9
          subst hg1
          refine z_iload_n C 0 dX7_is_28 rfl ?_
          refine z_aload_n C 2 dX7_is_29 rfl ?_
          refine z_cVs (As := []) (rest := [.int (zI (i))]) C hq (c_slen l D A cs tt N ad _ q hq) rfl mv_yJ0_length_8abf5 q_758 hd_yJ0_length_8abf5 (by decide) (Nat.le_of_ble_eq_true rfl) (by decide) dX7_is_30 rfl (kI0 fun vy7 gvy7 hvy7 => ?_)
          obtain ⟨rfl, rfl⟩ := hvy7
          refine z_icmp_ge (tgt := 63) C dX7_is_33 (by decide) (by omega) (by omega) (fun hby8 => ?_) (fun hby8 => ?_)
          · refine z_iconst (z := 1) C dX7_is_63 rfl ?_
            exact z_zret C hr hlk dX7_is_64 (by decide) (by decide) (by decide) ⟨1, rfl, rfl, rfl, by omega, rfl⟩
          · refine z_aload_n C 1 dX7_is_36 rfl ?_
            refine z_get (v := .ref (ad 1)) C (lt_K hN (rfl : Nat.blt (2) 952 = true)) hay2 hcdy1 rfl inA_X7 2 (by decide) q_46 rfl rfl dX7_is_37 ?_
            refine z_aload_n C 1 dX7_is_40 rfl ?_
            refine z_get (v := .int (zI (a9dy1))) C (lt_K hN (rfl : Nat.blt (2) 952 = true)) hay2 hcdy1 rfl inA_X7 5 (by decide) q_49 rfl rfl dX7_is_41 ?_
            refine z_iload_n C 0 dX7_is_44 rfl ?_
            refine z_iadd C dX7_is_45 ?_
            refine z_bald C (lt_K hN (rfl : Nat.blt (1) 952 = true)) hay3 hddy1 ((a9dy1 + i).toNat) (by omega) (by omega) (by decide) dX7_is_46 ?_
            refine z_aload_n C 2 dX7_is_47 rfl ?_
            refine z_iload_n C 0 dX7_is_48 rfl ?_
            refine z_cVs (As := [.int (zI (i))]) (rest := [.int (zI (tp ((a9dy1 + i).toNat)))]) C hq (c_scharAt l D A cs tt N ad _ q hq (i) (by omega)) rfl mv_yJ0_charAt_5068e q_767 hd_yJ0_charAt_5068e (by decide) (Nat.le_of_ble_eq_true rfl) (by decide) dX7_is_49 rfl (kI0 fun vy9 gvy9 hvy9 => ?_)
            obtain ⟨hvy9, rfl⟩ := hvy9
            obtain ⟨xy10, exy11, hxy12⟩ := zI_of (zI (tp ((a9dy1 + i).toNat)))
            rw [exy11]
            refine z_icmp_eq (tgt := 57) C dX7_is_52 (by decide) (by omega) (by omega) (fun hby13 => ?_) (fun hby13 => ?_)
            · refine z_iinc (z := i + 1) (lv' := [(2, .int (zI (i + 1))), (0, .ref (ad 2)), (1, .ref (cs (100 + q.2.2.2.1)))]) (j := 0) C dX7_is_57 rfl rfl (by decide) rfl ?_
              refine z_goto (tgt := 28) C dX7_is_60 (by decide) ?_
              refine z_lv (lv' := [(2, .int (zI (i + 1))), (0, .ref (ad 2)), (1, .ref (cs (100 + q.2.2.2.1)))]) [0, 1, 2] rfl ?_
              exact ih _ (by omega) (i + 1) _ rfl rfl (by omega)
            · refine z_iconst (z := 0) C dX7_is_55 rfl ?_
              exact z_zret C hr hlk dX7_is_56 (by decide) (by decide) (by decide) ⟨0, rfl, rfl, rfl, by omega, rfl⟩
      refine z_lv (lv' := [(2, .int (zI (0))), (0, .ref (ad 2)), (1, .ref (cs (100 + q.2.2.2.1)))]) [0, 1, 2] rfl ?_
      exact lp _ (0) _ rfl rfl (by omega)
    · refine z_iconst (z := 0) C dX7_is_24 rfl ?_
      exact z_zret C hr hlk dX7_is_25 (by decide) (by decide) (by decide) ⟨0, rfl, rfl, rfl, by omega, rfl⟩

set_option maxRecDepth 100000 in
set_option maxHeartbeats 4000000 in
theorem c_kindWord (l : Launch) (D : va_G) (A : Nat → Prop) (cs : Nat → ClassId) (tt : Nat) (N : Nat) (ad : Nat → Nat) (g : Nat → va_E) (z : Int) (hz : -2147483648 ≤ z ∧ z ≤ 2147483647) : zM l yX9_kindWord cX9_kindWord 1 (some (.object "java/lang/String")) ({ frames := 1, cells := 0, slots := 0, locals := 60 } : Room) D A cs tt N ad g [.int (zI (z))] (rR0 N ad fun a g' => (∃ q ∈ SKL, a = cs (100 + q.2.2.2.1)) ∧ g = g') := by
  refine z_of (by decide) (Nat.le_of_ble_eq_true rfl) ?_
  intro p e s m below meth c C hr hlk hnm
  refine z_lv (lv' := [(0, .int (zI (z)))]) [0] rfl ?_
  refine z_iload_n C 0 dX9_kindWord_0 rfl ?_
  by_cases hsy1 : z ≠ 0 ∧ z ≠ 1 ∧ z ≠ 2 ∧ z ≠ 3
  · refine z_tout (tgt := 48) C dX9_kindWord_1 (by omega) (by omega) (by decide) ?_
    refine z_ldcwS C skm6 rfl rfl dX9_kindWord_48 ?_
    exact z_aret C hr (Or.inl ⟨_, rfl⟩) hlk dX9_kindWord_51 (by decide) (by decide) ⟨_, rfl, rfl, rfl, ⟨_, skm6, rfl⟩, rfl⟩
  · rcases (show z = 0 ∨ z = 1 ∨ z = 2 ∨ z = 3 by omega) with rfl | rfl | rfl | rfl
    · refine z_tin (off := 31) (tgt := 32) C dX9_kindWord_1 (by omega) (by omega) (by omega) rfl (by decide) ?_
      refine z_ldcwS C skm2 rfl rfl dX9_kindWord_32 ?_
      exact z_aret C hr (Or.inl ⟨_, rfl⟩) hlk dX9_kindWord_35 (by decide) (by decide) ⟨_, rfl, rfl, rfl, ⟨_, skm2, rfl⟩, rfl⟩
    · refine z_tin (off := 35) (tgt := 36) C dX9_kindWord_1 (by omega) (by omega) (by omega) rfl (by decide) ?_
      refine z_ldcwS C skm3 rfl rfl dX9_kindWord_36 ?_
      exact z_aret C hr (Or.inl ⟨_, rfl⟩) hlk dX9_kindWord_39 (by decide) (by decide) ⟨_, rfl, rfl, rfl, ⟨_, skm3, rfl⟩, rfl⟩
    · refine z_tin (off := 39) (tgt := 40) C dX9_kindWord_1 (by omega) (by omega) (by omega) rfl (by decide) ?_
      refine z_ldcwS C skm4 rfl rfl dX9_kindWord_40 ?_
      exact z_aret C hr (Or.inl ⟨_, rfl⟩) hlk dX9_kindWord_43 (by decide) (by decide) ⟨_, rfl, rfl, rfl, ⟨_, skm4, rfl⟩, rfl⟩
    · refine z_tin (off := 43) (tgt := 44) C dX9_kindWord_1 (by omega) (by omega) (by omega) rfl (by decide) ?_
      refine z_ldcwS C skm5 rfl rfl dX9_kindWord_44 ?_
      exact z_aret C hr (Or.inl ⟨_, rfl⟩) hlk dX9_kindWord_47 (by decide) (by decide) ⟨_, rfl, rfl, rfl, ⟨_, skm5, rfl⟩, rfl⟩

set_option maxRecDepth 100000 in
set_option maxHeartbeats 4000000 in
theorem c_X7_kind (l : Launch) (D : va_G) (A : Nat → Prop) (cs : Nat → ClassId) (tt : Nat) (N : Nat) (ad : Nat → Nat) (g : Nat → va_E) (hN : 952 ≤ N) (co : Int) (tp : Nat → Int) (hR : okRun cs ad g co tp) : zM l yX7_kind cX7_kind 2 (some .int) ({ frames := 6, cells := 0, slots := 0, locals := 360 } : Room) D A cs tt N ad g [.ref (ad 2)] (rI0 N ad fun r g' => (0 ≤ r ∧ r ≤ 4) ∧ (∃ co' : Int, okRun cs ad g' co' tp ∧ co ≤ co') ∧ ∀ j, j ≠ 2 → g' j = g j) := by
  obtain ⟨pldy1, endy1, tydy1, a9dy1, bedy1, tkdy1, tddy1, hAdy1, hTdy1, hcdy1, hddy1⟩ := id hR
  have hay2 : zAt ad (2) (ad 2) := rfl
  have hay3 : zAt ad (1) (ad 1) := rfl
  refine z_of (by decide) (Nat.le_of_ble_eq_true rfl) ?_
  intro p e s m below meth c C hr hlk hnm
  refine z_lv (lv' := [(0, .ref (ad 2))]) [0] rfl ?_
  refine z_iconst (z := 0) C dX7_kind_0 rfl ?_
  refine z_istore_n (lv' := [(1, .int (zI (0))), (0, .ref (ad 2))]) C dX7_kind_1 rfl (by decide) rfl ?_
  have lp : ∀ (n9 : Nat) (i : Int) (g1 : Nat → va_E), (5 - i).toNat = n9 → (g1 = g) → (0 ≤ i ∧ i ≤ 5) → zV p l e ({ frames := 6, cells := 0, slots := 0, locals := 360 } : Room) s m ([.ref (ad 2)] : List Value).toArray below meth c (MQ below (zPost D A (rI0 N ad fun r g' => (0 ≤ r ∧ r ≤ 4) ∧ (∃ co' : Int, okRun cs ad g' co' tp ∧ co ≤ co') ∧ ∀ j, j ≠ 2 → g' j = g j)) ([.ref (ad 2)] : List Value).toArray s ({ frames := 6, cells := 0, slots := 0, locals := 360 } : Room).cells ({ frames := 6, cells := 0, slots := 0, locals := 360 } : Room).slots A) D A 2 (N) ad g1 (0) (0) 2 [(1, .int (zI (i))), (0, .ref (ad 2))] [] := by
    intro n9
    induction n9 using Nat.strongRecOn with
    | ind n9 ih =>
      intro i g1 hm9 hg1 hi9
      subst hg1
      refine z_iload_n C 0 dX7_kind_2 rfl ?_
      refine z_iconst (z := 5) C dX7_kind_3 rfl ?_
      refine z_icmp_ge (tgt := 30) C dX7_kind_4 (by decide) (by omega) (by omega) (fun hby4 => ?_) (fun hby4 => ?_)
      · refine z_aload_n C 1 dX7_kind_30 rfl ?_
        refine z_iconst (z := 1) C dX7_kind_31 rfl ?_
        refine z_aload_n C 1 dX7_kind_32 rfl ?_
        refine z_get (v := .int (zI (a9dy1))) C (lt_K hN (rfl : Nat.blt (2) 952 = true)) hay2 hcdy1 rfl inA_X7 5 (by decide) q_49 rfl rfl dX7_kind_33 ?_
        have hruny5 : okRun cs ad g1 (co) tp := ⟨_, _, _, _, _, _, _, by omega, by omega, hcdy1, hddy1⟩
        refine z_cV (As := [.int (zI (1)), .int (zI (a9dy1))]) (rest := []) (ci := 9) C (c_X7_fail l D A cs tt N ad _ (by omega) _ tp hruny5 (1) (by omega) (a9dy1) (by omega)) (lt_K hN (rfl : Nat.blt (2) 952 = true)) hay2 hcdy1 rfl rfl mv_yX7_fail q_809 hd_yX7_fail (by decide) (Nat.le_of_ble_eq_true rfl) (by decide) dX7_kind_36 rfl (kV0 fun gvy6 hvy6 => ?_)
        obtain ⟨⟨covy6, hkvy6, hnvy6⟩, hfvy6⟩ := hvy6
        obtain ⟨pldy7, endy7, tydy7, a9dy7, bedy7, tkdy7, tddy7, hAdy7, hTdy7, hcdy7, hddy7⟩ := id hkvy6
        refine z_iconst (z := 0) C dX7_kind_39 rfl ?_
        have hruny8 : okRun cs ad gvy6 (covy6) tp := ⟨_, _, _, _, _, _, _, by omega, by omega, hcdy7, hddy7⟩
        exact z_iret C hr hlk dX7_kind_40 (by decide) (by decide) ⟨0, rfl, rfl, rfl, by omega, ⟨_, hruny8, by omega⟩, fun j j1 => by rw [hfvy6 _ (by omega)]⟩
      · refine z_aload_n C 1 dX7_kind_7 rfl ?_
        refine z_iload_n C 0 dX7_kind_8 rfl ?_
        refine z_cSN (As := [.int (zI (i))]) (rest := [.ref (ad 2)]) C (c_kindWord l D A cs tt N ad _ (i) (by omega)) ms_yX9_kindWord n_834 hd_yX9_kindWord (by decide) (Nat.le_of_ble_eq_true rfl) (by decide) dX7_kind_9 rfl (kR0 fun avy9 gvy9 hvy9 => ?_)
        obtain ⟨⟨qvy9, hqvy9, rfl⟩, rfl⟩ := hvy9
        have hruny10 : okRun cs ad g1 (co) tp := ⟨_, _, _, _, _, _, _, by omega, by omega, hcdy1, hddy1⟩
        refine z_cV (As := [.ref (cs (100 + qvy9.2.2.2.1))]) (rest := []) (ci := 9) C (c_X7_is l D A cs tt N ad _ (by omega) _ tp hruny10 _ hqvy9) (lt_K hN (rfl : Nat.blt (2) 952 = true)) hay2 hcdy1 rfl rfl mv_yX7_is q_754 hd_yX7_is (by decide) (Nat.le_of_ble_eq_true rfl) (by decide) dX7_kind_12 rfl (kI0 fun vy11 gvy11 hvy11 => ?_)
        obtain ⟨hvy11, rfl⟩ := hvy11
        refine z_if_eq (tgt := 24) C dX7_kind_15 (by decide) (by omega) (fun hby12 => ?_) (fun hby12 => ?_)
        · refine z_iinc (z := i + 1) (lv' := [(1, .int (zI (i + 1))), (0, .ref (ad 2))]) (j := 0) C dX7_kind_24 rfl rfl (by decide) rfl ?_
          refine z_goto (tgt := 2) C dX7_kind_27 (by decide) ?_
          refine z_lv (lv' := [(1, .int (zI (i + 1))), (0, .ref (ad 2))]) [0, 1] rfl ?_
          exact ih _ (by omega) (i + 1) _ rfl rfl (by omega)
        · refine z_aload_n C 1 dX7_kind_18 rfl ?_
          have hruny13 : okRun cs ad g1 (co) tp := ⟨_, _, _, _, _, _, _, by omega, by omega, hcdy1, hddy1⟩
          refine z_cV (As := []) (rest := []) (ci := 9) C (c_X7_take l D A cs tt N ad _ (by omega) _ tp hruny13) (lt_K hN (rfl : Nat.blt (2) 952 = true)) hay2 hcdy1 rfl rfl mv_yX7_take q_813 hd_yX7_take (by decide) (Nat.le_of_ble_eq_true rfl) (by decide) dX7_kind_19 rfl (kV0 fun gvy14 hvy14 => ?_)
          obtain ⟨hkvy14, hfvy14⟩ := hvy14
          obtain ⟨pldy15, endy15, tydy15, a9dy15, bedy15, tkdy15, tddy15, hAdy15, hTdy15, hcdy15, hddy15⟩ := id hkvy14
          refine z_iload_n C 0 dX7_kind_22 rfl ?_
          have hruny16 : okRun cs ad gvy14 (co) tp := ⟨_, _, _, _, _, _, _, by omega, by omega, hcdy15, hddy15⟩
          exact z_iret C hr hlk dX7_kind_23 (by decide) (by decide) ⟨i, rfl, rfl, rfl, by omega, ⟨_, hruny16, by omega⟩, fun j j1 => by rw [hfvy14 _ (by omega)]⟩
  refine z_lv (lv' := [(1, .int (zI (0))), (0, .ref (ad 2))]) [0, 1] rfl ?_
  exact lp _ (0) _ rfl rfl (by omega)

set_option maxRecDepth 100000 in
set_option maxHeartbeats 4000000 in
theorem c_X7_number (l : Launch) (D : va_G) (A : Nat → Prop) (cs : Nat → ClassId) (tt : Nat) (N : Nat) (ad : Nat → Nat) (g : Nat → va_E) (hN : 952 ≤ N) (co : Int) (tp : Nat → Int) (hR : okRun cs ad g co tp) (z : Int) (hz : 0 ≤ z ∧ z ≤ 9999) (z1 : Int) (hz1 : 0 ≤ z1 ∧ z1 ≤ 9999) : zM l yX7_number cX7_number 5 (some .int) ({ frames := 5, cells := 0, slots := 0, locals := 300 } : Room) D A cs tt N ad g [.ref (ad 2), .int (zI (z)), .int (zI (z1))] (rI0 N ad fun r g' => (0 ≤ r ∧ r ≤ z1) ∧ (∃ co' : Int, okRun cs ad g' co' tp ∧ co ≤ co') ∧ ∀ j, j ≠ 2 → g' j = g j) := by
  obtain ⟨pldy1, endy1, tydy1, a9dy1, bedy1, tkdy1, tddy1, hAdy1, hTdy1, hcdy1, hddy1⟩ := id hR
  have hay2 : zAt ad (2) (ad 2) := rfl
  have hay3 : zAt ad (1) (ad 1) := rfl
  refine z_of (by decide) (Nat.le_of_ble_eq_true rfl) ?_
  intro p e s m below meth c C hr hlk hnm
  refine z_lv (lv' := [(0, .ref (ad 2)), (1, .int (zI (z))), (2, .int (zI (z1)))]) [0, 1, 2] rfl ?_
  refine z_aload_n C 0 dX7_number_0 rfl ?_
  refine z_get (v := .int (zI (tydy1))) C (lt_K hN (rfl : Nat.blt (2) 952 = true)) hay2 hcdy1 rfl inA_X7 4 (by decide) q_48 rfl rfl dX7_number_1 ?_
  refine z_iconst (z := 2) C dX7_number_4 rfl ?_
  refine z_icmp_eq (tgt := 19) C dX7_number_5 (by decide) (by omega) (by omega) (fun hby4 => ?_) (fun hby4 => ?_)
  · refine z_iconst (z := 0) C dX7_number_19 rfl ?_
    refine z_istore_n (lv' := [(3, .int (zI (0))), (0, .ref (ad 2)), (1, .int (zI (z))), (2, .int (zI (z1)))]) C dX7_number_20 rfl (by decide) rfl ?_
    refine z_aload_n C 1 dX7_number_21 rfl ?_
    refine z_get (v := .int (zI (a9dy1))) C (lt_K hN (rfl : Nat.blt (2) 952 = true)) hay2 hcdy1 rfl inA_X7 5 (by decide) q_49 rfl rfl dX7_number_22 ?_
    refine z_istore (lv' := [(4, .int (zI (a9dy1))), (3, .int (zI (0))), (0, .ref (ad 2)), (1, .int (zI (z))), (2, .int (zI (z1)))]) C dX7_number_25 (by decide) rfl ?_
    have lp : ∀ (n9 : Nat) (i : Int) (va : Int) (g1 : Nat → va_E), (900 - i).toNat = n9 → (g1 = g) → (0 ≤ i ∧ i ≤ 900) → (-2147483648 ≤ va ∧ va ≤ 2147483647) → zV p l e ({ frames := 5, cells := 0, slots := 0, locals := 300 } : Room) s m ([.ref (ad 2), .int (zI (z)), .int (zI (z1))] : List Value).toArray below meth c (MQ below (zPost D A (rI0 N ad fun r g' => (0 ≤ r ∧ r ≤ z1) ∧ (∃ co' : Int, okRun cs ad g' co' tp ∧ co ≤ co') ∧ ∀ j, j ≠ 2 → g' j = g j)) ([.ref (ad 2), .int (zI (z)), .int (zI (z1))] : List Value).toArray s ({ frames := 5, cells := 0, slots := 0, locals := 300 } : Room).cells ({ frames := 5, cells := 0, slots := 0, locals := 300 } : Room).slots A) D A 5 (N) ad g1 (0) (0) 27 [(4, .int (zI (i))), (3, .int (zI (va))), (0, .ref (ad 2)), (1, .int (zI (z))), (2, .int (zI (z1)))] [] := by
      intro n9
      induction n9 using Nat.strongRecOn with
      | ind n9 ih =>
        intro i va g1 hm9 hg1 hi9 hv9
        subst hg1
        refine z_iload C 0 dX7_number_27 rfl ?_
        refine z_aload_n C 2 dX7_number_29 rfl ?_
        refine z_get (v := .int (zI (bedy1))) C (lt_K hN (rfl : Nat.blt (2) 952 = true)) hay2 hcdy1 rfl inA_X7 6 (by decide) q_50 rfl rfl dX7_number_30 ?_
        refine z_icmp_ge (tgt := 63) C dX7_number_33 (by decide) (by omega) (by omega) (fun hby5 => ?_) (fun hby5 => ?_)
        · refine z_aload_n C 2 dX7_number_63 rfl ?_
          refine z_get (v := .int (zI (bedy1))) C (lt_K hN (rfl : Nat.blt (2) 952 = true)) hay2 hcdy1 rfl inA_X7 6 (by decide) q_50 rfl rfl dX7_number_64 ?_
          refine z_aload_n C 2 dX7_number_67 rfl ?_
          refine z_get (v := .int (zI (a9dy1))) C (lt_K hN (rfl : Nat.blt (2) 952 = true)) hay2 hcdy1 rfl inA_X7 5 (by decide) q_49 rfl rfl dX7_number_68 ?_
          refine z_isub C dX7_number_71 ?_
          refine z_iconst (z := 4) C dX7_number_72 rfl ?_
          refine z_icmp_gt (tgt := 86) C dX7_number_73 (by decide) (by omega) (by omega) (fun hby6 => ?_) (fun hby6 => ?_)
          · refine z_aload_n C 2 dX7_number_86 rfl ?_
            refine z_iconst (z := 2) C dX7_number_87 rfl ?_
            refine z_aload_n C 2 dX7_number_88 rfl ?_
            refine z_get (v := .int (zI (a9dy1))) C (lt_K hN (rfl : Nat.blt (2) 952 = true)) hay2 hcdy1 rfl inA_X7 5 (by decide) q_49 rfl rfl dX7_number_89 ?_
            have hruny7 : okRun cs ad g1 (co) tp := ⟨_, _, _, _, _, _, _, by omega, by omega, hcdy1, hddy1⟩
            refine z_cV (As := [.int (zI (2)), .int (zI (a9dy1))]) (rest := []) (ci := 9) C (c_X7_fail l D A cs tt N ad _ (by omega) _ tp hruny7 (2) (by omega) (a9dy1) (by omega)) (lt_K hN (rfl : Nat.blt (2) 952 = true)) hay2 hcdy1 rfl rfl mv_yX7_fail q_809 hd_yX7_fail (by decide) (Nat.le_of_ble_eq_true rfl) (by decide) dX7_number_92 rfl (kV0 fun gvy8 hvy8 => ?_)
            obtain ⟨⟨covy8, hkvy8, hnvy8⟩, hfvy8⟩ := hvy8
            obtain ⟨pldy9, endy9, tydy9, a9dy9, bedy9, tkdy9, tddy9, hAdy9, hTdy9, hcdy9, hddy9⟩ := id hkvy8
            refine z_iconst (z := 0) C dX7_number_95 rfl ?_
            have hruny10 : okRun cs ad gvy8 (covy8) tp := ⟨_, _, _, _, _, _, _, by omega, by omega, hcdy9, hddy9⟩
            exact z_iret C hr hlk dX7_number_96 (by decide) (by decide) ⟨0, rfl, rfl, rfl, by omega, ⟨_, hruny10, by omega⟩, fun j j1 => by rw [hfvy8 _ (by omega)]⟩
          · refine z_iload_n C 1 dX7_number_76 rfl ?_
            refine z_iload_n C 3 dX7_number_77 rfl ?_
            refine z_icmp_lt (tgt := 86) C dX7_number_78 (by decide) (by omega) (by omega) (fun hby11 => ?_) (fun hby11 => ?_)
            · refine z_aload_n C 2 dX7_number_86 rfl ?_
              refine z_iconst (z := 2) C dX7_number_87 rfl ?_
              refine z_aload_n C 2 dX7_number_88 rfl ?_
              refine z_get (v := .int (zI (a9dy1))) C (lt_K hN (rfl : Nat.blt (2) 952 = true)) hay2 hcdy1 rfl inA_X7 5 (by decide) q_49 rfl rfl dX7_number_89 ?_
              have hruny12 : okRun cs ad g1 (co) tp := ⟨_, _, _, _, _, _, _, by omega, by omega, hcdy1, hddy1⟩
              refine z_cV (As := [.int (zI (2)), .int (zI (a9dy1))]) (rest := []) (ci := 9) C (c_X7_fail l D A cs tt N ad _ (by omega) _ tp hruny12 (2) (by omega) (a9dy1) (by omega)) (lt_K hN (rfl : Nat.blt (2) 952 = true)) hay2 hcdy1 rfl rfl mv_yX7_fail q_809 hd_yX7_fail (by decide) (Nat.le_of_ble_eq_true rfl) (by decide) dX7_number_92 rfl (kV0 fun gvy13 hvy13 => ?_)
              obtain ⟨⟨covy13, hkvy13, hnvy13⟩, hfvy13⟩ := hvy13
              obtain ⟨pldy14, endy14, tydy14, a9dy14, bedy14, tkdy14, tddy14, hAdy14, hTdy14, hcdy14, hddy14⟩ := id hkvy13
              refine z_iconst (z := 0) C dX7_number_95 rfl ?_
              have hruny15 : okRun cs ad gvy13 (covy13) tp := ⟨_, _, _, _, _, _, _, by omega, by omega, hcdy14, hddy14⟩
              exact z_iret C hr hlk dX7_number_96 (by decide) (by decide) ⟨0, rfl, rfl, rfl, by omega, ⟨_, hruny15, by omega⟩, fun j j1 => by rw [hfvy13 _ (by omega)]⟩
            · refine z_iload_n C 1 dX7_number_81 rfl ?_
              refine z_iload_n C 4 dX7_number_82 rfl ?_
              refine z_icmp_le (tgt := 97) C dX7_number_83 (by decide) (by omega) (by omega) (fun hby16 => ?_) (fun hby16 => ?_)
              · refine z_aload_n C 2 dX7_number_97 rfl ?_
                have hruny17 : okRun cs ad g1 (co) tp := ⟨_, _, _, _, _, _, _, by omega, by omega, hcdy1, hddy1⟩
                refine z_cV (As := []) (rest := []) (ci := 9) C (c_X7_take l D A cs tt N ad _ (by omega) _ tp hruny17) (lt_K hN (rfl : Nat.blt (2) 952 = true)) hay2 hcdy1 rfl rfl mv_yX7_take q_813 hd_yX7_take (by decide) (Nat.le_of_ble_eq_true rfl) (by decide) dX7_number_98 rfl (kV0 fun gvy18 hvy18 => ?_)
                obtain ⟨hkvy18, hfvy18⟩ := hvy18
                obtain ⟨pldy19, endy19, tydy19, a9dy19, bedy19, tkdy19, tddy19, hAdy19, hTdy19, hcdy19, hddy19⟩ := id hkvy18
                refine z_iload_n C 1 dX7_number_101 rfl ?_
                have hruny20 : okRun cs ad gvy18 (co) tp := ⟨_, _, _, _, _, _, _, by omega, by omega, hcdy19, hddy19⟩
                exact z_iret C hr hlk dX7_number_102 (by decide) (by decide) ⟨va, rfl, rfl, rfl, by omega, ⟨_, hruny20, by omega⟩, fun j j1 => by rw [hfvy18 _ (by omega)]⟩
              · refine z_aload_n C 2 dX7_number_86 rfl ?_
                refine z_iconst (z := 2) C dX7_number_87 rfl ?_
                refine z_aload_n C 2 dX7_number_88 rfl ?_
                refine z_get (v := .int (zI (a9dy1))) C (lt_K hN (rfl : Nat.blt (2) 952 = true)) hay2 hcdy1 rfl inA_X7 5 (by decide) q_49 rfl rfl dX7_number_89 ?_
                have hruny21 : okRun cs ad g1 (co) tp := ⟨_, _, _, _, _, _, _, by omega, by omega, hcdy1, hddy1⟩
                refine z_cV (As := [.int (zI (2)), .int (zI (a9dy1))]) (rest := []) (ci := 9) C (c_X7_fail l D A cs tt N ad _ (by omega) _ tp hruny21 (2) (by omega) (a9dy1) (by omega)) (lt_K hN (rfl : Nat.blt (2) 952 = true)) hay2 hcdy1 rfl rfl mv_yX7_fail q_809 hd_yX7_fail (by decide) (Nat.le_of_ble_eq_true rfl) (by decide) dX7_number_92 rfl (kV0 fun gvy22 hvy22 => ?_)
                obtain ⟨⟨covy22, hkvy22, hnvy22⟩, hfvy22⟩ := hvy22
                obtain ⟨pldy23, endy23, tydy23, a9dy23, bedy23, tkdy23, tddy23, hAdy23, hTdy23, hcdy23, hddy23⟩ := id hkvy22
                refine z_iconst (z := 0) C dX7_number_95 rfl ?_
                have hruny24 : okRun cs ad gvy22 (covy22) tp := ⟨_, _, _, _, _, _, _, by omega, by omega, hcdy23, hddy23⟩
                exact z_iret C hr hlk dX7_number_96 (by decide) (by decide) ⟨0, rfl, rfl, rfl, by omega, ⟨_, hruny24, by omega⟩, fun j j1 => by rw [hfvy22 _ (by omega)]⟩
        · refine z_iload_n C 1 dX7_number_36 rfl ?_
          refine z_iload_n C 4 dX7_number_37 rfl ?_
          refine z_icmp_gt (tgt := 63) C dX7_number_38 (by decide) (by omega) (by omega) (fun hby25 => ?_) (fun hby25 => ?_)
          · refine z_aload_n C 2 dX7_number_63 rfl ?_
            refine z_get (v := .int (zI (bedy1))) C (lt_K hN (rfl : Nat.blt (2) 952 = true)) hay2 hcdy1 rfl inA_X7 6 (by decide) q_50 rfl rfl dX7_number_64 ?_
            refine z_aload_n C 2 dX7_number_67 rfl ?_
            refine z_get (v := .int (zI (a9dy1))) C (lt_K hN (rfl : Nat.blt (2) 952 = true)) hay2 hcdy1 rfl inA_X7 5 (by decide) q_49 rfl rfl dX7_number_68 ?_
            refine z_isub C dX7_number_71 ?_
            refine z_iconst (z := 4) C dX7_number_72 rfl ?_
            refine z_icmp_gt (tgt := 86) C dX7_number_73 (by decide) (by omega) (by omega) (fun hby26 => ?_) (fun hby26 => ?_)
            · refine z_aload_n C 2 dX7_number_86 rfl ?_
              refine z_iconst (z := 2) C dX7_number_87 rfl ?_
              refine z_aload_n C 2 dX7_number_88 rfl ?_
              refine z_get (v := .int (zI (a9dy1))) C (lt_K hN (rfl : Nat.blt (2) 952 = true)) hay2 hcdy1 rfl inA_X7 5 (by decide) q_49 rfl rfl dX7_number_89 ?_
              have hruny27 : okRun cs ad g1 (co) tp := ⟨_, _, _, _, _, _, _, by omega, by omega, hcdy1, hddy1⟩
              refine z_cV (As := [.int (zI (2)), .int (zI (a9dy1))]) (rest := []) (ci := 9) C (c_X7_fail l D A cs tt N ad _ (by omega) _ tp hruny27 (2) (by omega) (a9dy1) (by omega)) (lt_K hN (rfl : Nat.blt (2) 952 = true)) hay2 hcdy1 rfl rfl mv_yX7_fail q_809 hd_yX7_fail (by decide) (Nat.le_of_ble_eq_true rfl) (by decide) dX7_number_92 rfl (kV0 fun gvy28 hvy28 => ?_)
              obtain ⟨⟨covy28, hkvy28, hnvy28⟩, hfvy28⟩ := hvy28
              obtain ⟨pldy29, endy29, tydy29, a9dy29, bedy29, tkdy29, tddy29, hAdy29, hTdy29, hcdy29, hddy29⟩ := id hkvy28
              refine z_iconst (z := 0) C dX7_number_95 rfl ?_
              have hruny30 : okRun cs ad gvy28 (covy28) tp := ⟨_, _, _, _, _, _, _, by omega, by omega, hcdy29, hddy29⟩
              exact z_iret C hr hlk dX7_number_96 (by decide) (by decide) ⟨0, rfl, rfl, rfl, by omega, ⟨_, hruny30, by omega⟩, fun j j1 => by rw [hfvy28 _ (by omega)]⟩
            · refine z_iload_n C 1 dX7_number_76 rfl ?_
              refine z_iload_n C 3 dX7_number_77 rfl ?_
              refine z_icmp_lt (tgt := 86) C dX7_number_78 (by decide) (by omega) (by omega) (fun hby31 => ?_) (fun hby31 => ?_)
              · refine z_aload_n C 2 dX7_number_86 rfl ?_
                refine z_iconst (z := 2) C dX7_number_87 rfl ?_
                refine z_aload_n C 2 dX7_number_88 rfl ?_
                refine z_get (v := .int (zI (a9dy1))) C (lt_K hN (rfl : Nat.blt (2) 952 = true)) hay2 hcdy1 rfl inA_X7 5 (by decide) q_49 rfl rfl dX7_number_89 ?_
                have hruny32 : okRun cs ad g1 (co) tp := ⟨_, _, _, _, _, _, _, by omega, by omega, hcdy1, hddy1⟩
                refine z_cV (As := [.int (zI (2)), .int (zI (a9dy1))]) (rest := []) (ci := 9) C (c_X7_fail l D A cs tt N ad _ (by omega) _ tp hruny32 (2) (by omega) (a9dy1) (by omega)) (lt_K hN (rfl : Nat.blt (2) 952 = true)) hay2 hcdy1 rfl rfl mv_yX7_fail q_809 hd_yX7_fail (by decide) (Nat.le_of_ble_eq_true rfl) (by decide) dX7_number_92 rfl (kV0 fun gvy33 hvy33 => ?_)
                obtain ⟨⟨covy33, hkvy33, hnvy33⟩, hfvy33⟩ := hvy33
                obtain ⟨pldy34, endy34, tydy34, a9dy34, bedy34, tkdy34, tddy34, hAdy34, hTdy34, hcdy34, hddy34⟩ := id hkvy33
                refine z_iconst (z := 0) C dX7_number_95 rfl ?_
                have hruny35 : okRun cs ad gvy33 (covy33) tp := ⟨_, _, _, _, _, _, _, by omega, by omega, hcdy34, hddy34⟩
                exact z_iret C hr hlk dX7_number_96 (by decide) (by decide) ⟨0, rfl, rfl, rfl, by omega, ⟨_, hruny35, by omega⟩, fun j j1 => by rw [hfvy33 _ (by omega)]⟩
              · refine z_iload_n C 1 dX7_number_81 rfl ?_
                refine z_iload_n C 4 dX7_number_82 rfl ?_
                refine z_icmp_le (tgt := 97) C dX7_number_83 (by decide) (by omega) (by omega) (fun hby36 => ?_) (fun hby36 => ?_)
                · refine z_aload_n C 2 dX7_number_97 rfl ?_
                  have hruny37 : okRun cs ad g1 (co) tp := ⟨_, _, _, _, _, _, _, by omega, by omega, hcdy1, hddy1⟩
                  refine z_cV (As := []) (rest := []) (ci := 9) C (c_X7_take l D A cs tt N ad _ (by omega) _ tp hruny37) (lt_K hN (rfl : Nat.blt (2) 952 = true)) hay2 hcdy1 rfl rfl mv_yX7_take q_813 hd_yX7_take (by decide) (Nat.le_of_ble_eq_true rfl) (by decide) dX7_number_98 rfl (kV0 fun gvy38 hvy38 => ?_)
                  obtain ⟨hkvy38, hfvy38⟩ := hvy38
                  obtain ⟨pldy39, endy39, tydy39, a9dy39, bedy39, tkdy39, tddy39, hAdy39, hTdy39, hcdy39, hddy39⟩ := id hkvy38
                  refine z_iload_n C 1 dX7_number_101 rfl ?_
                  have hruny40 : okRun cs ad gvy38 (co) tp := ⟨_, _, _, _, _, _, _, by omega, by omega, hcdy39, hddy39⟩
                  exact z_iret C hr hlk dX7_number_102 (by decide) (by decide) ⟨va, rfl, rfl, rfl, by omega, ⟨_, hruny40, by omega⟩, fun j j1 => by rw [hfvy38 _ (by omega)]⟩
                · refine z_aload_n C 2 dX7_number_86 rfl ?_
                  refine z_iconst (z := 2) C dX7_number_87 rfl ?_
                  refine z_aload_n C 2 dX7_number_88 rfl ?_
                  refine z_get (v := .int (zI (a9dy1))) C (lt_K hN (rfl : Nat.blt (2) 952 = true)) hay2 hcdy1 rfl inA_X7 5 (by decide) q_49 rfl rfl dX7_number_89 ?_
                  have hruny41 : okRun cs ad g1 (co) tp := ⟨_, _, _, _, _, _, _, by omega, by omega, hcdy1, hddy1⟩
                  refine z_cV (As := [.int (zI (2)), .int (zI (a9dy1))]) (rest := []) (ci := 9) C (c_X7_fail l D A cs tt N ad _ (by omega) _ tp hruny41 (2) (by omega) (a9dy1) (by omega)) (lt_K hN (rfl : Nat.blt (2) 952 = true)) hay2 hcdy1 rfl rfl mv_yX7_fail q_809 hd_yX7_fail (by decide) (Nat.le_of_ble_eq_true rfl) (by decide) dX7_number_92 rfl (kV0 fun gvy42 hvy42 => ?_)
                  obtain ⟨⟨covy42, hkvy42, hnvy42⟩, hfvy42⟩ := hvy42
                  obtain ⟨pldy43, endy43, tydy43, a9dy43, bedy43, tkdy43, tddy43, hAdy43, hTdy43, hcdy43, hddy43⟩ := id hkvy42
                  refine z_iconst (z := 0) C dX7_number_95 rfl ?_
                  have hruny44 : okRun cs ad gvy42 (covy42) tp := ⟨_, _, _, _, _, _, _, by omega, by omega, hcdy43, hddy43⟩
                  exact z_iret C hr hlk dX7_number_96 (by decide) (by decide) ⟨0, rfl, rfl, rfl, by omega, ⟨_, hruny44, by omega⟩, fun j j1 => by rw [hfvy42 _ (by omega)]⟩
          · refine z_bipush (z := 10) C dX7_number_41 (by decide) ?_
            refine z_iload_n C 1 dX7_number_43 rfl ?_
            refine z_imul C dX7_number_44 ?_
            refine z_aload_n C 2 dX7_number_45 rfl ?_
            refine z_get (v := .ref (ad 1)) C (lt_K hN (rfl : Nat.blt (2) 952 = true)) hay2 hcdy1 rfl inA_X7 2 (by decide) q_46 rfl rfl dX7_number_46 ?_
            refine z_iload C 0 dX7_number_49 rfl ?_
            refine z_bald C (lt_K hN (rfl : Nat.blt (1) 952 = true)) hay3 hddy1 ((i).toNat) (by omega) (by omega) (by decide) dX7_number_51 ?_
            refine z_iadd C dX7_number_52 ?_
            refine z_bipush (z := 48) C dX7_number_53 (by decide) ?_
            refine z_isub C dX7_number_55 ?_
            refine z_istore_n (lv' := [(3, .int (zI (((10 * va) + (tp ((i).toNat))) - 48))), (4, .int (zI (i))), (0, .ref (ad 2)), (1, .int (zI (z))), (2, .int (zI (z1)))]) C dX7_number_56 rfl (by decide) rfl ?_
            refine z_iinc (z := i + 1) (lv' := [(4, .int (zI (i + 1))), (3, .int (zI (((10 * va) + (tp ((i).toNat))) - 48))), (0, .ref (ad 2)), (1, .int (zI (z))), (2, .int (zI (z1)))]) (j := 1) C dX7_number_57 rfl rfl (by decide) rfl ?_
            refine z_goto (tgt := 27) C dX7_number_60 (by decide) ?_
            obtain ⟨xy45, exy46, hxy47⟩ := zI_of (zI (((10 * va) + (tp ((i).toNat))) - 48))
            rw [exy46]
            refine z_lv (lv' := [(4, .int (zI (i + 1))), (3, .int (zI (xy45))), (0, .ref (ad 2)), (1, .int (zI (z))), (2, .int (zI (z1)))]) [0, 1, 2, 3, 4] rfl ?_
            exact ih _ (by omega) (i + 1) (xy45) _ rfl rfl (by omega) (by omega)
    refine z_lv (lv' := [(4, .int (zI (a9dy1))), (3, .int (zI (0))), (0, .ref (ad 2)), (1, .int (zI (z))), (2, .int (zI (z1)))]) [0, 1, 2, 3, 4] rfl ?_
    exact lp _ (a9dy1) (0) _ rfl rfl (by omega) (by omega)
  · refine z_aload_n C 0 dX7_number_8 rfl ?_
    refine z_iconst (z := 1) C dX7_number_9 rfl ?_
    refine z_aload_n C 0 dX7_number_10 rfl ?_
    refine z_get (v := .int (zI (a9dy1))) C (lt_K hN (rfl : Nat.blt (2) 952 = true)) hay2 hcdy1 rfl inA_X7 5 (by decide) q_49 rfl rfl dX7_number_11 ?_
    have hruny48 : okRun cs ad g (co) tp := ⟨_, _, _, _, _, _, _, by omega, by omega, hcdy1, hddy1⟩
    refine z_cV (As := [.int (zI (1)), .int (zI (a9dy1))]) (rest := []) (ci := 9) C (c_X7_fail l D A cs tt N ad _ (by omega) _ tp hruny48 (1) (by omega) (a9dy1) (by omega)) (lt_K hN (rfl : Nat.blt (2) 952 = true)) hay2 hcdy1 rfl rfl mv_yX7_fail q_809 hd_yX7_fail (by decide) (Nat.le_of_ble_eq_true rfl) (by decide) dX7_number_14 rfl (kV0 fun gvy49 hvy49 => ?_)
    obtain ⟨⟨covy49, hkvy49, hnvy49⟩, hfvy49⟩ := hvy49
    obtain ⟨pldy50, endy50, tydy50, a9dy50, bedy50, tkdy50, tddy50, hAdy50, hTdy50, hcdy50, hddy50⟩ := id hkvy49
    refine z_iconst (z := 0) C dX7_number_17 rfl ?_
    have hruny51 : okRun cs ad gvy49 (covy49) tp := ⟨_, _, _, _, _, _, _, by omega, by omega, hcdy50, hddy50⟩
    exact z_iret C hr hlk dX7_number_18 (by decide) (by decide) ⟨0, rfl, rfl, rfl, by omega, ⟨_, hruny51, by omega⟩, fun j j1 => by rw [hfvy49 _ (by omega)]⟩

set_option maxRecDepth 100000 in
set_option maxHeartbeats 4000000 in
theorem c_X7_readFall (l : Launch) (D : va_G) (A : Nat → Prop) (cs : Nat → ClassId) (tt : Nat) (N : Nat) (ad : Nat → Nat) (g : Nat → va_E) (hN : 952 ≤ N) (co : Int) (tp : Nat → Int) (hR : okRun cs ad g co tp) : zM l yX7_readFall cX7_readFall 2 (some .int) ({ frames := 6, cells := 0, slots := 0, locals := 360 } : Room) D A cs tt N ad g [.ref (ad 2)] (rI0 N ad fun r g' => (0 ≤ r ∧ r ≤ 3) ∧ (∃ co' : Int, okRun cs ad g' co' tp ∧ co ≤ co') ∧ ∀ j, j ≠ 2 → g' j = g j) := by
  obtain ⟨pldy1, endy1, tydy1, a9dy1, bedy1, tkdy1, tddy1, hAdy1, hTdy1, hcdy1, hddy1⟩ := id hR
  have hay2 : zAt ad (2) (ad 2) := rfl
  have hay3 : zAt ad (1) (ad 1) := rfl
  refine z_of (by decide) (Nat.le_of_ble_eq_true rfl) ?_
  intro p e s m below meth c C hr hlk hnm
  refine z_lv (lv' := [(0, .ref (ad 2))]) [0] rfl ?_
  refine z_aload_n C 0 dX7_readFall_0 rfl ?_
  refine z_ldcS C skm8 rfl rfl dX7_readFall_1 ?_
  have hruny4 : okRun cs ad g (co) tp := ⟨_, _, _, _, _, _, _, by omega, by omega, hcdy1, hddy1⟩
  refine z_cV (As := [.ref (cs (100 + 8))]) (rest := []) (ci := 9) C (c_X7_is l D A cs tt N ad _ (by omega) _ tp hruny4 _ skm8) (lt_K hN (rfl : Nat.blt (2) 952 = true)) hay2 hcdy1 rfl rfl mv_yX7_is q_754 hd_yX7_is (by decide) (Nat.le_of_ble_eq_true rfl) (by decide) dX7_readFall_3 rfl (kI0 fun vy5 gvy5 hvy5 => ?_)
  obtain ⟨hvy5, rfl⟩ := hvy5
  refine z_if_eq (tgt := 13) C dX7_readFall_6 (by decide) (by omega) (fun hby6 => ?_) (fun hby6 => ?_)
  · refine z_aload_n C 0 dX7_readFall_13 rfl ?_
    refine z_ldcS C skm9 rfl rfl dX7_readFall_14 ?_
    have hruny7 : okRun cs ad g (co) tp := ⟨_, _, _, _, _, _, _, by omega, by omega, hcdy1, hddy1⟩
    refine z_cV (As := [.ref (cs (100 + 9))]) (rest := []) (ci := 9) C (c_X7_is l D A cs tt N ad _ (by omega) _ tp hruny7 _ skm9) (lt_K hN (rfl : Nat.blt (2) 952 = true)) hay2 hcdy1 rfl rfl mv_yX7_is q_754 hd_yX7_is (by decide) (Nat.le_of_ble_eq_true rfl) (by decide) dX7_readFall_16 rfl (kI0 fun vy8 gvy8 hvy8 => ?_)
    obtain ⟨hvy8, rfl⟩ := hvy8
    refine z_if_eq (tgt := 26) C dX7_readFall_19 (by decide) (by omega) (fun hby9 => ?_) (fun hby9 => ?_)
    · refine z_aload_n C 0 dX7_readFall_26 rfl ?_
      refine z_ldcS C skm10 rfl rfl dX7_readFall_27 ?_
      have hruny10 : okRun cs ad g (co) tp := ⟨_, _, _, _, _, _, _, by omega, by omega, hcdy1, hddy1⟩
      refine z_cV (As := [.ref (cs (100 + 10))]) (rest := []) (ci := 9) C (c_X7_is l D A cs tt N ad _ (by omega) _ tp hruny10 _ skm10) (lt_K hN (rfl : Nat.blt (2) 952 = true)) hay2 hcdy1 rfl rfl mv_yX7_is q_754 hd_yX7_is (by decide) (Nat.le_of_ble_eq_true rfl) (by decide) dX7_readFall_29 rfl (kI0 fun vy11 gvy11 hvy11 => ?_)
      obtain ⟨hvy11, rfl⟩ := hvy11
      refine z_if_eq (tgt := 39) C dX7_readFall_32 (by decide) (by omega) (fun hby12 => ?_) (fun hby12 => ?_)
      · refine z_iconst (z := 0) C dX7_readFall_39 rfl ?_
        refine z_istore_n (lv' := [(1, .int (zI (0))), (0, .ref (ad 2))]) C dX7_readFall_40 rfl (by decide) rfl ?_
        refine z_iload_n C 0 dX7_readFall_41 rfl ?_
        refine z_if_eq (tgt := 49) C dX7_readFall_42 (by decide) (by omega) (fun _ => ?_) (fun h => absurd h (by omega))
        refine z_iload_n C 0 dX7_readFall_49 rfl ?_
        have hruny13 : okRun cs ad g (co) tp := ⟨_, _, _, _, _, _, _, by omega, by omega, hcdy1, hddy1⟩
        exact z_iret C hr hlk dX7_readFall_50 (by decide) (by decide) ⟨0, rfl, rfl, rfl, by omega, ⟨_, hruny13, by omega⟩, fun j j1 => by rfl⟩
      · refine z_iconst (z := 3) C dX7_readFall_35 rfl ?_
        refine z_goto (tgt := 40) C dX7_readFall_36 (by decide) ?_
        refine z_istore_n (lv' := [(1, .int (zI (3))), (0, .ref (ad 2))]) C dX7_readFall_40 rfl (by decide) rfl ?_
        refine z_iload_n C 0 dX7_readFall_41 rfl ?_
        refine z_if_eq (tgt := 49) C dX7_readFall_42 (by decide) (by omega) (fun h => absurd h (by omega)) (fun _ => ?_)
        refine z_aload_n C 1 dX7_readFall_45 rfl ?_
        have hruny14 : okRun cs ad g (co) tp := ⟨_, _, _, _, _, _, _, by omega, by omega, hcdy1, hddy1⟩
        refine z_cV (As := []) (rest := []) (ci := 9) C (c_X7_take l D A cs tt N ad _ (by omega) _ tp hruny14) (lt_K hN (rfl : Nat.blt (2) 952 = true)) hay2 hcdy1 rfl rfl mv_yX7_take q_813 hd_yX7_take (by decide) (Nat.le_of_ble_eq_true rfl) (by decide) dX7_readFall_46 rfl (kV0 fun gvy15 hvy15 => ?_)
        obtain ⟨hkvy15, hfvy15⟩ := hvy15
        obtain ⟨pldy16, endy16, tydy16, a9dy16, bedy16, tkdy16, tddy16, hAdy16, hTdy16, hcdy16, hddy16⟩ := id hkvy15
        refine z_iload_n C 0 dX7_readFall_49 rfl ?_
        have hruny17 : okRun cs ad gvy15 (co) tp := ⟨_, _, _, _, _, _, _, by omega, by omega, hcdy16, hddy16⟩
        exact z_iret C hr hlk dX7_readFall_50 (by decide) (by decide) ⟨3, rfl, rfl, rfl, by omega, ⟨_, hruny17, by omega⟩, fun j j1 => by rw [hfvy15 _ (by omega)]⟩
    · refine z_iconst (z := 2) C dX7_readFall_22 rfl ?_
      refine z_goto (tgt := 40) C dX7_readFall_23 (by decide) ?_
      refine z_istore_n (lv' := [(1, .int (zI (2))), (0, .ref (ad 2))]) C dX7_readFall_40 rfl (by decide) rfl ?_
      refine z_iload_n C 0 dX7_readFall_41 rfl ?_
      refine z_if_eq (tgt := 49) C dX7_readFall_42 (by decide) (by omega) (fun h => absurd h (by omega)) (fun _ => ?_)
      refine z_aload_n C 1 dX7_readFall_45 rfl ?_
      have hruny18 : okRun cs ad g (co) tp := ⟨_, _, _, _, _, _, _, by omega, by omega, hcdy1, hddy1⟩
      refine z_cV (As := []) (rest := []) (ci := 9) C (c_X7_take l D A cs tt N ad _ (by omega) _ tp hruny18) (lt_K hN (rfl : Nat.blt (2) 952 = true)) hay2 hcdy1 rfl rfl mv_yX7_take q_813 hd_yX7_take (by decide) (Nat.le_of_ble_eq_true rfl) (by decide) dX7_readFall_46 rfl (kV0 fun gvy19 hvy19 => ?_)
      obtain ⟨hkvy19, hfvy19⟩ := hvy19
      obtain ⟨pldy20, endy20, tydy20, a9dy20, bedy20, tkdy20, tddy20, hAdy20, hTdy20, hcdy20, hddy20⟩ := id hkvy19
      refine z_iload_n C 0 dX7_readFall_49 rfl ?_
      have hruny21 : okRun cs ad gvy19 (co) tp := ⟨_, _, _, _, _, _, _, by omega, by omega, hcdy20, hddy20⟩
      exact z_iret C hr hlk dX7_readFall_50 (by decide) (by decide) ⟨2, rfl, rfl, rfl, by omega, ⟨_, hruny21, by omega⟩, fun j j1 => by rw [hfvy19 _ (by omega)]⟩
  · refine z_iconst (z := 1) C dX7_readFall_9 rfl ?_
    refine z_goto (tgt := 40) C dX7_readFall_10 (by decide) ?_
    refine z_istore_n (lv' := [(1, .int (zI (1))), (0, .ref (ad 2))]) C dX7_readFall_40 rfl (by decide) rfl ?_
    refine z_iload_n C 0 dX7_readFall_41 rfl ?_
    refine z_if_eq (tgt := 49) C dX7_readFall_42 (by decide) (by omega) (fun h => absurd h (by omega)) (fun _ => ?_)
    refine z_aload_n C 1 dX7_readFall_45 rfl ?_
    have hruny22 : okRun cs ad g (co) tp := ⟨_, _, _, _, _, _, _, by omega, by omega, hcdy1, hddy1⟩
    refine z_cV (As := []) (rest := []) (ci := 9) C (c_X7_take l D A cs tt N ad _ (by omega) _ tp hruny22) (lt_K hN (rfl : Nat.blt (2) 952 = true)) hay2 hcdy1 rfl rfl mv_yX7_take q_813 hd_yX7_take (by decide) (Nat.le_of_ble_eq_true rfl) (by decide) dX7_readFall_46 rfl (kV0 fun gvy23 hvy23 => ?_)
    obtain ⟨hkvy23, hfvy23⟩ := hvy23
    obtain ⟨pldy24, endy24, tydy24, a9dy24, bedy24, tkdy24, tddy24, hAdy24, hTdy24, hcdy24, hddy24⟩ := id hkvy23
    refine z_iload_n C 0 dX7_readFall_49 rfl ?_
    have hruny25 : okRun cs ad gvy23 (co) tp := ⟨_, _, _, _, _, _, _, by omega, by omega, hcdy24, hddy24⟩
    exact z_iret C hr hlk dX7_readFall_50 (by decide) (by decide) ⟨1, rfl, rfl, rfl, by omega, ⟨_, hruny25, by omega⟩, fun j j1 => by rw [hfvy23 _ (by omega)]⟩
end
section
-- 62.words.lean.txt
-- words of digit
theorem q_1104 : (Jvm.Cond.fieldLink "java/lang/Integer" (83 : Nat) "java/lang/Integer" "DigitOnes" "[B") ∈ AW := AW_m5 144 (by decide +kernel) (by decide +kernel)
theorem q_1106 : (Jvm.Cond.fieldLink "java/lang/Integer" (87 : Nat) "java/lang/Integer" "DigitTens" "[B") ∈ AW := AW_m5 146 (by decide +kernel) (by decide +kernel)
end
section
-- 63.dec.lean.txt
-- decode rows of digit
theorem dJ6_stringSize_0f7a4_0 : decode cJ6_stringSize_0f7a4 0 = .ok (.iconst 1, 1) := by decide +kernel
theorem dJ6_stringSize_0f7a4_1 : decode cJ6_stringSize_0f7a4 1 = .ok (.istore_n 1, 1) := by decide +kernel
theorem dJ6_stringSize_0f7a4_2 : decode cJ6_stringSize_0f7a4 2 = .ok (.iload_n 0, 1) := by decide +kernel
theorem dJ6_stringSize_0f7a4_3 : decode cJ6_stringSize_0f7a4 3 = .ok (.ifCond .lt 8, 3) := by decide +kernel
theorem dJ6_stringSize_0f7a4_11 : decode cJ6_stringSize_0f7a4 11 = .ok (.bipush (-10), 2) := by decide +kernel
theorem dJ6_stringSize_0f7a4_13 : decode cJ6_stringSize_0f7a4 13 = .ok (.istore_n 2, 1) := by decide +kernel
theorem dJ6_stringSize_0f7a4_14 : decode cJ6_stringSize_0f7a4 14 = .ok (.iconst 1, 1) := by decide +kernel
theorem dJ6_stringSize_0f7a4_15 : decode cJ6_stringSize_0f7a4 15 = .ok (.istore_n 3, 1) := by decide +kernel
theorem dJ6_stringSize_0f7a4_16 : decode cJ6_stringSize_0f7a4 16 = .ok (.iload_n 3, 1) := by decide +kernel
theorem dJ6_stringSize_0f7a4_17 : decode cJ6_stringSize_0f7a4 17 = .ok (.bipush 10, 2) := by decide +kernel
theorem dJ6_stringSize_0f7a4_19 : decode cJ6_stringSize_0f7a4 19 = .ok (.if_icmp .ge 23, 3) := by decide +kernel
theorem dJ6_stringSize_0f7a4_22 : decode cJ6_stringSize_0f7a4 22 = .ok (.iload_n 0, 1) := by decide +kernel
theorem dJ6_stringSize_0f7a4_23 : decode cJ6_stringSize_0f7a4 23 = .ok (.iload_n 2, 1) := by decide +kernel
theorem dJ6_stringSize_0f7a4_24 : decode cJ6_stringSize_0f7a4 24 = .ok (.if_icmp .le 7, 3) := by decide +kernel
theorem dJ6_stringSize_0f7a4_31 : decode cJ6_stringSize_0f7a4 31 = .ok (.bipush 10, 2) := by decide +kernel
theorem dJ6_stringSize_0f7a4_33 : decode cJ6_stringSize_0f7a4 33 = .ok (.iload_n 2, 1) := by decide +kernel
theorem dJ6_stringSize_0f7a4_34 : decode cJ6_stringSize_0f7a4 34 = .ok (.imul, 1) := by decide +kernel
theorem dJ6_stringSize_0f7a4_35 : decode cJ6_stringSize_0f7a4 35 = .ok (.istore_n 2, 1) := by decide +kernel
theorem dJ6_stringSize_0f7a4_36 : decode cJ6_stringSize_0f7a4 36 = .ok (.iinc 3 1, 3) := by decide +kernel
theorem dJ6_stringSize_0f7a4_39 : decode cJ6_stringSize_0f7a4 39 = .ok (.goto (-23), 3) := by decide +kernel
theorem dJ6_stringSize_0f7a4_42 : decode cJ6_stringSize_0f7a4 42 = .ok (.bipush 10, 2) := by decide +kernel
theorem dJ6_stringSize_0f7a4_44 : decode cJ6_stringSize_0f7a4 44 = .ok (.iload_n 1, 1) := by decide +kernel
theorem dJ6_stringSize_0f7a4_45 : decode cJ6_stringSize_0f7a4 45 = .ok (.iadd, 1) := by decide +kernel
theorem dJ6_stringSize_0f7a4_46 : decode cJ6_stringSize_0f7a4 46 = .ok (.ireturn, 1) := by decide +kernel
theorem dJ6_stringSize_0f7a4_27 : decode cJ6_stringSize_0f7a4 27 = .ok (.iload_n 3, 1) := by decide +kernel
theorem dJ6_stringSize_0f7a4_28 : decode cJ6_stringSize_0f7a4 28 = .ok (.iload_n 1, 1) := by decide +kernel
theorem dJ6_stringSize_0f7a4_29 : decode cJ6_stringSize_0f7a4 29 = .ok (.iadd, 1) := by decide +kernel
theorem dJ6_stringSize_0f7a4_30 : decode cJ6_stringSize_0f7a4 30 = .ok (.ireturn, 1) := by decide +kernel
theorem dJ6_stringSize_0f7a4_6 : decode cJ6_stringSize_0f7a4 6 = .ok (.iconst 0, 1) := by decide +kernel
theorem dJ6_stringSize_0f7a4_7 : decode cJ6_stringSize_0f7a4 7 = .ok (.istore_n 1, 1) := by decide +kernel
theorem dJ6_stringSize_0f7a4_8 : decode cJ6_stringSize_0f7a4 8 = .ok (.iload_n 0, 1) := by decide +kernel
theorem dJ6_stringSize_0f7a4_9 : decode cJ6_stringSize_0f7a4 9 = .ok (.ineg, 1) := by decide +kernel
theorem dJ6_stringSize_0f7a4_10 : decode cJ6_stringSize_0f7a4 10 = .ok (.istore_n 0, 1) := by decide +kernel
theorem dJ6_getChars_ba4f3_0 : decode cJ6_getChars_ba4f3 0 = .ok (.iload_n 1, 1) := by decide +kernel
theorem dJ6_getChars_ba4f3_1 : decode cJ6_getChars_ba4f3 1 = .ok (.istore 5, 2) := by decide +kernel
theorem dJ6_getChars_ba4f3_3 : decode cJ6_getChars_ba4f3 3 = .ok (.iload_n 0, 1) := by decide +kernel
theorem dJ6_getChars_ba4f3_4 : decode cJ6_getChars_ba4f3 4 = .ok (.ifCond .ge 7, 3) := by decide +kernel
theorem dJ6_getChars_ba4f3_11 : decode cJ6_getChars_ba4f3 11 = .ok (.iconst 0, 1) := by decide +kernel
theorem dJ6_getChars_ba4f3_12 : decode cJ6_getChars_ba4f3 12 = .ok (.istore 6, 2) := by decide +kernel
theorem dJ6_getChars_ba4f3_14 : decode cJ6_getChars_ba4f3 14 = .ok (.iload 6, 2) := by decide +kernel
theorem dJ6_getChars_ba4f3_16 : decode cJ6_getChars_ba4f3 16 = .ok (.ifCond .ne 6, 3) := by decide +kernel
theorem dJ6_getChars_ba4f3_19 : decode cJ6_getChars_ba4f3 19 = .ok (.iload_n 0, 1) := by decide +kernel
theorem dJ6_getChars_ba4f3_20 : decode cJ6_getChars_ba4f3 20 = .ok (.ineg, 1) := by decide +kernel
theorem dJ6_getChars_ba4f3_21 : decode cJ6_getChars_ba4f3 21 = .ok (.istore_n 0, 1) := by decide +kernel
theorem dJ6_getChars_ba4f3_22 : decode cJ6_getChars_ba4f3 22 = .ok (.iload_n 0, 1) := by decide +kernel
theorem dJ6_getChars_ba4f3_23 : decode cJ6_getChars_ba4f3 23 = .ok (.bipush (-100), 2) := by decide +kernel
theorem dJ6_getChars_ba4f3_25 : decode cJ6_getChars_ba4f3 25 = .ok (.if_icmp .gt 47, 3) := by decide +kernel
theorem dJ6_getChars_ba4f3_72 : decode cJ6_getChars_ba4f3 72 = .ok (.aload_n 2, 1) := by decide +kernel
theorem dJ6_getChars_ba4f3_73 : decode cJ6_getChars_ba4f3 73 = .ok (.iinc 5 (-1), 3) := by decide +kernel
theorem dJ6_getChars_ba4f3_76 : decode cJ6_getChars_ba4f3 76 = .ok (.iload 5, 2) := by decide +kernel
theorem dJ6_getChars_ba4f3_78 : decode cJ6_getChars_ba4f3 78 = .ok (.getstatic 83, 3) := by decide +kernel
theorem dJ6_getChars_ba4f3_81 : decode cJ6_getChars_ba4f3 81 = .ok (.iload_n 0, 1) := by decide +kernel
theorem dJ6_getChars_ba4f3_82 : decode cJ6_getChars_ba4f3 82 = .ok (.ineg, 1) := by decide +kernel
theorem dJ6_getChars_ba4f3_83 : decode cJ6_getChars_ba4f3 83 = .ok (.baload, 1) := by decide +kernel
theorem dJ6_getChars_ba4f3_84 : decode cJ6_getChars_ba4f3 84 = .ok (.bastore, 1) := by decide +kernel
theorem dJ6_getChars_ba4f3_85 : decode cJ6_getChars_ba4f3 85 = .ok (.iload_n 0, 1) := by decide +kernel
theorem dJ6_getChars_ba4f3_86 : decode cJ6_getChars_ba4f3 86 = .ok (.bipush (-9), 2) := by decide +kernel
theorem dJ6_getChars_ba4f3_88 : decode cJ6_getChars_ba4f3 88 = .ok (.if_icmp .ge 16, 3) := by decide +kernel
theorem dJ6_getChars_ba4f3_104 : decode cJ6_getChars_ba4f3 104 = .ok (.iload 6, 2) := by decide +kernel
theorem dJ6_getChars_ba4f3_106 : decode cJ6_getChars_ba4f3 106 = .ok (.ifCond .eq 12, 3) := by decide +kernel
theorem dJ6_getChars_ba4f3_118 : decode cJ6_getChars_ba4f3 118 = .ok (.iload 5, 2) := by decide +kernel
theorem dJ6_getChars_ba4f3_120 : decode cJ6_getChars_ba4f3 120 = .ok (.ireturn, 1) := by decide +kernel
theorem dJ6_getChars_ba4f3_91 : decode cJ6_getChars_ba4f3 91 = .ok (.aload_n 2, 1) := by decide +kernel
theorem dJ6_getChars_ba4f3_92 : decode cJ6_getChars_ba4f3 92 = .ok (.iinc 5 (-1), 3) := by decide +kernel
theorem dJ6_getChars_ba4f3_95 : decode cJ6_getChars_ba4f3 95 = .ok (.iload 5, 2) := by decide +kernel
theorem dJ6_getChars_ba4f3_97 : decode cJ6_getChars_ba4f3 97 = .ok (.getstatic 87, 3) := by decide +kernel
theorem dJ6_getChars_ba4f3_100 : decode cJ6_getChars_ba4f3 100 = .ok (.iload_n 0, 1) := by decide +kernel
theorem dJ6_getChars_ba4f3_101 : decode cJ6_getChars_ba4f3 101 = .ok (.ineg, 1) := by decide +kernel
theorem dJ6_getChars_ba4f3_102 : decode cJ6_getChars_ba4f3 102 = .ok (.baload, 1) := by decide +kernel
theorem dJ6_getChars_ba4f3_103 : decode cJ6_getChars_ba4f3 103 = .ok (.bastore, 1) := by decide +kernel
theorem dJ6_getChars_ba4f3_28 : decode cJ6_getChars_ba4f3 28 = .ok (.iload_n 0, 1) := by decide +kernel
theorem dJ6_getChars_ba4f3_29 : decode cJ6_getChars_ba4f3 29 = .ok (.bipush 100, 2) := by decide +kernel
theorem dJ6_getChars_ba4f3_31 : decode cJ6_getChars_ba4f3 31 = .ok (.idiv, 1) := by decide +kernel
theorem dJ6_getChars_ba4f3_32 : decode cJ6_getChars_ba4f3 32 = .ok (.istore_n 3, 1) := by decide +kernel
theorem dJ6_getChars_ba4f3_33 : decode cJ6_getChars_ba4f3 33 = .ok (.iload_n 3, 1) := by decide +kernel
theorem dJ6_getChars_ba4f3_34 : decode cJ6_getChars_ba4f3 34 = .ok (.bipush 100, 2) := by decide +kernel
theorem dJ6_getChars_ba4f3_36 : decode cJ6_getChars_ba4f3 36 = .ok (.imul, 1) := by decide +kernel
theorem dJ6_getChars_ba4f3_37 : decode cJ6_getChars_ba4f3 37 = .ok (.iload_n 0, 1) := by decide +kernel
theorem dJ6_getChars_ba4f3_38 : decode cJ6_getChars_ba4f3 38 = .ok (.isub, 1) := by decide +kernel
theorem dJ6_getChars_ba4f3_39 : decode cJ6_getChars_ba4f3 39 = .ok (.istore 4, 2) := by decide +kernel
theorem dJ6_getChars_ba4f3_41 : decode cJ6_getChars_ba4f3 41 = .ok (.iload_n 3, 1) := by decide +kernel
theorem dJ6_getChars_ba4f3_42 : decode cJ6_getChars_ba4f3 42 = .ok (.istore_n 0, 1) := by decide +kernel
theorem dJ6_getChars_ba4f3_43 : decode cJ6_getChars_ba4f3 43 = .ok (.aload_n 2, 1) := by decide +kernel
theorem dJ6_getChars_ba4f3_44 : decode cJ6_getChars_ba4f3 44 = .ok (.iinc 5 (-1), 3) := by decide +kernel
theorem dJ6_getChars_ba4f3_47 : decode cJ6_getChars_ba4f3 47 = .ok (.iload 5, 2) := by decide +kernel
theorem dJ6_getChars_ba4f3_49 : decode cJ6_getChars_ba4f3 49 = .ok (.getstatic 83, 3) := by decide +kernel
theorem dJ6_getChars_ba4f3_52 : decode cJ6_getChars_ba4f3 52 = .ok (.iload 4, 2) := by decide +kernel
theorem dJ6_getChars_ba4f3_54 : decode cJ6_getChars_ba4f3 54 = .ok (.baload, 1) := by decide +kernel
theorem dJ6_getChars_ba4f3_55 : decode cJ6_getChars_ba4f3 55 = .ok (.bastore, 1) := by decide +kernel
theorem dJ6_getChars_ba4f3_56 : decode cJ6_getChars_ba4f3 56 = .ok (.aload_n 2, 1) := by decide +kernel
theorem dJ6_getChars_ba4f3_57 : decode cJ6_getChars_ba4f3 57 = .ok (.iinc 5 (-1), 3) := by decide +kernel
theorem dJ6_getChars_ba4f3_60 : decode cJ6_getChars_ba4f3 60 = .ok (.iload 5, 2) := by decide +kernel
theorem dJ6_getChars_ba4f3_62 : decode cJ6_getChars_ba4f3 62 = .ok (.getstatic 87, 3) := by decide +kernel
theorem dJ6_getChars_ba4f3_65 : decode cJ6_getChars_ba4f3 65 = .ok (.iload 4, 2) := by decide +kernel
theorem dJ6_getChars_ba4f3_67 : decode cJ6_getChars_ba4f3 67 = .ok (.baload, 1) := by decide +kernel
theorem dJ6_getChars_ba4f3_68 : decode cJ6_getChars_ba4f3 68 = .ok (.bastore, 1) := by decide +kernel
theorem dJ6_getChars_ba4f3_69 : decode cJ6_getChars_ba4f3 69 = .ok (.goto (-47), 3) := by decide +kernel
theorem dJ6_getChars_ba4f3_7 : decode cJ6_getChars_ba4f3 7 = .ok (.iconst 1, 1) := by decide +kernel
theorem dJ6_getChars_ba4f3_8 : decode cJ6_getChars_ba4f3 8 = .ok (.goto 4, 3) := by decide +kernel
theorem dJ6_getChars_ba4f3_109 : decode cJ6_getChars_ba4f3 109 = .ok (.aload_n 2, 1) := by decide +kernel
theorem dJ6_getChars_ba4f3_110 : decode cJ6_getChars_ba4f3 110 = .ok (.iinc 5 (-1), 3) := by decide +kernel
theorem dJ6_getChars_ba4f3_113 : decode cJ6_getChars_ba4f3 113 = .ok (.iload 5, 2) := by decide +kernel
theorem dJ6_getChars_ba4f3_115 : decode cJ6_getChars_ba4f3 115 = .ok (.bipush 45, 2) := by decide +kernel
theorem dJ6_getChars_ba4f3_117 : decode cJ6_getChars_ba4f3 117 = .ok (.bastore, 1) := by decide +kernel
end
section
-- 64.digit.lean.txt
def sq0 : String × String × Nat × List Int32 := ("SnowRecorderModel", "KNOWN", 0, [115, 108, 111, 112, 101, 32, 108, 97, 121, 101, 114, 32, 104, 111, 117, 114, 32, 115, 110, 111, 119, 32, 114, 97, 105, 110, 32, 104, 111, 97, 114, 32, 115, 116, 114, 111, 110, 103, 32, 104, 111, 108, 100, 115, 32, 115, 116, 105, 102, 102, 32, 112, 111, 119, 100, 101, 114, 32, 103, 114, 97, 105, 110, 115, 32, 102, 97, 99, 101, 116, 115, 32, 99, 114, 117, 115, 116, 32])
theorem stm0 : sq0 ∈ STL := List.mem_of_getElem? (i := 0) rfl
theorem stl0 : sq0.2.2.2.length = 78 := rfl
def sq1 : String × String × Nat × List Int32 := ("java/lang/Integer", "DigitOnes", 1, [48, 49, 50, 51, 52, 53, 54, 55, 56, 57, 48, 49, 50, 51, 52, 53, 54, 55, 56, 57, 48, 49, 50, 51, 52, 53, 54, 55, 56, 57, 48, 49, 50, 51, 52, 53, 54, 55, 56, 57, 48, 49, 50, 51, 52, 53, 54, 55, 56, 57, 48, 49, 50, 51, 52, 53, 54, 55, 56, 57, 48, 49, 50, 51, 52, 53, 54, 55, 56, 57, 48, 49, 50, 51, 52, 53, 54, 55, 56, 57, 48, 49, 50, 51, 52, 53, 54, 55, 56, 57, 48, 49, 50, 51, 52, 53, 54, 55, 56, 57])
theorem stm1 : sq1 ∈ STL := List.mem_of_getElem? (i := 1) rfl
theorem stl1 : sq1.2.2.2.length = 100 := rfl
def sq2 : String × String × Nat × List Int32 := ("java/lang/Integer", "DigitTens", 2, [48, 48, 48, 48, 48, 48, 48, 48, 48, 48, 49, 49, 49, 49, 49, 49, 49, 49, 49, 49, 50, 50, 50, 50, 50, 50, 50, 50, 50, 50, 51, 51, 51, 51, 51, 51, 51, 51, 51, 51, 52, 52, 52, 52, 52, 52, 52, 52, 52, 52, 53, 53, 53, 53, 53, 53, 53, 53, 53, 53, 54, 54, 54, 54, 54, 54, 54, 54, 54, 54, 55, 55, 55, 55, 55, 55, 55, 55, 55, 55, 56, 56, 56, 56, 56, 56, 56, 56, 56, 56, 57, 57, 57, 57, 57, 57, 57, 57, 57, 57])
theorem stm2 : sq2 ∈ STL := List.mem_of_getElem? (i := 2) rfl
theorem stl2 : sq2.2.2.2.length = 100 := rfl
theorem stv1 : ∀ x ∈ sq1.2.2.2, 48 ≤ x.toInt ∧ x.toInt ≤ 57 := by decide
theorem stv2 : ∀ x ∈ sq2.2.2.2, 48 ≤ x.toInt ∧ x.toInt ≤ 57 := by decide
theorem getD_b {L : List Int32} (h : ∀ x ∈ L, 48 ≤ x.toInt ∧ x.toInt ≤ 57) {j : Nat} (hj : j < L.length) : ∃ y : Int, L.getD j 0 = zI y ∧ 48 ≤ y ∧ y ≤ 57 := by
  have e : L.getD j 0 = L[j] := by simp [List.getD, hj]
  exact ⟨(L.getD j 0).toInt, (Int32.ofInt_toInt _).symm, by rw [e]; exact (h _ (List.getElem_mem hj)).1, by rw [e]; exact (h _ (List.getElem_mem hj)).2⟩
theorem tdn {a : Int} (h : a ≤ 0) : ∃ x, a.tdiv 100 = x ∧ a ≤ 100 * x ∧ 100 * x ≤ a + 99 ∧ x ≤ 0 := by
  obtain ⟨n, hn⟩ := Int.eq_ofNat_of_zero_le (show 0 ≤ -a by omega)
  have e : a = -(n : Int) := by omega
  subst e
  refine ⟨_, rfl, ?_⟩
  rw [Int.neg_tdiv, Int.tdiv_eq_ediv_of_nonneg (by omega)]
  omega
theorem uB {r : Nat → Int} {k : Nat} {v : Int} (h : ∀ j, -128 ≤ r j ∧ r j ≤ 127) (hv : -128 ≤ v ∧ v ≤ 127) : ∀ j, -128 ≤ uZ r k v j ∧ uZ r k v j ≤ 127 := fun j => by
  by_cases e : j = k
  · rw [e, uZ_s]; exact hv
  · rw [uZ_n _ _ e]; exact h j
section ZST
variable {p : Program} {l : Launch} {e : Env} {R : Room} {s : State} {m : MethodId} {args : Array Value} {below : List Frame} {meth : Method} {c : Code} {Q : State → Prop} {D : va_G} {A : Nat → Prop} {cs : Nat → ClassId} {tt : Nat} {cc : ByteArray} {nL : Nat} {own : String} {N : Nat} {ad : Nat → Nat} {g : Nat → va_E} {k n pc : Nat} {lv lv' : List (Nat × Value)} {rest : List Value} {q : String × String × Nat × List Int32}
theorem z_getSt (C : zC p s m args c cc nL own D A cs tt) (hq : q ∈ STL) {idx : Nat} (hlk : Cond.fieldLink own idx q.1 q.2.1 "[B" ∈ AW) (hdg : decode cc pc = .ok (.getstatic idx, 3)) (kk : zV p l e R s m args below meth c Q D A nL N ad g k n (pc + 3) (lv) (.ref (cs (300 + q.2.2.1)) :: rest)) : zV p l e R s m args below meth c Q D A nL N ad g k n (pc) (lv) (rest) := fun H locs ls hP hD hS hl => va_gets C.1 C.2.1 (C.S.2.1 q hq).1 hS C.2.2.2.1 (C.2.2.2.2.1 _ hlk) (fun _ h => h) hdg (kk H locs ls hP hD hS hl)
theorem z_stbald (C : zC p s m args c cc nL own D A cs tt) (hq : q ∈ STL) (j : Nat) {z y : Int} (hz : z = (j : Int)) (hj : j < q.2.2.2.length) (hL : q.2.2.2.length ≤ 2147483647) (hv : q.2.2.2.getD j 0 = zI y) (hdg : decode cc pc = .ok (.baload, 1)) (kk : zV p l e R s m args below meth c Q D A nL N ad g k n (pc + 1) (lv) (.int (zI y) :: rest)) : zV p l e R s m args below meth c Q D A nL N ad g k n (pc) (lv) (.int (zI z) :: .ref (cs (300 + q.2.2.1)) :: rest) := fun H locs ls hP hD hS hl => by
  subst hz
  exact va_tb C.1 C.2.1 (C.S.2.1 q hq).2 hS (zI_in hj hL) (show Value.int (q.2.2.2.getD (zI (j : Int)).toNatClampNeg 0) = .int (zI y) by rw [zI_clN (by omega), hv]) hdg (kk H locs ls hP hD hS hl)
end ZST

set_option maxRecDepth 100000 in
set_option maxHeartbeats 4000000 in
theorem c_strSize (l : Launch) (D : va_G) (A : Nat → Prop) (cs : Nat → ClassId) (tt : Nat) (N : Nat) (ad : Nat → Nat) (g : Nat → va_E) (z : Int) (hz : -2147483648 ≤ z ∧ z ≤ 2147483647) : zM l yJ6_stringSize_0f7a4 cJ6_stringSize_0f7a4 4 (some .int) ({ frames := 1, cells := 0, slots := 0, locals := 60 } : Room) D A cs tt N ad g [.int (zI (z))] (rI0 N ad fun r g' => (1 ≤ r ∧ r ≤ 11) ∧ ((0 ≤ z ∧ ((1 ≤ r ∧ -10 < -(z)) ∨ (2 ≤ r ∧ -100 < -(z)) ∨ (3 ≤ r ∧ -1000 < -(z)) ∨ (4 ≤ r ∧ -10000 < -(z)) ∨ (5 ≤ r ∧ -100000 < -(z)) ∨ (6 ≤ r ∧ -1000000 < -(z)) ∨ (7 ≤ r ∧ -10000000 < -(z)) ∨ (8 ≤ r ∧ -100000000 < -(z)) ∨ (9 ≤ r ∧ -1000000000 < -(z)) ∨ (10 ≤ r ∧ -10000000000 < -(z)))) ∨ (z < 0 ∧ ((1 ≤ r - 1 ∧ -10 < z) ∨ (2 ≤ r - 1 ∧ -100 < z) ∨ (3 ≤ r - 1 ∧ -1000 < z) ∨ (4 ≤ r - 1 ∧ -10000 < z) ∨ (5 ≤ r - 1 ∧ -100000 < z) ∨ (6 ≤ r - 1 ∧ -1000000 < z) ∨ (7 ≤ r - 1 ∧ -10000000 < z) ∨ (8 ≤ r - 1 ∧ -100000000 < z) ∨ (9 ≤ r - 1 ∧ -1000000000 < z) ∨ (10 ≤ r - 1 ∧ -10000000000 < z)))) ∧ g = g') := by
  refine z_of (by decide) (Nat.le_of_ble_eq_true rfl) ?_
  intro p e s m below meth c C hr hlk hnm
  refine z_lv (lv' := [(0, .int (zI (z)))]) [0] rfl ?_
  refine z_iconst (z := 1) C dJ6_stringSize_0f7a4_0 rfl ?_
  refine z_istore_n (lv' := [(1, .int (zI (1))), (0, .int (zI (z)))]) C dJ6_stringSize_0f7a4_1 rfl (by decide) rfl ?_
  refine z_iload_n C 1 dJ6_stringSize_0f7a4_2 rfl ?_
  refine z_if_lt (tgt := 11) C dJ6_stringSize_0f7a4_3 (by decide) (by omega) (fun hby1 => ?_) (fun hby1 => ?_)
  · refine z_bipush (z := -10) C dJ6_stringSize_0f7a4_11 (by decide) ?_
    refine z_istore_n (lv' := [(2, .int (zI (-10))), (1, .int (zI (1))), (0, .int (zI (z)))]) C dJ6_stringSize_0f7a4_13 rfl (by decide) rfl ?_
    refine z_iconst (z := 1) C dJ6_stringSize_0f7a4_14 rfl ?_
    refine z_istore_n (lv' := [(3, .int (zI (1))), (2, .int (zI (-10))), (1, .int (zI (1))), (0, .int (zI (z)))]) C dJ6_stringSize_0f7a4_15 rfl (by decide) rfl ?_
    refine z_iload_n C 0 dJ6_stringSize_0f7a4_16 rfl ?_
    refine z_bipush (z := 10) C dJ6_stringSize_0f7a4_17 (by decide) ?_
    refine z_icmp_ge (tgt := 42) C dJ6_stringSize_0f7a4_19 (by decide) (by omega) (by omega) (fun h => absurd h (by omega)) (fun _ => ?_)
    refine z_iload_n C 3 dJ6_stringSize_0f7a4_22 rfl ?_
    refine z_iload_n C 1 dJ6_stringSize_0f7a4_23 rfl ?_
    refine z_icmp_le (tgt := 31) C dJ6_stringSize_0f7a4_24 (by decide) (by omega) (by omega) (fun hby2 => ?_) (fun hby2 => ?_)
    · refine z_bipush (z := 10) C dJ6_stringSize_0f7a4_31 (by decide) ?_
      refine z_iload_n C 1 dJ6_stringSize_0f7a4_33 rfl ?_
      refine z_imul C dJ6_stringSize_0f7a4_34 ?_
      refine z_istore_n (lv' := [(2, .int (zI (10 * (-10)))), (3, .int (zI (1))), (1, .int (zI (1))), (0, .int (zI (z)))]) C dJ6_stringSize_0f7a4_35 rfl (by decide) rfl ?_
      refine z_iinc (z := 2) (lv' := [(3, .int (zI (2))), (2, .int (zI (10 * (-10)))), (1, .int (zI (1))), (0, .int (zI (z)))]) (j := 1) C dJ6_stringSize_0f7a4_36 rfl (congrArg zI (by omega)) (by decide) rfl ?_
      refine z_goto (tgt := 16) C dJ6_stringSize_0f7a4_39 (by decide) ?_
      refine z_iload_n C 0 dJ6_stringSize_0f7a4_16 rfl ?_
      refine z_bipush (z := 10) C dJ6_stringSize_0f7a4_17 (by decide) ?_
      refine z_icmp_ge (tgt := 42) C dJ6_stringSize_0f7a4_19 (by decide) (by omega) (by omega) (fun h => absurd h (by omega)) (fun _ => ?_)
      refine z_iload_n C 3 dJ6_stringSize_0f7a4_22 rfl ?_
      refine z_iload_n C 1 dJ6_stringSize_0f7a4_23 rfl ?_
      refine z_icmp_le (tgt := 31) C dJ6_stringSize_0f7a4_24 (by decide) (by omega) (by omega) (fun hby3 => ?_) (fun hby3 => ?_)
      · refine z_bipush (z := 10) C dJ6_stringSize_0f7a4_31 (by decide) ?_
        refine z_iload_n C 1 dJ6_stringSize_0f7a4_33 rfl ?_
        refine z_imul C dJ6_stringSize_0f7a4_34 ?_
        refine z_istore_n (lv' := [(2, .int (zI (10 * (10 * (-10))))), (3, .int (zI (2))), (1, .int (zI (1))), (0, .int (zI (z)))]) C dJ6_stringSize_0f7a4_35 rfl (by decide) rfl ?_
        refine z_iinc (z := 3) (lv' := [(3, .int (zI (3))), (2, .int (zI (10 * (10 * (-10))))), (1, .int (zI (1))), (0, .int (zI (z)))]) (j := 1) C dJ6_stringSize_0f7a4_36 rfl (congrArg zI (by omega)) (by decide) rfl ?_
        refine z_goto (tgt := 16) C dJ6_stringSize_0f7a4_39 (by decide) ?_
        refine z_iload_n C 0 dJ6_stringSize_0f7a4_16 rfl ?_
        refine z_bipush (z := 10) C dJ6_stringSize_0f7a4_17 (by decide) ?_
        refine z_icmp_ge (tgt := 42) C dJ6_stringSize_0f7a4_19 (by decide) (by omega) (by omega) (fun h => absurd h (by omega)) (fun _ => ?_)
        refine z_iload_n C 3 dJ6_stringSize_0f7a4_22 rfl ?_
        refine z_iload_n C 1 dJ6_stringSize_0f7a4_23 rfl ?_
        refine z_icmp_le (tgt := 31) C dJ6_stringSize_0f7a4_24 (by decide) (by omega) (by omega) (fun hby4 => ?_) (fun hby4 => ?_)
        · refine z_bipush (z := 10) C dJ6_stringSize_0f7a4_31 (by decide) ?_
          refine z_iload_n C 1 dJ6_stringSize_0f7a4_33 rfl ?_
          refine z_imul C dJ6_stringSize_0f7a4_34 ?_
          refine z_istore_n (lv' := [(2, .int (zI (10 * (10 * (10 * (-10)))))), (3, .int (zI (3))), (1, .int (zI (1))), (0, .int (zI (z)))]) C dJ6_stringSize_0f7a4_35 rfl (by decide) rfl ?_
          refine z_iinc (z := 4) (lv' := [(3, .int (zI (4))), (2, .int (zI (10 * (10 * (10 * (-10)))))), (1, .int (zI (1))), (0, .int (zI (z)))]) (j := 1) C dJ6_stringSize_0f7a4_36 rfl (congrArg zI (by omega)) (by decide) rfl ?_
          refine z_goto (tgt := 16) C dJ6_stringSize_0f7a4_39 (by decide) ?_
          refine z_iload_n C 0 dJ6_stringSize_0f7a4_16 rfl ?_
          refine z_bipush (z := 10) C dJ6_stringSize_0f7a4_17 (by decide) ?_
          refine z_icmp_ge (tgt := 42) C dJ6_stringSize_0f7a4_19 (by decide) (by omega) (by omega) (fun h => absurd h (by omega)) (fun _ => ?_)
          refine z_iload_n C 3 dJ6_stringSize_0f7a4_22 rfl ?_
          refine z_iload_n C 1 dJ6_stringSize_0f7a4_23 rfl ?_
          refine z_icmp_le (tgt := 31) C dJ6_stringSize_0f7a4_24 (by decide) (by omega) (by omega) (fun hby5 => ?_) (fun hby5 => ?_)
          · refine z_bipush (z := 10) C dJ6_stringSize_0f7a4_31 (by decide) ?_
            refine z_iload_n C 1 dJ6_stringSize_0f7a4_33 rfl ?_
            refine z_imul C dJ6_stringSize_0f7a4_34 ?_
            refine z_istore_n (lv' := [(2, .int (zI (10 * (10 * (10 * (10 * (-10))))))), (3, .int (zI (4))), (1, .int (zI (1))), (0, .int (zI (z)))]) C dJ6_stringSize_0f7a4_35 rfl (by decide) rfl ?_
            refine z_iinc (z := 5) (lv' := [(3, .int (zI (5))), (2, .int (zI (10 * (10 * (10 * (10 * (-10))))))), (1, .int (zI (1))), (0, .int (zI (z)))]) (j := 1) C dJ6_stringSize_0f7a4_36 rfl (congrArg zI (by omega)) (by decide) rfl ?_
            refine z_goto (tgt := 16) C dJ6_stringSize_0f7a4_39 (by decide) ?_
            refine z_iload_n C 0 dJ6_stringSize_0f7a4_16 rfl ?_
            refine z_bipush (z := 10) C dJ6_stringSize_0f7a4_17 (by decide) ?_
            refine z_icmp_ge (tgt := 42) C dJ6_stringSize_0f7a4_19 (by decide) (by omega) (by omega) (fun h => absurd h (by omega)) (fun _ => ?_)
            refine z_iload_n C 3 dJ6_stringSize_0f7a4_22 rfl ?_
            refine z_iload_n C 1 dJ6_stringSize_0f7a4_23 rfl ?_
            refine z_icmp_le (tgt := 31) C dJ6_stringSize_0f7a4_24 (by decide) (by omega) (by omega) (fun hby6 => ?_) (fun hby6 => ?_)
            · refine z_bipush (z := 10) C dJ6_stringSize_0f7a4_31 (by decide) ?_
              refine z_iload_n C 1 dJ6_stringSize_0f7a4_33 rfl ?_
              refine z_imul C dJ6_stringSize_0f7a4_34 ?_
              refine z_istore_n (lv' := [(2, .int (zI (10 * (10 * (10 * (10 * (10 * (-10)))))))), (3, .int (zI (5))), (1, .int (zI (1))), (0, .int (zI (z)))]) C dJ6_stringSize_0f7a4_35 rfl (by decide) rfl ?_
              refine z_iinc (z := 6) (lv' := [(3, .int (zI (6))), (2, .int (zI (10 * (10 * (10 * (10 * (10 * (-10)))))))), (1, .int (zI (1))), (0, .int (zI (z)))]) (j := 1) C dJ6_stringSize_0f7a4_36 rfl (congrArg zI (by omega)) (by decide) rfl ?_
              refine z_goto (tgt := 16) C dJ6_stringSize_0f7a4_39 (by decide) ?_
              refine z_iload_n C 0 dJ6_stringSize_0f7a4_16 rfl ?_
              refine z_bipush (z := 10) C dJ6_stringSize_0f7a4_17 (by decide) ?_
              refine z_icmp_ge (tgt := 42) C dJ6_stringSize_0f7a4_19 (by decide) (by omega) (by omega) (fun h => absurd h (by omega)) (fun _ => ?_)
              refine z_iload_n C 3 dJ6_stringSize_0f7a4_22 rfl ?_
              refine z_iload_n C 1 dJ6_stringSize_0f7a4_23 rfl ?_
              refine z_icmp_le (tgt := 31) C dJ6_stringSize_0f7a4_24 (by decide) (by omega) (by omega) (fun hby7 => ?_) (fun hby7 => ?_)
              · refine z_bipush (z := 10) C dJ6_stringSize_0f7a4_31 (by decide) ?_
                refine z_iload_n C 1 dJ6_stringSize_0f7a4_33 rfl ?_
                refine z_imul C dJ6_stringSize_0f7a4_34 ?_
                refine z_istore_n (lv' := [(2, .int (zI (10 * (10 * (10 * (10 * (10 * (10 * (-10))))))))), (3, .int (zI (6))), (1, .int (zI (1))), (0, .int (zI (z)))]) C dJ6_stringSize_0f7a4_35 rfl (by decide) rfl ?_
                refine z_iinc (z := 7) (lv' := [(3, .int (zI (7))), (2, .int (zI (10 * (10 * (10 * (10 * (10 * (10 * (-10))))))))), (1, .int (zI (1))), (0, .int (zI (z)))]) (j := 1) C dJ6_stringSize_0f7a4_36 rfl (congrArg zI (by omega)) (by decide) rfl ?_
                refine z_goto (tgt := 16) C dJ6_stringSize_0f7a4_39 (by decide) ?_
                refine z_iload_n C 0 dJ6_stringSize_0f7a4_16 rfl ?_
                refine z_bipush (z := 10) C dJ6_stringSize_0f7a4_17 (by decide) ?_
                refine z_icmp_ge (tgt := 42) C dJ6_stringSize_0f7a4_19 (by decide) (by omega) (by omega) (fun h => absurd h (by omega)) (fun _ => ?_)
                refine z_iload_n C 3 dJ6_stringSize_0f7a4_22 rfl ?_
                refine z_iload_n C 1 dJ6_stringSize_0f7a4_23 rfl ?_
                refine z_icmp_le (tgt := 31) C dJ6_stringSize_0f7a4_24 (by decide) (by omega) (by omega) (fun hby8 => ?_) (fun hby8 => ?_)
                · refine z_bipush (z := 10) C dJ6_stringSize_0f7a4_31 (by decide) ?_
                  refine z_iload_n C 1 dJ6_stringSize_0f7a4_33 rfl ?_
                  refine z_imul C dJ6_stringSize_0f7a4_34 ?_
                  refine z_istore_n (lv' := [(2, .int (zI (10 * (10 * (10 * (10 * (10 * (10 * (10 * (-10)))))))))), (3, .int (zI (7))), (1, .int (zI (1))), (0, .int (zI (z)))]) C dJ6_stringSize_0f7a4_35 rfl (by decide) rfl ?_
                  refine z_iinc (z := 8) (lv' := [(3, .int (zI (8))), (2, .int (zI (10 * (10 * (10 * (10 * (10 * (10 * (10 * (-10)))))))))), (1, .int (zI (1))), (0, .int (zI (z)))]) (j := 1) C dJ6_stringSize_0f7a4_36 rfl (congrArg zI (by omega)) (by decide) rfl ?_
                  refine z_goto (tgt := 16) C dJ6_stringSize_0f7a4_39 (by decide) ?_
                  refine z_iload_n C 0 dJ6_stringSize_0f7a4_16 rfl ?_
                  refine z_bipush (z := 10) C dJ6_stringSize_0f7a4_17 (by decide) ?_
                  refine z_icmp_ge (tgt := 42) C dJ6_stringSize_0f7a4_19 (by decide) (by omega) (by omega) (fun h => absurd h (by omega)) (fun _ => ?_)
                  refine z_iload_n C 3 dJ6_stringSize_0f7a4_22 rfl ?_
                  refine z_iload_n C 1 dJ6_stringSize_0f7a4_23 rfl ?_
                  refine z_icmp_le (tgt := 31) C dJ6_stringSize_0f7a4_24 (by decide) (by omega) (by omega) (fun hby9 => ?_) (fun hby9 => ?_)
                  · refine z_bipush (z := 10) C dJ6_stringSize_0f7a4_31 (by decide) ?_
                    refine z_iload_n C 1 dJ6_stringSize_0f7a4_33 rfl ?_
                    refine z_imul C dJ6_stringSize_0f7a4_34 ?_
                    refine z_istore_n (lv' := [(2, .int (zI (10 * (10 * (10 * (10 * (10 * (10 * (10 * (10 * (-10))))))))))), (3, .int (zI (8))), (1, .int (zI (1))), (0, .int (zI (z)))]) C dJ6_stringSize_0f7a4_35 rfl (by decide) rfl ?_
                    refine z_iinc (z := 9) (lv' := [(3, .int (zI (9))), (2, .int (zI (10 * (10 * (10 * (10 * (10 * (10 * (10 * (10 * (-10))))))))))), (1, .int (zI (1))), (0, .int (zI (z)))]) (j := 1) C dJ6_stringSize_0f7a4_36 rfl (congrArg zI (by omega)) (by decide) rfl ?_
                    refine z_goto (tgt := 16) C dJ6_stringSize_0f7a4_39 (by decide) ?_
                    refine z_iload_n C 0 dJ6_stringSize_0f7a4_16 rfl ?_
                    refine z_bipush (z := 10) C dJ6_stringSize_0f7a4_17 (by decide) ?_
                    refine z_icmp_ge (tgt := 42) C dJ6_stringSize_0f7a4_19 (by decide) (by omega) (by omega) (fun h => absurd h (by omega)) (fun _ => ?_)
                    refine z_iload_n C 3 dJ6_stringSize_0f7a4_22 rfl ?_
                    refine z_iload_n C 1 dJ6_stringSize_0f7a4_23 rfl ?_
                    refine z_icmp_le (tgt := 31) C dJ6_stringSize_0f7a4_24 (by decide) (by omega) (by omega) (fun hby10 => ?_) (fun hby10 => ?_)
                    · refine z_bipush (z := 10) C dJ6_stringSize_0f7a4_31 (by decide) ?_
                      refine z_iload_n C 1 dJ6_stringSize_0f7a4_33 rfl ?_
                      refine z_imul C dJ6_stringSize_0f7a4_34 ?_
                      refine z_istore_n (lv' := [(2, .int (zI (10 * (10 * (10 * (10 * (10 * (10 * (10 * (10 * (10 * (-10)))))))))))), (3, .int (zI (9))), (1, .int (zI (1))), (0, .int (zI (z)))]) C dJ6_stringSize_0f7a4_35 rfl (by decide) rfl ?_
                      refine z_iinc (z := 10) (lv' := [(3, .int (zI (10))), (2, .int (zI (10 * (10 * (10 * (10 * (10 * (10 * (10 * (10 * (10 * (-10)))))))))))), (1, .int (zI (1))), (0, .int (zI (z)))]) (j := 1) C dJ6_stringSize_0f7a4_36 rfl (congrArg zI (by omega)) (by decide) rfl ?_
                      refine z_goto (tgt := 16) C dJ6_stringSize_0f7a4_39 (by decide) ?_
                      refine z_iload_n C 0 dJ6_stringSize_0f7a4_16 rfl ?_
                      refine z_bipush (z := 10) C dJ6_stringSize_0f7a4_17 (by decide) ?_
                      refine z_icmp_ge (tgt := 42) C dJ6_stringSize_0f7a4_19 (by decide) (by omega) (by omega) (fun _ => ?_) (fun h => absurd h (by omega))
                      refine z_bipush (z := 10) C dJ6_stringSize_0f7a4_42 (by decide) ?_
                      refine z_iload_n C 2 dJ6_stringSize_0f7a4_44 rfl ?_
                      refine z_iadd C dJ6_stringSize_0f7a4_45 ?_
                      exact z_iret C hr hlk dJ6_stringSize_0f7a4_46 (by decide) (by decide) ⟨10 + 1, rfl, rfl, rfl, by omega, by omega, rfl⟩
                    · refine z_iload_n C 0 dJ6_stringSize_0f7a4_27 rfl ?_
                      refine z_iload_n C 2 dJ6_stringSize_0f7a4_28 rfl ?_
                      refine z_iadd C dJ6_stringSize_0f7a4_29 ?_
                      exact z_iret C hr hlk dJ6_stringSize_0f7a4_30 (by decide) (by decide) ⟨9 + 1, rfl, rfl, rfl, by omega, by omega, rfl⟩
                  · refine z_iload_n C 0 dJ6_stringSize_0f7a4_27 rfl ?_
                    refine z_iload_n C 2 dJ6_stringSize_0f7a4_28 rfl ?_
                    refine z_iadd C dJ6_stringSize_0f7a4_29 ?_
                    exact z_iret C hr hlk dJ6_stringSize_0f7a4_30 (by decide) (by decide) ⟨8 + 1, rfl, rfl, rfl, by omega, by omega, rfl⟩
                · refine z_iload_n C 0 dJ6_stringSize_0f7a4_27 rfl ?_
                  refine z_iload_n C 2 dJ6_stringSize_0f7a4_28 rfl ?_
                  refine z_iadd C dJ6_stringSize_0f7a4_29 ?_
                  exact z_iret C hr hlk dJ6_stringSize_0f7a4_30 (by decide) (by decide) ⟨7 + 1, rfl, rfl, rfl, by omega, by omega, rfl⟩
              · refine z_iload_n C 0 dJ6_stringSize_0f7a4_27 rfl ?_
                refine z_iload_n C 2 dJ6_stringSize_0f7a4_28 rfl ?_
                refine z_iadd C dJ6_stringSize_0f7a4_29 ?_
                exact z_iret C hr hlk dJ6_stringSize_0f7a4_30 (by decide) (by decide) ⟨6 + 1, rfl, rfl, rfl, by omega, by omega, rfl⟩
            · refine z_iload_n C 0 dJ6_stringSize_0f7a4_27 rfl ?_
              refine z_iload_n C 2 dJ6_stringSize_0f7a4_28 rfl ?_
              refine z_iadd C dJ6_stringSize_0f7a4_29 ?_
              exact z_iret C hr hlk dJ6_stringSize_0f7a4_30 (by decide) (by decide) ⟨5 + 1, rfl, rfl, rfl, by omega, by omega, rfl⟩
          · refine z_iload_n C 0 dJ6_stringSize_0f7a4_27 rfl ?_
            refine z_iload_n C 2 dJ6_stringSize_0f7a4_28 rfl ?_
            refine z_iadd C dJ6_stringSize_0f7a4_29 ?_
            exact z_iret C hr hlk dJ6_stringSize_0f7a4_30 (by decide) (by decide) ⟨4 + 1, rfl, rfl, rfl, by omega, by omega, rfl⟩
        · refine z_iload_n C 0 dJ6_stringSize_0f7a4_27 rfl ?_
          refine z_iload_n C 2 dJ6_stringSize_0f7a4_28 rfl ?_
          refine z_iadd C dJ6_stringSize_0f7a4_29 ?_
          exact z_iret C hr hlk dJ6_stringSize_0f7a4_30 (by decide) (by decide) ⟨3 + 1, rfl, rfl, rfl, by omega, by omega, rfl⟩
      · refine z_iload_n C 0 dJ6_stringSize_0f7a4_27 rfl ?_
        refine z_iload_n C 2 dJ6_stringSize_0f7a4_28 rfl ?_
        refine z_iadd C dJ6_stringSize_0f7a4_29 ?_
        exact z_iret C hr hlk dJ6_stringSize_0f7a4_30 (by decide) (by decide) ⟨2 + 1, rfl, rfl, rfl, by omega, by omega, rfl⟩
    · refine z_iload_n C 0 dJ6_stringSize_0f7a4_27 rfl ?_
      refine z_iload_n C 2 dJ6_stringSize_0f7a4_28 rfl ?_
      refine z_iadd C dJ6_stringSize_0f7a4_29 ?_
      exact z_iret C hr hlk dJ6_stringSize_0f7a4_30 (by decide) (by decide) ⟨1 + 1, rfl, rfl, rfl, by omega, by omega, rfl⟩
  · refine z_iconst (z := 0) C dJ6_stringSize_0f7a4_6 rfl ?_
    refine z_istore_n (lv' := [(1, .int (zI (0))), (0, .int (zI (z)))]) C dJ6_stringSize_0f7a4_7 rfl (by decide) rfl ?_
    refine z_iload_n C 1 dJ6_stringSize_0f7a4_8 rfl ?_
    refine z_ineg C dJ6_stringSize_0f7a4_9 ?_
    refine z_istore_n (lv' := [(0, .int (zI (-(z)))), (1, .int (zI (0)))]) C dJ6_stringSize_0f7a4_10 rfl (by decide) rfl ?_
    refine z_bipush (z := -10) C dJ6_stringSize_0f7a4_11 (by decide) ?_
    refine z_istore_n (lv' := [(2, .int (zI (-10))), (0, .int (zI (-(z)))), (1, .int (zI (0)))]) C dJ6_stringSize_0f7a4_13 rfl (by decide) rfl ?_
    refine z_iconst (z := 1) C dJ6_stringSize_0f7a4_14 rfl ?_
    refine z_istore_n (lv' := [(3, .int (zI (1))), (2, .int (zI (-10))), (0, .int (zI (-(z)))), (1, .int (zI (0)))]) C dJ6_stringSize_0f7a4_15 rfl (by decide) rfl ?_
    refine z_iload_n C 0 dJ6_stringSize_0f7a4_16 rfl ?_
    refine z_bipush (z := 10) C dJ6_stringSize_0f7a4_17 (by decide) ?_
    refine z_icmp_ge (tgt := 42) C dJ6_stringSize_0f7a4_19 (by decide) (by omega) (by omega) (fun h => absurd h (by omega)) (fun _ => ?_)
    refine z_iload_n C 2 dJ6_stringSize_0f7a4_22 rfl ?_
    refine z_iload_n C 1 dJ6_stringSize_0f7a4_23 rfl ?_
    refine z_icmp_le (tgt := 31) C dJ6_stringSize_0f7a4_24 (by decide) (by omega) (by omega) (fun hby11 => ?_) (fun hby11 => ?_)
    · refine z_bipush (z := 10) C dJ6_stringSize_0f7a4_31 (by decide) ?_
      refine z_iload_n C 1 dJ6_stringSize_0f7a4_33 rfl ?_
      refine z_imul C dJ6_stringSize_0f7a4_34 ?_
      refine z_istore_n (lv' := [(2, .int (zI (10 * (-10)))), (3, .int (zI (1))), (0, .int (zI (-(z)))), (1, .int (zI (0)))]) C dJ6_stringSize_0f7a4_35 rfl (by decide) rfl ?_
      refine z_iinc (z := 2) (lv' := [(3, .int (zI (2))), (2, .int (zI (10 * (-10)))), (0, .int (zI (-(z)))), (1, .int (zI (0)))]) (j := 1) C dJ6_stringSize_0f7a4_36 rfl (congrArg zI (by omega)) (by decide) rfl ?_
      refine z_goto (tgt := 16) C dJ6_stringSize_0f7a4_39 (by decide) ?_
      refine z_iload_n C 0 dJ6_stringSize_0f7a4_16 rfl ?_
      refine z_bipush (z := 10) C dJ6_stringSize_0f7a4_17 (by decide) ?_
      refine z_icmp_ge (tgt := 42) C dJ6_stringSize_0f7a4_19 (by decide) (by omega) (by omega) (fun h => absurd h (by omega)) (fun _ => ?_)
      refine z_iload_n C 2 dJ6_stringSize_0f7a4_22 rfl ?_
      refine z_iload_n C 1 dJ6_stringSize_0f7a4_23 rfl ?_
      refine z_icmp_le (tgt := 31) C dJ6_stringSize_0f7a4_24 (by decide) (by omega) (by omega) (fun hby12 => ?_) (fun hby12 => ?_)
      · refine z_bipush (z := 10) C dJ6_stringSize_0f7a4_31 (by decide) ?_
        refine z_iload_n C 1 dJ6_stringSize_0f7a4_33 rfl ?_
        refine z_imul C dJ6_stringSize_0f7a4_34 ?_
        refine z_istore_n (lv' := [(2, .int (zI (10 * (10 * (-10))))), (3, .int (zI (2))), (0, .int (zI (-(z)))), (1, .int (zI (0)))]) C dJ6_stringSize_0f7a4_35 rfl (by decide) rfl ?_
        refine z_iinc (z := 3) (lv' := [(3, .int (zI (3))), (2, .int (zI (10 * (10 * (-10))))), (0, .int (zI (-(z)))), (1, .int (zI (0)))]) (j := 1) C dJ6_stringSize_0f7a4_36 rfl (congrArg zI (by omega)) (by decide) rfl ?_
        refine z_goto (tgt := 16) C dJ6_stringSize_0f7a4_39 (by decide) ?_
        refine z_iload_n C 0 dJ6_stringSize_0f7a4_16 rfl ?_
        refine z_bipush (z := 10) C dJ6_stringSize_0f7a4_17 (by decide) ?_
        refine z_icmp_ge (tgt := 42) C dJ6_stringSize_0f7a4_19 (by decide) (by omega) (by omega) (fun h => absurd h (by omega)) (fun _ => ?_)
        refine z_iload_n C 2 dJ6_stringSize_0f7a4_22 rfl ?_
        refine z_iload_n C 1 dJ6_stringSize_0f7a4_23 rfl ?_
        refine z_icmp_le (tgt := 31) C dJ6_stringSize_0f7a4_24 (by decide) (by omega) (by omega) (fun hby13 => ?_) (fun hby13 => ?_)
        · refine z_bipush (z := 10) C dJ6_stringSize_0f7a4_31 (by decide) ?_
          refine z_iload_n C 1 dJ6_stringSize_0f7a4_33 rfl ?_
          refine z_imul C dJ6_stringSize_0f7a4_34 ?_
          refine z_istore_n (lv' := [(2, .int (zI (10 * (10 * (10 * (-10)))))), (3, .int (zI (3))), (0, .int (zI (-(z)))), (1, .int (zI (0)))]) C dJ6_stringSize_0f7a4_35 rfl (by decide) rfl ?_
          refine z_iinc (z := 4) (lv' := [(3, .int (zI (4))), (2, .int (zI (10 * (10 * (10 * (-10)))))), (0, .int (zI (-(z)))), (1, .int (zI (0)))]) (j := 1) C dJ6_stringSize_0f7a4_36 rfl (congrArg zI (by omega)) (by decide) rfl ?_
          refine z_goto (tgt := 16) C dJ6_stringSize_0f7a4_39 (by decide) ?_
          refine z_iload_n C 0 dJ6_stringSize_0f7a4_16 rfl ?_
          refine z_bipush (z := 10) C dJ6_stringSize_0f7a4_17 (by decide) ?_
          refine z_icmp_ge (tgt := 42) C dJ6_stringSize_0f7a4_19 (by decide) (by omega) (by omega) (fun h => absurd h (by omega)) (fun _ => ?_)
          refine z_iload_n C 2 dJ6_stringSize_0f7a4_22 rfl ?_
          refine z_iload_n C 1 dJ6_stringSize_0f7a4_23 rfl ?_
          refine z_icmp_le (tgt := 31) C dJ6_stringSize_0f7a4_24 (by decide) (by omega) (by omega) (fun hby14 => ?_) (fun hby14 => ?_)
          · refine z_bipush (z := 10) C dJ6_stringSize_0f7a4_31 (by decide) ?_
            refine z_iload_n C 1 dJ6_stringSize_0f7a4_33 rfl ?_
            refine z_imul C dJ6_stringSize_0f7a4_34 ?_
            refine z_istore_n (lv' := [(2, .int (zI (10 * (10 * (10 * (10 * (-10))))))), (3, .int (zI (4))), (0, .int (zI (-(z)))), (1, .int (zI (0)))]) C dJ6_stringSize_0f7a4_35 rfl (by decide) rfl ?_
            refine z_iinc (z := 5) (lv' := [(3, .int (zI (5))), (2, .int (zI (10 * (10 * (10 * (10 * (-10))))))), (0, .int (zI (-(z)))), (1, .int (zI (0)))]) (j := 1) C dJ6_stringSize_0f7a4_36 rfl (congrArg zI (by omega)) (by decide) rfl ?_
            refine z_goto (tgt := 16) C dJ6_stringSize_0f7a4_39 (by decide) ?_
            refine z_iload_n C 0 dJ6_stringSize_0f7a4_16 rfl ?_
            refine z_bipush (z := 10) C dJ6_stringSize_0f7a4_17 (by decide) ?_
            refine z_icmp_ge (tgt := 42) C dJ6_stringSize_0f7a4_19 (by decide) (by omega) (by omega) (fun h => absurd h (by omega)) (fun _ => ?_)
            refine z_iload_n C 2 dJ6_stringSize_0f7a4_22 rfl ?_
            refine z_iload_n C 1 dJ6_stringSize_0f7a4_23 rfl ?_
            refine z_icmp_le (tgt := 31) C dJ6_stringSize_0f7a4_24 (by decide) (by omega) (by omega) (fun hby15 => ?_) (fun hby15 => ?_)
            · refine z_bipush (z := 10) C dJ6_stringSize_0f7a4_31 (by decide) ?_
              refine z_iload_n C 1 dJ6_stringSize_0f7a4_33 rfl ?_
              refine z_imul C dJ6_stringSize_0f7a4_34 ?_
              refine z_istore_n (lv' := [(2, .int (zI (10 * (10 * (10 * (10 * (10 * (-10)))))))), (3, .int (zI (5))), (0, .int (zI (-(z)))), (1, .int (zI (0)))]) C dJ6_stringSize_0f7a4_35 rfl (by decide) rfl ?_
              refine z_iinc (z := 6) (lv' := [(3, .int (zI (6))), (2, .int (zI (10 * (10 * (10 * (10 * (10 * (-10)))))))), (0, .int (zI (-(z)))), (1, .int (zI (0)))]) (j := 1) C dJ6_stringSize_0f7a4_36 rfl (congrArg zI (by omega)) (by decide) rfl ?_
              refine z_goto (tgt := 16) C dJ6_stringSize_0f7a4_39 (by decide) ?_
              refine z_iload_n C 0 dJ6_stringSize_0f7a4_16 rfl ?_
              refine z_bipush (z := 10) C dJ6_stringSize_0f7a4_17 (by decide) ?_
              refine z_icmp_ge (tgt := 42) C dJ6_stringSize_0f7a4_19 (by decide) (by omega) (by omega) (fun h => absurd h (by omega)) (fun _ => ?_)
              refine z_iload_n C 2 dJ6_stringSize_0f7a4_22 rfl ?_
              refine z_iload_n C 1 dJ6_stringSize_0f7a4_23 rfl ?_
              refine z_icmp_le (tgt := 31) C dJ6_stringSize_0f7a4_24 (by decide) (by omega) (by omega) (fun hby16 => ?_) (fun hby16 => ?_)
              · refine z_bipush (z := 10) C dJ6_stringSize_0f7a4_31 (by decide) ?_
                refine z_iload_n C 1 dJ6_stringSize_0f7a4_33 rfl ?_
                refine z_imul C dJ6_stringSize_0f7a4_34 ?_
                refine z_istore_n (lv' := [(2, .int (zI (10 * (10 * (10 * (10 * (10 * (10 * (-10))))))))), (3, .int (zI (6))), (0, .int (zI (-(z)))), (1, .int (zI (0)))]) C dJ6_stringSize_0f7a4_35 rfl (by decide) rfl ?_
                refine z_iinc (z := 7) (lv' := [(3, .int (zI (7))), (2, .int (zI (10 * (10 * (10 * (10 * (10 * (10 * (-10))))))))), (0, .int (zI (-(z)))), (1, .int (zI (0)))]) (j := 1) C dJ6_stringSize_0f7a4_36 rfl (congrArg zI (by omega)) (by decide) rfl ?_
                refine z_goto (tgt := 16) C dJ6_stringSize_0f7a4_39 (by decide) ?_
                refine z_iload_n C 0 dJ6_stringSize_0f7a4_16 rfl ?_
                refine z_bipush (z := 10) C dJ6_stringSize_0f7a4_17 (by decide) ?_
                refine z_icmp_ge (tgt := 42) C dJ6_stringSize_0f7a4_19 (by decide) (by omega) (by omega) (fun h => absurd h (by omega)) (fun _ => ?_)
                refine z_iload_n C 2 dJ6_stringSize_0f7a4_22 rfl ?_
                refine z_iload_n C 1 dJ6_stringSize_0f7a4_23 rfl ?_
                refine z_icmp_le (tgt := 31) C dJ6_stringSize_0f7a4_24 (by decide) (by omega) (by omega) (fun hby17 => ?_) (fun hby17 => ?_)
                · refine z_bipush (z := 10) C dJ6_stringSize_0f7a4_31 (by decide) ?_
                  refine z_iload_n C 1 dJ6_stringSize_0f7a4_33 rfl ?_
                  refine z_imul C dJ6_stringSize_0f7a4_34 ?_
                  refine z_istore_n (lv' := [(2, .int (zI (10 * (10 * (10 * (10 * (10 * (10 * (10 * (-10)))))))))), (3, .int (zI (7))), (0, .int (zI (-(z)))), (1, .int (zI (0)))]) C dJ6_stringSize_0f7a4_35 rfl (by decide) rfl ?_
                  refine z_iinc (z := 8) (lv' := [(3, .int (zI (8))), (2, .int (zI (10 * (10 * (10 * (10 * (10 * (10 * (10 * (-10)))))))))), (0, .int (zI (-(z)))), (1, .int (zI (0)))]) (j := 1) C dJ6_stringSize_0f7a4_36 rfl (congrArg zI (by omega)) (by decide) rfl ?_
                  refine z_goto (tgt := 16) C dJ6_stringSize_0f7a4_39 (by decide) ?_
                  refine z_iload_n C 0 dJ6_stringSize_0f7a4_16 rfl ?_
                  refine z_bipush (z := 10) C dJ6_stringSize_0f7a4_17 (by decide) ?_
                  refine z_icmp_ge (tgt := 42) C dJ6_stringSize_0f7a4_19 (by decide) (by omega) (by omega) (fun h => absurd h (by omega)) (fun _ => ?_)
                  refine z_iload_n C 2 dJ6_stringSize_0f7a4_22 rfl ?_
                  refine z_iload_n C 1 dJ6_stringSize_0f7a4_23 rfl ?_
                  refine z_icmp_le (tgt := 31) C dJ6_stringSize_0f7a4_24 (by decide) (by omega) (by omega) (fun hby18 => ?_) (fun hby18 => ?_)
                  · refine z_bipush (z := 10) C dJ6_stringSize_0f7a4_31 (by decide) ?_
                    refine z_iload_n C 1 dJ6_stringSize_0f7a4_33 rfl ?_
                    refine z_imul C dJ6_stringSize_0f7a4_34 ?_
                    refine z_istore_n (lv' := [(2, .int (zI (10 * (10 * (10 * (10 * (10 * (10 * (10 * (10 * (-10))))))))))), (3, .int (zI (8))), (0, .int (zI (-(z)))), (1, .int (zI (0)))]) C dJ6_stringSize_0f7a4_35 rfl (by decide) rfl ?_
                    refine z_iinc (z := 9) (lv' := [(3, .int (zI (9))), (2, .int (zI (10 * (10 * (10 * (10 * (10 * (10 * (10 * (10 * (-10))))))))))), (0, .int (zI (-(z)))), (1, .int (zI (0)))]) (j := 1) C dJ6_stringSize_0f7a4_36 rfl (congrArg zI (by omega)) (by decide) rfl ?_
                    refine z_goto (tgt := 16) C dJ6_stringSize_0f7a4_39 (by decide) ?_
                    refine z_iload_n C 0 dJ6_stringSize_0f7a4_16 rfl ?_
                    refine z_bipush (z := 10) C dJ6_stringSize_0f7a4_17 (by decide) ?_
                    refine z_icmp_ge (tgt := 42) C dJ6_stringSize_0f7a4_19 (by decide) (by omega) (by omega) (fun h => absurd h (by omega)) (fun _ => ?_)
                    refine z_iload_n C 2 dJ6_stringSize_0f7a4_22 rfl ?_
                    refine z_iload_n C 1 dJ6_stringSize_0f7a4_23 rfl ?_
                    refine z_icmp_le (tgt := 31) C dJ6_stringSize_0f7a4_24 (by decide) (by omega) (by omega) (fun hby19 => ?_) (fun hby19 => ?_)
                    · refine z_bipush (z := 10) C dJ6_stringSize_0f7a4_31 (by decide) ?_
                      refine z_iload_n C 1 dJ6_stringSize_0f7a4_33 rfl ?_
                      refine z_imul C dJ6_stringSize_0f7a4_34 ?_
                      refine z_istore_n (lv' := [(2, .int (zI (10 * (10 * (10 * (10 * (10 * (10 * (10 * (10 * (10 * (-10)))))))))))), (3, .int (zI (9))), (0, .int (zI (-(z)))), (1, .int (zI (0)))]) C dJ6_stringSize_0f7a4_35 rfl (by decide) rfl ?_
                      refine z_iinc (z := 10) (lv' := [(3, .int (zI (10))), (2, .int (zI (10 * (10 * (10 * (10 * (10 * (10 * (10 * (10 * (10 * (-10)))))))))))), (0, .int (zI (-(z)))), (1, .int (zI (0)))]) (j := 1) C dJ6_stringSize_0f7a4_36 rfl (congrArg zI (by omega)) (by decide) rfl ?_
                      refine z_goto (tgt := 16) C dJ6_stringSize_0f7a4_39 (by decide) ?_
                      refine z_iload_n C 0 dJ6_stringSize_0f7a4_16 rfl ?_
                      refine z_bipush (z := 10) C dJ6_stringSize_0f7a4_17 (by decide) ?_
                      refine z_icmp_ge (tgt := 42) C dJ6_stringSize_0f7a4_19 (by decide) (by omega) (by omega) (fun _ => ?_) (fun h => absurd h (by omega))
                      refine z_bipush (z := 10) C dJ6_stringSize_0f7a4_42 (by decide) ?_
                      refine z_iload_n C 3 dJ6_stringSize_0f7a4_44 rfl ?_
                      refine z_iadd C dJ6_stringSize_0f7a4_45 ?_
                      exact z_iret C hr hlk dJ6_stringSize_0f7a4_46 (by decide) (by decide) ⟨10 + 0, rfl, rfl, rfl, by omega, by omega, rfl⟩
                    · refine z_iload_n C 0 dJ6_stringSize_0f7a4_27 rfl ?_
                      refine z_iload_n C 3 dJ6_stringSize_0f7a4_28 rfl ?_
                      refine z_iadd C dJ6_stringSize_0f7a4_29 ?_
                      exact z_iret C hr hlk dJ6_stringSize_0f7a4_30 (by decide) (by decide) ⟨9 + 0, rfl, rfl, rfl, by omega, by omega, rfl⟩
                  · refine z_iload_n C 0 dJ6_stringSize_0f7a4_27 rfl ?_
                    refine z_iload_n C 3 dJ6_stringSize_0f7a4_28 rfl ?_
                    refine z_iadd C dJ6_stringSize_0f7a4_29 ?_
                    exact z_iret C hr hlk dJ6_stringSize_0f7a4_30 (by decide) (by decide) ⟨8 + 0, rfl, rfl, rfl, by omega, by omega, rfl⟩
                · refine z_iload_n C 0 dJ6_stringSize_0f7a4_27 rfl ?_
                  refine z_iload_n C 3 dJ6_stringSize_0f7a4_28 rfl ?_
                  refine z_iadd C dJ6_stringSize_0f7a4_29 ?_
                  exact z_iret C hr hlk dJ6_stringSize_0f7a4_30 (by decide) (by decide) ⟨7 + 0, rfl, rfl, rfl, by omega, by omega, rfl⟩
              · refine z_iload_n C 0 dJ6_stringSize_0f7a4_27 rfl ?_
                refine z_iload_n C 3 dJ6_stringSize_0f7a4_28 rfl ?_
                refine z_iadd C dJ6_stringSize_0f7a4_29 ?_
                exact z_iret C hr hlk dJ6_stringSize_0f7a4_30 (by decide) (by decide) ⟨6 + 0, rfl, rfl, rfl, by omega, by omega, rfl⟩
            · refine z_iload_n C 0 dJ6_stringSize_0f7a4_27 rfl ?_
              refine z_iload_n C 3 dJ6_stringSize_0f7a4_28 rfl ?_
              refine z_iadd C dJ6_stringSize_0f7a4_29 ?_
              exact z_iret C hr hlk dJ6_stringSize_0f7a4_30 (by decide) (by decide) ⟨5 + 0, rfl, rfl, rfl, by omega, by omega, rfl⟩
          · refine z_iload_n C 0 dJ6_stringSize_0f7a4_27 rfl ?_
            refine z_iload_n C 3 dJ6_stringSize_0f7a4_28 rfl ?_
            refine z_iadd C dJ6_stringSize_0f7a4_29 ?_
            exact z_iret C hr hlk dJ6_stringSize_0f7a4_30 (by decide) (by decide) ⟨4 + 0, rfl, rfl, rfl, by omega, by omega, rfl⟩
        · refine z_iload_n C 0 dJ6_stringSize_0f7a4_27 rfl ?_
          refine z_iload_n C 3 dJ6_stringSize_0f7a4_28 rfl ?_
          refine z_iadd C dJ6_stringSize_0f7a4_29 ?_
          exact z_iret C hr hlk dJ6_stringSize_0f7a4_30 (by decide) (by decide) ⟨3 + 0, rfl, rfl, rfl, by omega, by omega, rfl⟩
      · refine z_iload_n C 0 dJ6_stringSize_0f7a4_27 rfl ?_
        refine z_iload_n C 3 dJ6_stringSize_0f7a4_28 rfl ?_
        refine z_iadd C dJ6_stringSize_0f7a4_29 ?_
        exact z_iret C hr hlk dJ6_stringSize_0f7a4_30 (by decide) (by decide) ⟨2 + 0, rfl, rfl, rfl, by omega, by omega, rfl⟩
    · refine z_iload_n C 0 dJ6_stringSize_0f7a4_27 rfl ?_
      refine z_iload_n C 3 dJ6_stringSize_0f7a4_28 rfl ?_
      refine z_iadd C dJ6_stringSize_0f7a4_29 ?_
      exact z_iret C hr hlk dJ6_stringSize_0f7a4_30 (by decide) (by decide) ⟨1 + 0, rfl, rfl, rfl, by omega, by omega, rfl⟩

set_option maxRecDepth 100000 in
set_option maxHeartbeats 4000000 in
theorem c_getChars (l : Launch) (D : va_G) (A : Nat → Prop) (cs : Nat → ClassId) (tt : Nat) (N : Nat) (ad : Nat → Nat) (g : Nat → va_E) (v cap : Nat) (hv : v < N) (hcap : cap ≤ 1000) (b : Nat → Int) (hby : ∀ j, -128 ≤ b j ∧ b j ≤ 127) (hgv : g v = bA cs cap b) (z : Int) (hz : -2147483648 ≤ z ∧ z ≤ 2147483647) (z1 : Int) (hz1 : z1 ≤ (cap : Int)) (hdg : ((0 ≤ z ∧ ((1 ≤ z1 ∧ -10 < -(z)) ∨ (2 ≤ z1 ∧ -100 < -(z)) ∨ (3 ≤ z1 ∧ -1000 < -(z)) ∨ (4 ≤ z1 ∧ -10000 < -(z)) ∨ (5 ≤ z1 ∧ -100000 < -(z)) ∨ (6 ≤ z1 ∧ -1000000 < -(z)) ∨ (7 ≤ z1 ∧ -10000000 < -(z)) ∨ (8 ≤ z1 ∧ -100000000 < -(z)) ∨ (9 ≤ z1 ∧ -1000000000 < -(z)) ∨ (10 ≤ z1 ∧ -10000000000 < -(z)))) ∨ (z < 0 ∧ ((1 ≤ z1 - 1 ∧ -10 < z) ∨ (2 ≤ z1 - 1 ∧ -100 < z) ∨ (3 ≤ z1 - 1 ∧ -1000 < z) ∨ (4 ≤ z1 - 1 ∧ -10000 < z) ∨ (5 ≤ z1 - 1 ∧ -100000 < z) ∨ (6 ≤ z1 - 1 ∧ -1000000 < z) ∨ (7 ≤ z1 - 1 ∧ -10000000 < z) ∨ (8 ≤ z1 - 1 ∧ -100000000 < z) ∨ (9 ≤ z1 - 1 ∧ -1000000000 < z) ∨ (10 ≤ z1 - 1 ∧ -10000000000 < z))))) : zM l yJ6_getChars_ba4f3 cJ6_getChars_ba4f3 7 (some .int) ({ frames := 1, cells := 0, slots := 0, locals := 60 } : Room) D A cs tt N ad g [.int (zI (z)), .int (zI (z1)), .ref (ad v)] (rI0 N ad fun r g' => (-2147483648 ≤ r ∧ r ≤ 2147483647) ∧ (∃ b' : Nat → Int, (∀ j, -128 ≤ b' j ∧ b' j ≤ 127) ∧ g' v = bA cs cap b') ∧ ∀ j, j ≠ v → g' j = g j) := by
  have hay1 : zAt ad (v) (ad v) := rfl
  refine z_of (by decide) (Nat.le_of_ble_eq_true rfl) ?_
  intro p e s m below meth c C hr hlk hnm
  refine z_lv (lv' := [(0, .int (zI (z))), (1, .int (zI (z1))), (2, .ref (ad v))]) [0, 1, 2] rfl ?_
  have hz1p : 0 ≤ z1 := by omega
  refine z_iload_n C 1 dJ6_getChars_ba4f3_0 rfl ?_
  refine z_istore (lv' := [(5, .int (zI (z1))), (0, .int (zI (z))), (1, .int (zI (z1))), (2, .ref (ad v))]) C dJ6_getChars_ba4f3_1 (by decide) rfl ?_
  refine z_iload_n C 1 dJ6_getChars_ba4f3_3 rfl ?_
  refine z_if_ge (tgt := 11) C dJ6_getChars_ba4f3_4 (by decide) (by omega) (fun hby2 => ?_) (fun hby2 => ?_)
  · refine z_iconst (z := 0) C dJ6_getChars_ba4f3_11 rfl ?_
    refine z_istore (lv' := [(6, .int (zI (0))), (5, .int (zI (z1))), (0, .int (zI (z))), (1, .int (zI (z1))), (2, .ref (ad v))]) C dJ6_getChars_ba4f3_12 (by decide) rfl ?_
    refine z_iload C 0 dJ6_getChars_ba4f3_14 rfl ?_
    refine z_if_ne (tgt := 22) C dJ6_getChars_ba4f3_16 (by decide) (by omega) (fun h => absurd h (by omega)) (fun _ => ?_)
    refine z_iload_n C 2 dJ6_getChars_ba4f3_19 rfl ?_
    refine z_ineg C dJ6_getChars_ba4f3_20 ?_
    refine z_istore_n (lv' := [(0, .int (zI (-(z)))), (6, .int (zI (0))), (5, .int (zI (z1))), (1, .int (zI (z1))), (2, .ref (ad v))]) C dJ6_getChars_ba4f3_21 rfl (by decide) rfl ?_
    have lp : ∀ (n9 : Nat) (i9 : Int) (p9 : Int) (b9 : Nat → Int) (g1 : Nat → va_E), (p9).toNat = n9 → (g1 v = bA cs cap b9) → (∀ j, -128 ≤ b9 j ∧ b9 j ≤ 127) → (∀ j, j ≠ v → g1 j = g j) → ((-2147483648 ≤ i9 ∧ i9 ≤ 0) ∧ 0 ≤ p9 ∧ p9 ≤ (cap : Int)) → (((1 ≤ p9 - 0 ∧ -10 < i9) ∨ (2 ≤ p9 - 0 ∧ -100 < i9) ∨ (3 ≤ p9 - 0 ∧ -1000 < i9) ∨ (4 ≤ p9 - 0 ∧ -10000 < i9) ∨ (5 ≤ p9 - 0 ∧ -100000 < i9) ∨ (6 ≤ p9 - 0 ∧ -1000000 < i9) ∨ (7 ≤ p9 - 0 ∧ -10000000 < i9) ∨ (8 ≤ p9 - 0 ∧ -100000000 < i9) ∨ (9 ≤ p9 - 0 ∧ -1000000000 < i9) ∨ (10 ≤ p9 - 0 ∧ -10000000000 < i9))) → zV p l e ({ frames := 1, cells := 0, slots := 0, locals := 60 } : Room) s m ([.int (zI (z)), .int (zI (z1)), .ref (ad v)] : List Value).toArray below meth c (MQ below (zPost D A (rI0 N ad fun r g' => (-2147483648 ≤ r ∧ r ≤ 2147483647) ∧ (∃ b' : Nat → Int, (∀ j, -128 ≤ b' j ∧ b' j ≤ 127) ∧ g' v = bA cs cap b') ∧ ∀ j, j ≠ v → g' j = g j)) ([.int (zI (z)), .int (zI (z1)), .ref (ad v)] : List Value).toArray s ({ frames := 1, cells := 0, slots := 0, locals := 60 } : Room).cells ({ frames := 1, cells := 0, slots := 0, locals := 60 } : Room).slots A) D A 7 (N) ad g1 (0) (0) 22 [(0, .int (zI (i9))), (5, .int (zI (p9))), (6, .int (zI (0))), (2, .ref (ad v))] [] := by
      intro n9
      induction n9 using Nat.strongRecOn with
      | ind n9 ih =>
        intro i9 p9 b9 g1 hm9 f1 f6 f3 f4 f5
        have hay3 : zAt ad (v) (ad v) := rfl
        refine z_iload_n C 0 dJ6_getChars_ba4f3_22 rfl ?_
        refine z_bipush (z := -100) C dJ6_getChars_ba4f3_23 (by decide) ?_
        refine z_icmp_gt (tgt := 72) C dJ6_getChars_ba4f3_25 (by decide) (by omega) (by omega) (fun hby4 => ?_) (fun hby4 => ?_)
        · refine z_aload_n C 3 dJ6_getChars_ba4f3_72 rfl ?_
          refine z_iinc (z := p9 - 1) (lv' := [(5, .int (zI (p9 - 1))), (0, .int (zI (i9))), (6, .int (zI (0))), (2, .ref (ad v))]) (j := 1) C dJ6_getChars_ba4f3_73 rfl (congrArg zI (by omega)) (by decide) rfl ?_
          refine z_iload C 0 dJ6_getChars_ba4f3_76 rfl ?_
          refine z_getSt C stm1 q_1104 dJ6_getChars_ba4f3_78 ?_
          refine z_iload_n C 1 dJ6_getChars_ba4f3_81 rfl ?_
          refine z_ineg C dJ6_getChars_ba4f3_82 ?_
          obtain ⟨yy5, eyy5, hyy5⟩ := getD_b stv1 (j := (-(i9)).toNat) (by rw [stl1]; omega)
          refine z_stbald (y := yy5) C stm1 ((-(i9)).toNat) (by omega) (by rw [stl1]; omega) (by rw [stl1]; decide) eyy5 dJ6_getChars_ba4f3_83 ?_
          refine z_bast C (by omega) hay3 f1 ((p9 - 1).toNat) (by omega) (by omega) (by omega) (by omega) dJ6_getChars_ba4f3_84 (fun gy6 egy7 => ?_)
          have hgy8 := up_s egy7
          refine z_iload_n C 1 dJ6_getChars_ba4f3_85 rfl ?_
          refine z_bipush (z := -9) C dJ6_getChars_ba4f3_86 (by decide) ?_
          refine z_icmp_ge (tgt := 104) C dJ6_getChars_ba4f3_88 (by decide) (by omega) (by omega) (fun hby9 => ?_) (fun hby9 => ?_)
          · refine z_iload C 2 dJ6_getChars_ba4f3_104 rfl ?_
            refine z_if_eq (tgt := 118) C dJ6_getChars_ba4f3_106 (by decide) (by omega) (fun _ => ?_) (fun h => absurd h (by omega))
            refine z_iload C 0 dJ6_getChars_ba4f3_118 rfl ?_
            exact z_iret C hr hlk dJ6_getChars_ba4f3_120 (by decide) (by decide) ⟨p9 - 1, rfl, rfl, rfl, by omega, ⟨_, (uB f6 (by omega)), hgy8⟩, fun j j1 => by rw [egy7, va_up_ne _ _ (by omega)]; exact f3 j j1⟩
          · refine z_aload_n C 3 dJ6_getChars_ba4f3_91 rfl ?_
            refine z_iinc (z := p9 - 1 - 1) (lv' := [(5, .int (zI (p9 - 1 - 1))), (0, .int (zI (i9))), (6, .int (zI (0))), (2, .ref (ad v))]) (j := 0) C dJ6_getChars_ba4f3_92 rfl (congrArg zI (by omega)) (by decide) rfl ?_
            refine z_iload C 0 dJ6_getChars_ba4f3_95 rfl ?_
            refine z_getSt C stm2 q_1106 dJ6_getChars_ba4f3_97 ?_
            refine z_iload_n C 1 dJ6_getChars_ba4f3_100 rfl ?_
            refine z_ineg C dJ6_getChars_ba4f3_101 ?_
            obtain ⟨yy10, eyy10, hyy10⟩ := getD_b stv2 (j := (-(i9)).toNat) (by rw [stl2]; omega)
            refine z_stbald (y := yy10) C stm2 ((-(i9)).toNat) (by omega) (by rw [stl2]; omega) (by rw [stl2]; decide) eyy10 dJ6_getChars_ba4f3_102 ?_
            refine z_bast C (by omega) hay3 hgy8 ((p9 - 1 - 1).toNat) (by omega) (by omega) (by omega) (by omega) dJ6_getChars_ba4f3_103 (fun gy11 egy12 => ?_)
            have hgy13 := up_s egy12
            refine z_iload C 2 dJ6_getChars_ba4f3_104 rfl ?_
            refine z_if_eq (tgt := 118) C dJ6_getChars_ba4f3_106 (by decide) (by omega) (fun _ => ?_) (fun h => absurd h (by omega))
            refine z_iload C 0 dJ6_getChars_ba4f3_118 rfl ?_
            exact z_iret C hr hlk dJ6_getChars_ba4f3_120 (by decide) (by decide) ⟨p9 - 1 - 1, rfl, rfl, rfl, by omega, ⟨_, (uB (uB f6 (by omega)) (by omega)), hgy13⟩, fun j j1 => by rw [egy12, va_up_ne _ _ (by omega)]; rw [egy7, va_up_ne _ _ (by omega)]; exact f3 j j1⟩
        · refine z_iload_n C 0 dJ6_getChars_ba4f3_28 rfl ?_
          refine z_bipush (z := 100) C dJ6_getChars_ba4f3_29 (by decide) ?_
          refine z_idiv C dJ6_getChars_ba4f3_31 (by omega) (by omega) (by omega) ?_
          obtain ⟨xy14, exy14, hxy14⟩ := tdn (a := i9) (by omega)
          rw [exy14]
          refine z_istore_n (lv' := [(3, .int (zI (xy14))), (0, .int (zI (i9))), (5, .int (zI (p9))), (6, .int (zI (0))), (2, .ref (ad v))]) C dJ6_getChars_ba4f3_32 rfl (by decide) rfl ?_
          refine z_iload_n C 0 dJ6_getChars_ba4f3_33 rfl ?_
          refine z_bipush (z := 100) C dJ6_getChars_ba4f3_34 (by decide) ?_
          refine z_imul C dJ6_getChars_ba4f3_36 ?_
          refine z_iload_n C 1 dJ6_getChars_ba4f3_37 rfl ?_
          refine z_isub C dJ6_getChars_ba4f3_38 ?_
          refine z_istore (lv' := [(4, .int (zI ((xy14 * 100) - i9))), (3, .int (zI (xy14))), (0, .int (zI (i9))), (5, .int (zI (p9))), (6, .int (zI (0))), (2, .ref (ad v))]) C dJ6_getChars_ba4f3_39 (by decide) rfl ?_
          refine z_iload_n C 1 dJ6_getChars_ba4f3_41 rfl ?_
          refine z_istore_n (lv' := [(0, .int (zI (xy14))), (4, .int (zI ((xy14 * 100) - i9))), (3, .int (zI (xy14))), (5, .int (zI (p9))), (6, .int (zI (0))), (2, .ref (ad v))]) C dJ6_getChars_ba4f3_42 rfl (by decide) rfl ?_
          refine z_aload_n C 5 dJ6_getChars_ba4f3_43 rfl ?_
          refine z_iinc (z := p9 - 1) (lv' := [(5, .int (zI (p9 - 1))), (0, .int (zI (xy14))), (4, .int (zI ((xy14 * 100) - i9))), (3, .int (zI (xy14))), (6, .int (zI (0))), (2, .ref (ad v))]) (j := 3) C dJ6_getChars_ba4f3_44 rfl (congrArg zI (by omega)) (by decide) rfl ?_
          refine z_iload C 0 dJ6_getChars_ba4f3_47 rfl ?_
          refine z_getSt C stm1 q_1104 dJ6_getChars_ba4f3_49 ?_
          refine z_iload C 2 dJ6_getChars_ba4f3_52 rfl ?_
          obtain ⟨yy15, eyy15, hyy15⟩ := getD_b stv1 (j := ((xy14 * 100) - i9).toNat) (by rw [stl1]; omega)
          refine z_stbald (y := yy15) C stm1 (((xy14 * 100) - i9).toNat) (by omega) (by rw [stl1]; omega) (by rw [stl1]; decide) eyy15 dJ6_getChars_ba4f3_54 ?_
          refine z_bast C (by omega) hay3 f1 ((p9 - 1).toNat) (by omega) (by omega) (by omega) (by omega) dJ6_getChars_ba4f3_55 (fun gy16 egy17 => ?_)
          have hgy18 := up_s egy17
          refine z_aload_n C 5 dJ6_getChars_ba4f3_56 rfl ?_
          refine z_iinc (z := p9 - 1 - 1) (lv' := [(5, .int (zI (p9 - 1 - 1))), (0, .int (zI (xy14))), (4, .int (zI ((xy14 * 100) - i9))), (3, .int (zI (xy14))), (6, .int (zI (0))), (2, .ref (ad v))]) (j := 0) C dJ6_getChars_ba4f3_57 rfl (congrArg zI (by omega)) (by decide) rfl ?_
          refine z_iload C 0 dJ6_getChars_ba4f3_60 rfl ?_
          refine z_getSt C stm2 q_1106 dJ6_getChars_ba4f3_62 ?_
          refine z_iload C 2 dJ6_getChars_ba4f3_65 rfl ?_
          obtain ⟨yy19, eyy19, hyy19⟩ := getD_b stv2 (j := ((xy14 * 100) - i9).toNat) (by rw [stl2]; omega)
          refine z_stbald (y := yy19) C stm2 (((xy14 * 100) - i9).toNat) (by omega) (by rw [stl2]; omega) (by rw [stl2]; decide) eyy19 dJ6_getChars_ba4f3_67 ?_
          refine z_bast C (by omega) hay3 hgy18 ((p9 - 1 - 1).toNat) (by omega) (by omega) (by omega) (by omega) dJ6_getChars_ba4f3_68 (fun gy20 egy21 => ?_)
          have hgy22 := up_s egy21
          refine z_goto (tgt := 22) C dJ6_getChars_ba4f3_69 (by decide) ?_
          refine z_lv (lv' := [(0, .int (zI (xy14))), (5, .int (zI (p9 - 1 - 1))), (6, .int (zI (0))), (2, .ref (ad v))]) [1, 0, 4, 5] rfl ?_
          exact ih _ (by omega) (xy14) (p9 - 1 - 1) _ gy20 rfl hgy22 (uB (uB f6 (by omega)) (by omega)) (fun j j1 => by rw [egy21, va_up_ne _ _ (by omega)]; rw [egy17, va_up_ne _ _ (by omega)]; exact f3 j j1) (by omega) (by omega)
    refine z_lv (lv' := [(0, .int (zI (-(z)))), (5, .int (zI (z1))), (6, .int (zI (0))), (2, .ref (ad v))]) [0, 2, 1, 4] rfl ?_
    exact lp _ (-(z)) (z1) _ g rfl hgv hby (fun j j1 => by rfl) (by omega) (by omega)
  · refine z_iconst (z := 1) C dJ6_getChars_ba4f3_7 rfl ?_
    refine z_goto (tgt := 12) C dJ6_getChars_ba4f3_8 (by decide) ?_
    refine z_istore (lv' := [(6, .int (zI (1))), (5, .int (zI (z1))), (0, .int (zI (z))), (1, .int (zI (z1))), (2, .ref (ad v))]) C dJ6_getChars_ba4f3_12 (by decide) rfl ?_
    refine z_iload C 0 dJ6_getChars_ba4f3_14 rfl ?_
    refine z_if_ne (tgt := 22) C dJ6_getChars_ba4f3_16 (by decide) (by omega) (fun _ => ?_) (fun h => absurd h (by omega))
    have lp : ∀ (n9 : Nat) (i9 : Int) (p9 : Int) (b9 : Nat → Int) (g1 : Nat → va_E), (p9).toNat = n9 → (g1 v = bA cs cap b9) → (∀ j, -128 ≤ b9 j ∧ b9 j ≤ 127) → (∀ j, j ≠ v → g1 j = g j) → ((-2147483648 ≤ i9 ∧ i9 ≤ 0) ∧ 0 ≤ p9 ∧ p9 ≤ (cap : Int)) → (((1 ≤ p9 - 1 ∧ -10 < i9) ∨ (2 ≤ p9 - 1 ∧ -100 < i9) ∨ (3 ≤ p9 - 1 ∧ -1000 < i9) ∨ (4 ≤ p9 - 1 ∧ -10000 < i9) ∨ (5 ≤ p9 - 1 ∧ -100000 < i9) ∨ (6 ≤ p9 - 1 ∧ -1000000 < i9) ∨ (7 ≤ p9 - 1 ∧ -10000000 < i9) ∨ (8 ≤ p9 - 1 ∧ -100000000 < i9) ∨ (9 ≤ p9 - 1 ∧ -1000000000 < i9) ∨ (10 ≤ p9 - 1 ∧ -10000000000 < i9))) → zV p l e ({ frames := 1, cells := 0, slots := 0, locals := 60 } : Room) s m ([.int (zI (z)), .int (zI (z1)), .ref (ad v)] : List Value).toArray below meth c (MQ below (zPost D A (rI0 N ad fun r g' => (-2147483648 ≤ r ∧ r ≤ 2147483647) ∧ (∃ b' : Nat → Int, (∀ j, -128 ≤ b' j ∧ b' j ≤ 127) ∧ g' v = bA cs cap b') ∧ ∀ j, j ≠ v → g' j = g j)) ([.int (zI (z)), .int (zI (z1)), .ref (ad v)] : List Value).toArray s ({ frames := 1, cells := 0, slots := 0, locals := 60 } : Room).cells ({ frames := 1, cells := 0, slots := 0, locals := 60 } : Room).slots A) D A 7 (N) ad g1 (0) (0) 22 [(0, .int (zI (i9))), (5, .int (zI (p9))), (6, .int (zI (1))), (2, .ref (ad v))] [] := by
      intro n9
      induction n9 using Nat.strongRecOn with
      | ind n9 ih =>
        intro i9 p9 b9 g1 hm9 f1 f6 f3 f4 f5
        have hay23 : zAt ad (v) (ad v) := rfl
        refine z_iload_n C 0 dJ6_getChars_ba4f3_22 rfl ?_
        refine z_bipush (z := -100) C dJ6_getChars_ba4f3_23 (by decide) ?_
        refine z_icmp_gt (tgt := 72) C dJ6_getChars_ba4f3_25 (by decide) (by omega) (by omega) (fun hby24 => ?_) (fun hby24 => ?_)
        · refine z_aload_n C 3 dJ6_getChars_ba4f3_72 rfl ?_
          refine z_iinc (z := p9 - 1) (lv' := [(5, .int (zI (p9 - 1))), (0, .int (zI (i9))), (6, .int (zI (1))), (2, .ref (ad v))]) (j := 1) C dJ6_getChars_ba4f3_73 rfl (congrArg zI (by omega)) (by decide) rfl ?_
          refine z_iload C 0 dJ6_getChars_ba4f3_76 rfl ?_
          refine z_getSt C stm1 q_1104 dJ6_getChars_ba4f3_78 ?_
          refine z_iload_n C 1 dJ6_getChars_ba4f3_81 rfl ?_
          refine z_ineg C dJ6_getChars_ba4f3_82 ?_
          obtain ⟨yy25, eyy25, hyy25⟩ := getD_b stv1 (j := (-(i9)).toNat) (by rw [stl1]; omega)
          refine z_stbald (y := yy25) C stm1 ((-(i9)).toNat) (by omega) (by rw [stl1]; omega) (by rw [stl1]; decide) eyy25 dJ6_getChars_ba4f3_83 ?_
          refine z_bast C (by omega) hay23 f1 ((p9 - 1).toNat) (by omega) (by omega) (by omega) (by omega) dJ6_getChars_ba4f3_84 (fun gy26 egy27 => ?_)
          have hgy28 := up_s egy27
          refine z_iload_n C 1 dJ6_getChars_ba4f3_85 rfl ?_
          refine z_bipush (z := -9) C dJ6_getChars_ba4f3_86 (by decide) ?_
          refine z_icmp_ge (tgt := 104) C dJ6_getChars_ba4f3_88 (by decide) (by omega) (by omega) (fun hby29 => ?_) (fun hby29 => ?_)
          · refine z_iload C 2 dJ6_getChars_ba4f3_104 rfl ?_
            refine z_if_eq (tgt := 118) C dJ6_getChars_ba4f3_106 (by decide) (by omega) (fun h => absurd h (by omega)) (fun _ => ?_)
            refine z_aload_n C 3 dJ6_getChars_ba4f3_109 rfl ?_
            refine z_iinc (z := p9 - 1 - 1) (lv' := [(5, .int (zI (p9 - 1 - 1))), (0, .int (zI (i9))), (6, .int (zI (1))), (2, .ref (ad v))]) (j := 0) C dJ6_getChars_ba4f3_110 rfl (congrArg zI (by omega)) (by decide) rfl ?_
            refine z_iload C 0 dJ6_getChars_ba4f3_113 rfl ?_
            refine z_bipush (z := 45) C dJ6_getChars_ba4f3_115 (by decide) ?_
            refine z_bast C (by omega) hay23 hgy28 ((p9 - 1 - 1).toNat) (by omega) (by omega) (by omega) (by omega) dJ6_getChars_ba4f3_117 (fun gy30 egy31 => ?_)
            have hgy32 := up_s egy31
            refine z_iload C 0 dJ6_getChars_ba4f3_118 rfl ?_
            exact z_iret C hr hlk dJ6_getChars_ba4f3_120 (by decide) (by decide) ⟨p9 - 1 - 1, rfl, rfl, rfl, by omega, ⟨_, (uB (uB f6 (by omega)) (by omega)), hgy32⟩, fun j j1 => by rw [egy31, va_up_ne _ _ (by omega)]; rw [egy27, va_up_ne _ _ (by omega)]; exact f3 j j1⟩
          · refine z_aload_n C 3 dJ6_getChars_ba4f3_91 rfl ?_
            refine z_iinc (z := p9 - 1 - 1) (lv' := [(5, .int (zI (p9 - 1 - 1))), (0, .int (zI (i9))), (6, .int (zI (1))), (2, .ref (ad v))]) (j := 0) C dJ6_getChars_ba4f3_92 rfl (congrArg zI (by omega)) (by decide) rfl ?_
            refine z_iload C 0 dJ6_getChars_ba4f3_95 rfl ?_
            refine z_getSt C stm2 q_1106 dJ6_getChars_ba4f3_97 ?_
            refine z_iload_n C 1 dJ6_getChars_ba4f3_100 rfl ?_
            refine z_ineg C dJ6_getChars_ba4f3_101 ?_
            obtain ⟨yy33, eyy33, hyy33⟩ := getD_b stv2 (j := (-(i9)).toNat) (by rw [stl2]; omega)
            refine z_stbald (y := yy33) C stm2 ((-(i9)).toNat) (by omega) (by rw [stl2]; omega) (by rw [stl2]; decide) eyy33 dJ6_getChars_ba4f3_102 ?_
            refine z_bast C (by omega) hay23 hgy28 ((p9 - 1 - 1).toNat) (by omega) (by omega) (by omega) (by omega) dJ6_getChars_ba4f3_103 (fun gy34 egy35 => ?_)
            have hgy36 := up_s egy35
            refine z_iload C 2 dJ6_getChars_ba4f3_104 rfl ?_
            refine z_if_eq (tgt := 118) C dJ6_getChars_ba4f3_106 (by decide) (by omega) (fun h => absurd h (by omega)) (fun _ => ?_)
            refine z_aload_n C 3 dJ6_getChars_ba4f3_109 rfl ?_
            refine z_iinc (z := p9 - 1 - 1 - 1) (lv' := [(5, .int (zI (p9 - 1 - 1 - 1))), (0, .int (zI (i9))), (6, .int (zI (1))), (2, .ref (ad v))]) (j := 0) C dJ6_getChars_ba4f3_110 rfl (congrArg zI (by omega)) (by decide) rfl ?_
            refine z_iload C 0 dJ6_getChars_ba4f3_113 rfl ?_
            refine z_bipush (z := 45) C dJ6_getChars_ba4f3_115 (by decide) ?_
            refine z_bast C (by omega) hay23 hgy36 ((p9 - 1 - 1 - 1).toNat) (by omega) (by omega) (by omega) (by omega) dJ6_getChars_ba4f3_117 (fun gy37 egy38 => ?_)
            have hgy39 := up_s egy38
            refine z_iload C 0 dJ6_getChars_ba4f3_118 rfl ?_
            exact z_iret C hr hlk dJ6_getChars_ba4f3_120 (by decide) (by decide) ⟨p9 - 1 - 1 - 1, rfl, rfl, rfl, by omega, ⟨_, (uB (uB (uB f6 (by omega)) (by omega)) (by omega)), hgy39⟩, fun j j1 => by rw [egy38, va_up_ne _ _ (by omega)]; rw [egy35, va_up_ne _ _ (by omega)]; rw [egy27, va_up_ne _ _ (by omega)]; exact f3 j j1⟩
        · refine z_iload_n C 0 dJ6_getChars_ba4f3_28 rfl ?_
          refine z_bipush (z := 100) C dJ6_getChars_ba4f3_29 (by decide) ?_
          refine z_idiv C dJ6_getChars_ba4f3_31 (by omega) (by omega) (by omega) ?_
          obtain ⟨xy40, exy40, hxy40⟩ := tdn (a := i9) (by omega)
          rw [exy40]
          refine z_istore_n (lv' := [(3, .int (zI (xy40))), (0, .int (zI (i9))), (5, .int (zI (p9))), (6, .int (zI (1))), (2, .ref (ad v))]) C dJ6_getChars_ba4f3_32 rfl (by decide) rfl ?_
          refine z_iload_n C 0 dJ6_getChars_ba4f3_33 rfl ?_
          refine z_bipush (z := 100) C dJ6_getChars_ba4f3_34 (by decide) ?_
          refine z_imul C dJ6_getChars_ba4f3_36 ?_
          refine z_iload_n C 1 dJ6_getChars_ba4f3_37 rfl ?_
          refine z_isub C dJ6_getChars_ba4f3_38 ?_
          refine z_istore (lv' := [(4, .int (zI ((xy40 * 100) - i9))), (3, .int (zI (xy40))), (0, .int (zI (i9))), (5, .int (zI (p9))), (6, .int (zI (1))), (2, .ref (ad v))]) C dJ6_getChars_ba4f3_39 (by decide) rfl ?_
          refine z_iload_n C 1 dJ6_getChars_ba4f3_41 rfl ?_
          refine z_istore_n (lv' := [(0, .int (zI (xy40))), (4, .int (zI ((xy40 * 100) - i9))), (3, .int (zI (xy40))), (5, .int (zI (p9))), (6, .int (zI (1))), (2, .ref (ad v))]) C dJ6_getChars_ba4f3_42 rfl (by decide) rfl ?_
          refine z_aload_n C 5 dJ6_getChars_ba4f3_43 rfl ?_
          refine z_iinc (z := p9 - 1) (lv' := [(5, .int (zI (p9 - 1))), (0, .int (zI (xy40))), (4, .int (zI ((xy40 * 100) - i9))), (3, .int (zI (xy40))), (6, .int (zI (1))), (2, .ref (ad v))]) (j := 3) C dJ6_getChars_ba4f3_44 rfl (congrArg zI (by omega)) (by decide) rfl ?_
          refine z_iload C 0 dJ6_getChars_ba4f3_47 rfl ?_
          refine z_getSt C stm1 q_1104 dJ6_getChars_ba4f3_49 ?_
          refine z_iload C 2 dJ6_getChars_ba4f3_52 rfl ?_
          obtain ⟨yy41, eyy41, hyy41⟩ := getD_b stv1 (j := ((xy40 * 100) - i9).toNat) (by rw [stl1]; omega)
          refine z_stbald (y := yy41) C stm1 (((xy40 * 100) - i9).toNat) (by omega) (by rw [stl1]; omega) (by rw [stl1]; decide) eyy41 dJ6_getChars_ba4f3_54 ?_
          refine z_bast C (by omega) hay23 f1 ((p9 - 1).toNat) (by omega) (by omega) (by omega) (by omega) dJ6_getChars_ba4f3_55 (fun gy42 egy43 => ?_)
          have hgy44 := up_s egy43
          refine z_aload_n C 5 dJ6_getChars_ba4f3_56 rfl ?_
          refine z_iinc (z := p9 - 1 - 1) (lv' := [(5, .int (zI (p9 - 1 - 1))), (0, .int (zI (xy40))), (4, .int (zI ((xy40 * 100) - i9))), (3, .int (zI (xy40))), (6, .int (zI (1))), (2, .ref (ad v))]) (j := 0) C dJ6_getChars_ba4f3_57 rfl (congrArg zI (by omega)) (by decide) rfl ?_
          refine z_iload C 0 dJ6_getChars_ba4f3_60 rfl ?_
          refine z_getSt C stm2 q_1106 dJ6_getChars_ba4f3_62 ?_
          refine z_iload C 2 dJ6_getChars_ba4f3_65 rfl ?_
          obtain ⟨yy45, eyy45, hyy45⟩ := getD_b stv2 (j := ((xy40 * 100) - i9).toNat) (by rw [stl2]; omega)
          refine z_stbald (y := yy45) C stm2 (((xy40 * 100) - i9).toNat) (by omega) (by rw [stl2]; omega) (by rw [stl2]; decide) eyy45 dJ6_getChars_ba4f3_67 ?_
          refine z_bast C (by omega) hay23 hgy44 ((p9 - 1 - 1).toNat) (by omega) (by omega) (by omega) (by omega) dJ6_getChars_ba4f3_68 (fun gy46 egy47 => ?_)
          have hgy48 := up_s egy47
          refine z_goto (tgt := 22) C dJ6_getChars_ba4f3_69 (by decide) ?_
          refine z_lv (lv' := [(0, .int (zI (xy40))), (5, .int (zI (p9 - 1 - 1))), (6, .int (zI (1))), (2, .ref (ad v))]) [1, 0, 4, 5] rfl ?_
          exact ih _ (by omega) (xy40) (p9 - 1 - 1) _ gy46 rfl hgy48 (uB (uB f6 (by omega)) (by omega)) (fun j j1 => by rw [egy47, va_up_ne _ _ (by omega)]; rw [egy43, va_up_ne _ _ (by omega)]; exact f3 j j1) (by omega) (by omega)
    refine z_lv (lv' := [(0, .int (zI (z))), (5, .int (zI (z1))), (6, .int (zI (1))), (2, .ref (ad v))]) [2, 1, 0, 4] rfl ?_
    exact lp _ (z) (z1) _ g rfl hgv hby (fun j j1 => by rfl) (by omega) (by omega)
end
section
-- 65.words.lean.txt
-- words of clause
theorem q_101 : (Jvm.Cond.fieldLink "SnowRecorder$TextReader" (111 : Nat) "SnowRecorder$Plan" "open" "[I") ∈ AW := AW_m1 101 (by decide +kernel) (by decide +kernel)
theorem q_106 : (Jvm.Cond.fieldLink "SnowRecorder$TextReader" (140 : Nat) "SnowRecorder$Plan" "air" "[I") ∈ AW := AW_m1 106 (by decide +kernel) (by decide +kernel)
theorem q_109 : (Jvm.Cond.fieldLink "SnowRecorder$TextReader" (143 : Nat) "SnowRecorder$Plan" "fall" "[I") ∈ AW := AW_m1 109 (by decide +kernel) (by decide +kernel)
theorem q_112 : (Jvm.Cond.fieldLink "SnowRecorder$TextReader" (146 : Nat) "SnowRecorder$Plan" "much" "[I") ∈ AW := AW_m1 112 (by decide +kernel) (by decide +kernel)
theorem q_114 : (Jvm.Cond.fieldLink "SnowRecorder$TextReader" (155 : Nat) "SnowRecorder$Plan" "table" "[I") ∈ AW := AW_m1 114 (by decide +kernel) (by decide +kernel)
theorem q_157 : (Jvm.Cond.fieldLink "SnowRecorder$TextReader" (118 : Nat) "SnowRecorder$Pack" "size" "I") ∈ AW := AW_m1 157 (by decide +kernel) (by decide +kernel)
theorem q_178 : (Jvm.Cond.fieldLink "SnowRecorder$TextReader" (127 : Nat) "SnowRecorder$World" "names" "I") ∈ AW := AW_m1 178 (by decide +kernel) (by decide +kernel)
theorem q_189 : (Jvm.Cond.fieldLink "SnowRecorder$TextReader" (114 : Nat) "SnowRecorder$World" "packs" "[LSnowRecorder$Pack;") ∈ AW := AW_m1 189 (by decide +kernel) (by decide +kernel)
theorem q_805 : (Jvm.Cond.methodLink "SnowRecorder$TextReader" (67 : Nat) ({ cls := "SnowRecorder$TextReader", name := "readSlope", desc := "(LSnowRecorder$Plan;)V" } : Jvm.MethodName)) ∈ AW := AW_m4 85 (by decide +kernel) (by decide +kernel)
theorem q_807 : (Jvm.Cond.instanceMethod ({ cls := "SnowRecorder$TextReader", name := "readSlope", desc := "(LSnowRecorder$Plan;)V" } : Jvm.MethodName)) ∈ AW := AW_m4 87 (by decide +kernel) (by decide +kernel)
theorem q_808 : (Jvm.Cond.code ({ cls := "SnowRecorder$TextReader", name := "readSlope", desc := "(LSnowRecorder$Plan;)V" } : Jvm.MethodName) prog_9_method_4_code (4 : Nat) (Option.none : Option Jvm.ClassFile.FieldType)) ∈ AW := AW_m4 88 (by decide +kernel) (by decide +kernel)
theorem q_817 : (Jvm.Cond.methodLink "SnowRecorder$TextReader" (101 : Nat) ({ cls := "SnowRecorder$TextReader", name := "number", desc := "(II)I" } : Jvm.MethodName)) ∈ AW := AW_m4 97 (by decide +kernel) (by decide +kernel)
theorem q_819 : (Jvm.Cond.instanceMethod ({ cls := "SnowRecorder$TextReader", name := "number", desc := "(II)I" } : Jvm.MethodName)) ∈ AW := AW_m4 99 (by decide +kernel) (by decide +kernel)
theorem q_820 : (Jvm.Cond.code ({ cls := "SnowRecorder$TextReader", name := "number", desc := "(II)I" } : Jvm.MethodName) prog_9_method_10_code (5 : Nat) (Option.some Jvm.ClassFile.FieldType.int)) ∈ AW := AW_m4 100 (by decide +kernel) (by decide +kernel)
theorem q_821 : (Jvm.Cond.methodLink "SnowRecorder$TextReader" (104 : Nat) ({ cls := "SnowRecorder$TextReader", name := "close", desc := "()V" } : Jvm.MethodName)) ∈ AW := AW_m4 101 (by decide +kernel) (by decide +kernel)
theorem q_823 : (Jvm.Cond.instanceMethod ({ cls := "SnowRecorder$TextReader", name := "close", desc := "()V" } : Jvm.MethodName)) ∈ AW := AW_m4 103 (by decide +kernel) (by decide +kernel)
theorem q_824 : (Jvm.Cond.code ({ cls := "SnowRecorder$TextReader", name := "close", desc := "()V" } : Jvm.MethodName) prog_9_method_11_code (1 : Nat) (Option.none : Option Jvm.ClassFile.FieldType)) ∈ AW := AW_m4 104 (by decide +kernel) (by decide +kernel)
theorem q_826 : (Jvm.Cond.methodLink "SnowRecorder$TextReader" (73 : Nat) ({ cls := "SnowRecorder$TextReader", name := "readLayer", desc := "(LSnowRecorder$Plan;LSnowRecorder$World;)V" } : Jvm.MethodName)) ∈ AW := AW_m4 106 (by decide +kernel) (by decide +kernel)
theorem q_828 : (Jvm.Cond.instanceMethod ({ cls := "SnowRecorder$TextReader", name := "readLayer", desc := "(LSnowRecorder$Plan;LSnowRecorder$World;)V" } : Jvm.MethodName)) ∈ AW := AW_m4 108 (by decide +kernel) (by decide +kernel)
theorem q_829 : (Jvm.Cond.code ({ cls := "SnowRecorder$TextReader", name := "readLayer", desc := "(LSnowRecorder$Plan;LSnowRecorder$World;)V" } : Jvm.MethodName) prog_9_method_5_code (9 : Nat) (Option.none : Option Jvm.ClassFile.FieldType)) ∈ AW := AW_m4 109 (by decide +kernel) (by decide +kernel)
theorem q_830 : (Jvm.Cond.methodLink "SnowRecorder$TextReader" (123 : Nat) ({ cls := "SnowRecorder$TextReader", name := "kind", desc := "()I" } : Jvm.MethodName)) ∈ AW := AW_m4 110 (by decide +kernel) (by decide +kernel)
theorem q_832 : (Jvm.Cond.instanceMethod ({ cls := "SnowRecorder$TextReader", name := "kind", desc := "()I" } : Jvm.MethodName)) ∈ AW := AW_m4 112 (by decide +kernel) (by decide +kernel)
theorem q_833 : (Jvm.Cond.code ({ cls := "SnowRecorder$TextReader", name := "kind", desc := "()I" } : Jvm.MethodName) prog_9_method_9_code (2 : Nat) (Option.some Jvm.ClassFile.FieldType.int)) ∈ AW := AW_m4 113 (by decide +kernel) (by decide +kernel)
theorem q_842 : (Jvm.Cond.methodLink "SnowRecorder$TextReader" (130 : Nat) ({ cls := "SnowRecorder$Pack", name := "add", desc := "(IIIIII)V" } : Jvm.MethodName)) ∈ AW := AW_m4 122 (by decide +kernel) (by decide +kernel)
theorem q_844 : (Jvm.Cond.methodLink "SnowRecorder$TextReader" (78 : Nat) ({ cls := "SnowRecorder$TextReader", name := "readHour", desc := "(LSnowRecorder$Plan;)V" } : Jvm.MethodName)) ∈ AW := AW_m4 124 (by decide +kernel) (by decide +kernel)
theorem q_846 : (Jvm.Cond.instanceMethod ({ cls := "SnowRecorder$TextReader", name := "readHour", desc := "(LSnowRecorder$Plan;)V" } : Jvm.MethodName)) ∈ AW := AW_m4 126 (by decide +kernel) (by decide +kernel)
theorem q_847 : (Jvm.Cond.code ({ cls := "SnowRecorder$TextReader", name := "readHour", desc := "(LSnowRecorder$Plan;)V" } : Jvm.MethodName) prog_9_method_6_code (6 : Nat) (Option.none : Option Jvm.ClassFile.FieldType)) ∈ AW := AW_m4 127 (by decide +kernel) (by decide +kernel)
theorem q_848 : (Jvm.Cond.methodLink "SnowRecorder$TextReader" (137 : Nat) ({ cls := "SnowRecorder$TextReader", name := "readFall", desc := "()I" } : Jvm.MethodName)) ∈ AW := AW_m4 128 (by decide +kernel) (by decide +kernel)
theorem q_850 : (Jvm.Cond.instanceMethod ({ cls := "SnowRecorder$TextReader", name := "readFall", desc := "()I" } : Jvm.MethodName)) ∈ AW := AW_m4 130 (by decide +kernel) (by decide +kernel)
theorem q_851 : (Jvm.Cond.code ({ cls := "SnowRecorder$TextReader", name := "readFall", desc := "()I" } : Jvm.MethodName) prog_9_method_7_code (2 : Nat) (Option.some Jvm.ClassFile.FieldType.int)) ∈ AW := AW_m4 131 (by decide +kernel) (by decide +kernel)
theorem q_856 : (Jvm.Cond.methodLink "SnowRecorder$TextReader" (83 : Nat) ({ cls := "SnowRecorder$TextReader", name := "readTable", desc := "(LSnowRecorder$Plan;III)V" } : Jvm.MethodName)) ∈ AW := AW_m4 136 (by decide +kernel) (by decide +kernel)
theorem q_858 : (Jvm.Cond.instanceMethod ({ cls := "SnowRecorder$TextReader", name := "readTable", desc := "(LSnowRecorder$Plan;III)V" } : Jvm.MethodName)) ∈ AW := AW_m4 138 (by decide +kernel) (by decide +kernel)
theorem q_859 : (Jvm.Cond.code ({ cls := "SnowRecorder$TextReader", name := "readTable", desc := "(LSnowRecorder$Plan;III)V" } : Jvm.MethodName) prog_9_method_8_code (7 : Nat) (Option.none : Option Jvm.ClassFile.FieldType)) ∈ AW := AW_m4 139 (by decide +kernel) (by decide +kernel)
theorem q_89 : (Jvm.Cond.fieldLink "SnowRecorder$TextReader" (95 : Nat) "SnowRecorder$Plan" "slopes" "I") ∈ AW := AW_m1 89 (by decide +kernel) (by decide +kernel)
theorem q_94 : (Jvm.Cond.fieldLink "SnowRecorder$TextReader" (134 : Nat) "SnowRecorder$Plan" "hours" "I") ∈ AW := AW_m1 94 (by decide +kernel) (by decide +kernel)
theorem q_97 : (Jvm.Cond.fieldLink "SnowRecorder$TextReader" (107 : Nat) "SnowRecorder$Plan" "steep" "[I") ∈ AW := AW_m1 97 (by decide +kernel) (by decide +kernel)
theorem s_12 : Cond.selects "SnowRecorder$TextReader" ({ cls := "SnowRecorder$TextReader", name := "readSlope", desc := "(LSnowRecorder$Plan;)V" } : Jvm.MethodName) ({ cls := "SnowRecorder$TextReader", name := "readSlope", desc := "(LSnowRecorder$Plan;)V" } : Jvm.MethodName) ∈ AW := AW_m 12 (by decide +kernel) (by decide +kernel)
theorem s_15 : Cond.selects "SnowRecorder$TextReader" ({ cls := "SnowRecorder$TextReader", name := "number", desc := "(II)I" } : Jvm.MethodName) ({ cls := "SnowRecorder$TextReader", name := "number", desc := "(II)I" } : Jvm.MethodName) ∈ AW := AW_m 15 (by decide +kernel) (by decide +kernel)
theorem s_16 : Cond.selects "SnowRecorder$TextReader" ({ cls := "SnowRecorder$TextReader", name := "close", desc := "()V" } : Jvm.MethodName) ({ cls := "SnowRecorder$TextReader", name := "close", desc := "()V" } : Jvm.MethodName) ∈ AW := AW_m 16 (by decide +kernel) (by decide +kernel)
theorem s_17 : Cond.selects "SnowRecorder$TextReader" ({ cls := "SnowRecorder$TextReader", name := "readLayer", desc := "(LSnowRecorder$Plan;LSnowRecorder$World;)V" } : Jvm.MethodName) ({ cls := "SnowRecorder$TextReader", name := "readLayer", desc := "(LSnowRecorder$Plan;LSnowRecorder$World;)V" } : Jvm.MethodName) ∈ AW := AW_m 17 (by decide +kernel) (by decide +kernel)
theorem s_18 : Cond.selects "SnowRecorder$TextReader" ({ cls := "SnowRecorder$TextReader", name := "kind", desc := "()I" } : Jvm.MethodName) ({ cls := "SnowRecorder$TextReader", name := "kind", desc := "()I" } : Jvm.MethodName) ∈ AW := AW_m 18 (by decide +kernel) (by decide +kernel)
theorem s_19 : Cond.selects "SnowRecorder$TextReader" ({ cls := "SnowRecorder$TextReader", name := "readHour", desc := "(LSnowRecorder$Plan;)V" } : Jvm.MethodName) ({ cls := "SnowRecorder$TextReader", name := "readHour", desc := "(LSnowRecorder$Plan;)V" } : Jvm.MethodName) ∈ AW := AW_m 19 (by decide +kernel) (by decide +kernel)
theorem s_20 : Cond.selects "SnowRecorder$TextReader" ({ cls := "SnowRecorder$TextReader", name := "readFall", desc := "()I" } : Jvm.MethodName) ({ cls := "SnowRecorder$TextReader", name := "readFall", desc := "()I" } : Jvm.MethodName) ∈ AW := AW_m 20 (by decide +kernel) (by decide +kernel)
theorem s_21 : Cond.selects "SnowRecorder$TextReader" ({ cls := "SnowRecorder$TextReader", name := "readTable", desc := "(LSnowRecorder$Plan;III)V" } : Jvm.MethodName) ({ cls := "SnowRecorder$TextReader", name := "readTable", desc := "(LSnowRecorder$Plan;III)V" } : Jvm.MethodName) ∈ AW := AW_m 21 (by decide +kernel) (by decide +kernel)
theorem hd_yX7_number : yX7_number.cls ≠ "java/lang/invoke/MethodHandle" ∧ yX7_number.cls ≠ "java/lang/invoke/VarHandle" ∧ (parseMethodDescriptor yX7_number.desc).map (fun d => d.parameters.length) = some 2 := by decide +kernel
theorem hd_yX7_close : yX7_close.cls ≠ "java/lang/invoke/MethodHandle" ∧ yX7_close.cls ≠ "java/lang/invoke/VarHandle" ∧ (parseMethodDescriptor yX7_close.desc).map (fun d => d.parameters.length) = some 0 := by decide +kernel
theorem hd_yX7_readFall : yX7_readFall.cls ≠ "java/lang/invoke/MethodHandle" ∧ yX7_readFall.cls ≠ "java/lang/invoke/VarHandle" ∧ (parseMethodDescriptor yX7_readFall.desc).map (fun d => d.parameters.length) = some 0 := by decide +kernel
theorem hd_yX7_kind : yX7_kind.cls ≠ "java/lang/invoke/MethodHandle" ∧ yX7_kind.cls ≠ "java/lang/invoke/VarHandle" ∧ (parseMethodDescriptor yX7_kind.desc).map (fun d => d.parameters.length) = some 0 := by decide +kernel
theorem hd_yX7_readTable : yX7_readTable.cls ≠ "java/lang/invoke/MethodHandle" ∧ yX7_readTable.cls ≠ "java/lang/invoke/VarHandle" ∧ (parseMethodDescriptor yX7_readTable.desc).map (fun d => d.parameters.length) = some 4 := by decide +kernel
theorem hd_yX7_readHour : yX7_readHour.cls ≠ "java/lang/invoke/MethodHandle" ∧ yX7_readHour.cls ≠ "java/lang/invoke/VarHandle" ∧ (parseMethodDescriptor yX7_readHour.desc).map (fun d => d.parameters.length) = some 1 := by decide +kernel
theorem hd_yX7_readLayer : yX7_readLayer.cls ≠ "java/lang/invoke/MethodHandle" ∧ yX7_readLayer.cls ≠ "java/lang/invoke/VarHandle" ∧ (parseMethodDescriptor yX7_readLayer.desc).map (fun d => d.parameters.length) = some 2 := by decide +kernel
theorem hd_yX7_readSlope : yX7_readSlope.cls ≠ "java/lang/invoke/MethodHandle" ∧ yX7_readSlope.cls ≠ "java/lang/invoke/VarHandle" ∧ (parseMethodDescriptor yX7_readSlope.desc).map (fun d => d.parameters.length) = some 1 := by decide +kernel
theorem mv_yX7_number : zWv yX7_number cX7_number 5 (some .int) := ⟨q_819, s_15, q_2, q_820⟩
theorem mv_yX7_close : zWv yX7_close cX7_close 1 none := ⟨q_823, s_16, q_2, q_824⟩
theorem mv_yX7_readFall : zWv yX7_readFall cX7_readFall 2 (some .int) := ⟨q_850, s_20, q_2, q_851⟩
theorem mv_yX7_kind : zWv yX7_kind cX7_kind 2 (some .int) := ⟨q_832, s_18, q_2, q_833⟩
theorem mv_yX7_readTable : zWv yX7_readTable cX7_readTable 7 none := ⟨q_858, s_21, q_2, q_859⟩
theorem mv_yX7_readHour : zWv yX7_readHour cX7_readHour 6 none := ⟨q_846, s_19, q_2, q_847⟩
theorem mv_yX7_readLayer : zWv yX7_readLayer cX7_readLayer 9 none := ⟨q_828, s_17, q_2, q_829⟩
theorem mv_yX7_readSlope : zWv yX7_readSlope cX7_readSlope 4 none := ⟨q_807, s_12, q_2, q_808⟩
end
