-- words of ask
theorem q_102 : (Jvm.Cond.fieldLink "SnowRecorder" (190 : Nat) "SnowRecorder$Plan" "open" "[I") ∈ AW := AW_m1 102 (by decide +kernel) (by decide +kernel)
theorem q_105 : (Jvm.Cond.fieldLink "SnowRecorder" (172 : Nat) "SnowRecorder$Plan" "air" "[I") ∈ AW := AW_m1 105 (by decide +kernel) (by decide +kernel)
theorem q_108 : (Jvm.Cond.fieldLink "SnowRecorder" (175 : Nat) "SnowRecorder$Plan" "fall" "[I") ∈ AW := AW_m1 108 (by decide +kernel) (by decide +kernel)
theorem q_111 : (Jvm.Cond.fieldLink "SnowRecorder" (178 : Nat) "SnowRecorder$Plan" "much" "[I") ∈ AW := AW_m1 111 (by decide +kernel) (by decide +kernel)
theorem q_1220 : (Jvm.Cond.methodLink "SnowRecorder" (303 : Nat) ({ cls := "SnowRecorder", name := "needWhat", desc := "(II)V" } : Jvm.MethodName)) ∈ AW := AW_m6 20 (by decide +kernel) (by decide +kernel)
theorem q_1221 : (Jvm.Cond.static ({ cls := "SnowRecorder", name := "needWhat", desc := "(II)V" } : Jvm.MethodName)) ∈ AW := AW_m6 21 (by decide +kernel) (by decide +kernel)
theorem q_1222 : (Jvm.Cond.code ({ cls := "SnowRecorder", name := "needWhat", desc := "(II)V" } : Jvm.MethodName) prog_1_method_42_code (2 : Nat) (Option.none : Option Jvm.ClassFile.FieldType)) ∈ AW := AW_m6 22 (by decide +kernel) (by decide +kernel)
theorem q_1263 : (Jvm.Cond.methodLink "SnowRecorder" (321 : Nat) ({ cls := "SnowRecorder", name := "extraOf", desc := "(I)I" } : Jvm.MethodName)) ∈ AW := AW_m6 63 (by decide +kernel) (by decide +kernel)
theorem q_1264 : (Jvm.Cond.static ({ cls := "SnowRecorder", name := "extraOf", desc := "(I)I" } : Jvm.MethodName)) ∈ AW := AW_m6 64 (by decide +kernel) (by decide +kernel)
theorem q_1265 : (Jvm.Cond.code ({ cls := "SnowRecorder", name := "extraOf", desc := "(I)I" } : Jvm.MethodName) prog_1_method_47_code (4 : Nat) (Option.some Jvm.ClassFile.FieldType.int)) ∈ AW := AW_m6 65 (by decide +kernel) (by decide +kernel)
theorem q_1316 : (Jvm.Cond.methodLink "SnowRecorder" (338 : Nat) ({ cls := "SnowRecorder", name := "needPit", desc := "(I)V" } : Jvm.MethodName)) ∈ AW := AW_m6 116 (by decide +kernel) (by decide +kernel)
theorem q_1318 : (Jvm.Cond.instanceMethod ({ cls := "SnowRecorder", name := "needPit", desc := "(I)V" } : Jvm.MethodName)) ∈ AW := AW_m6 118 (by decide +kernel) (by decide +kernel)
theorem q_1319 : (Jvm.Cond.code ({ cls := "SnowRecorder", name := "needPit", desc := "(I)V" } : Jvm.MethodName) prog_1_method_41_code (2 : Nat) (Option.none : Option Jvm.ClassFile.FieldType)) ∈ AW := AW_m6 119 (by decide +kernel) (by decide +kernel)
theorem q_161 : (Jvm.Cond.fieldLink "SnowRecorder" (197 : Nat) "SnowRecorder$Pack" "runoff" "I") ∈ AW := AW_m1 161 (by decide +kernel) (by decide +kernel)
theorem q_164 : (Jvm.Cond.fieldLink "SnowRecorder" (216 : Nat) "SnowRecorder$Pack" "cells" "[I") ∈ AW := AW_m1 164 (by decide +kernel) (by decide +kernel)
theorem q_174 : (Jvm.Cond.fieldLink "SnowRecorder" (121 : Nat) "SnowRecorder$World" "time" "I") ∈ AW := AW_m1 174 (by decide +kernel) (by decide +kernel)
theorem q_177 : (Jvm.Cond.fieldLink "SnowRecorder" (128 : Nat) "SnowRecorder$World" "names" "I") ∈ AW := AW_m1 177 (by decide +kernel) (by decide +kernel)
theorem q_180 : (Jvm.Cond.fieldLink "SnowRecorder" (134 : Nat) "SnowRecorder$World" "taken" "I") ∈ AW := AW_m1 180 (by decide +kernel) (by decide +kernel)
theorem q_182 : (Jvm.Cond.fieldLink "SnowRecorder" (137 : Nat) "SnowRecorder$World" "slid" "I") ∈ AW := AW_m1 182 (by decide +kernel) (by decide +kernel)
theorem q_184 : (Jvm.Cond.fieldLink "SnowRecorder" (140 : Nat) "SnowRecorder$World" "slides" "I") ∈ AW := AW_m1 184 (by decide +kernel) (by decide +kernel)
theorem q_218 : (Jvm.Cond.fieldLink "SnowRecorder" (160 : Nat) "SnowRecorder$Notes" "size" "I") ∈ AW := AW_m1 218 (by decide +kernel) (by decide +kernel)
theorem q_243 : (Jvm.Cond.fieldLink "SnowRecorder" (344 : Nat) "SnowRecorder$Pit" "slope" "I") ∈ AW := AW_m2 3 (by decide +kernel) (by decide +kernel)
theorem q_246 : (Jvm.Cond.fieldLink "SnowRecorder" (353 : Nat) "SnowRecorder$Pit" "time" "I") ∈ AW := AW_m2 6 (by decide +kernel) (by decide +kernel)
theorem q_249 : (Jvm.Cond.fieldLink "SnowRecorder" (349 : Nat) "SnowRecorder$Pit" "pack" "LSnowRecorder$Pack;") ∈ AW := AW_m2 9 (by decide +kernel) (by decide +kernel)
theorem q_261 : (Jvm.Cond.fieldLink "SnowRecorder" (153 : Nat) "SnowRecorder$State" "acts" "I") ∈ AW := AW_m2 21 (by decide +kernel) (by decide +kernel)
theorem q_263 : (Jvm.Cond.fieldLink "SnowRecorder" (341 : Nat) "SnowRecorder$State" "pits" "[LSnowRecorder$Pit;") ∈ AW := AW_m2 23 (by decide +kernel) (by decide +kernel)
theorem q_265 : (Jvm.Cond.fieldLink "SnowRecorder" (156 : Nat) "SnowRecorder$State" "notes" "LSnowRecorder$Notes;") ∈ AW := AW_m2 25 (by decide +kernel) (by decide +kernel)
theorem q_267 : (Jvm.Cond.fieldLink "SnowRecorder" (100 : Nat) "SnowRecorder$State" "refused" "[I") ∈ AW := AW_m2 27 (by decide +kernel) (by decide +kernel)
theorem q_545 : (Jvm.Cond.methodLink "SnowRecorder" (225 : Nat) ({ cls := "SnowRecorder$Plan", name := "airAt", desc := "(I)I" } : Jvm.MethodName)) ∈ AW := AW_m3 65 (by decide +kernel) (by decide +kernel)
theorem q_564 : (Jvm.Cond.methodLink "SnowRecorder" (206 : Nat) ({ cls := "SnowRecorder$Pack", name := "lowestUnstable", desc := "(IILSnowRecorder$Plan;)I" } : Jvm.MethodName)) ∈ AW := AW_m3 84 (by decide +kernel) (by decide +kernel)
theorem q_565 : (Jvm.Cond.instanceMethod ({ cls := "SnowRecorder$Pack", name := "lowestUnstable", desc := "(IILSnowRecorder$Plan;)I" } : Jvm.MethodName)) ∈ AW := AW_m3 85 (by decide +kernel) (by decide +kernel)
theorem q_566 : (Jvm.Cond.selects "SnowRecorder$Pack" ({ cls := "SnowRecorder$Pack", name := "lowestUnstable", desc := "(IILSnowRecorder$Plan;)I" } : Jvm.MethodName) ({ cls := "SnowRecorder$Pack", name := "lowestUnstable", desc := "(IILSnowRecorder$Plan;)I" } : Jvm.MethodName)) ∈ AW := AW_m3 86 (by decide +kernel) (by decide +kernel)
theorem q_567 : (Jvm.Cond.code ({ cls := "SnowRecorder$Pack", name := "lowestUnstable", desc := "(IILSnowRecorder$Plan;)I" } : Jvm.MethodName) prog_5_method_26_code (7 : Nat) (Option.some Jvm.ClassFile.FieldType.int)) ∈ AW := AW_m3 87 (by decide +kernel) (by decide +kernel)
theorem q_878 : (Jvm.Cond.methodLink "SnowRecorder" (124 : Nat) ({ cls := "SnowRecorder$World", name := "layers", desc := "()I" } : Jvm.MethodName)) ∈ AW := AW_m4 158 (by decide +kernel) (by decide +kernel)
theorem q_879 : (Jvm.Cond.instanceMethod ({ cls := "SnowRecorder$World", name := "layers", desc := "()I" } : Jvm.MethodName)) ∈ AW := AW_m4 159 (by decide +kernel) (by decide +kernel)
theorem q_880 : (Jvm.Cond.selects "SnowRecorder$World" ({ cls := "SnowRecorder$World", name := "layers", desc := "()I" } : Jvm.MethodName) ({ cls := "SnowRecorder$World", name := "layers", desc := "()I" } : Jvm.MethodName)) ∈ AW := AW_m4 160 (by decide +kernel) (by decide +kernel)
theorem q_881 : (Jvm.Cond.code ({ cls := "SnowRecorder$World", name := "layers", desc := "()I" } : Jvm.MethodName) prog_10_method_4_code (3 : Nat) (Option.some Jvm.ClassFile.FieldType.int)) ∈ AW := AW_m4 161 (by decide +kernel) (by decide +kernel)
theorem q_882 : (Jvm.Cond.methodLink "SnowRecorder" (131 : Nat) ({ cls := "SnowRecorder$World", name := "runoff", desc := "()I" } : Jvm.MethodName)) ∈ AW := AW_m4 162 (by decide +kernel) (by decide +kernel)
theorem q_883 : (Jvm.Cond.instanceMethod ({ cls := "SnowRecorder$World", name := "runoff", desc := "()I" } : Jvm.MethodName)) ∈ AW := AW_m4 163 (by decide +kernel) (by decide +kernel)
theorem q_884 : (Jvm.Cond.selects "SnowRecorder$World" ({ cls := "SnowRecorder$World", name := "runoff", desc := "()I" } : Jvm.MethodName) ({ cls := "SnowRecorder$World", name := "runoff", desc := "()I" } : Jvm.MethodName)) ∈ AW := AW_m4 164 (by decide +kernel) (by decide +kernel)
theorem q_885 : (Jvm.Cond.code ({ cls := "SnowRecorder$World", name := "runoff", desc := "()I" } : Jvm.MethodName) prog_10_method_5_code (3 : Nat) (Option.some Jvm.ClassFile.FieldType.int)) ∈ AW := AW_m4 165 (by decide +kernel) (by decide +kernel)
theorem q_886 : (Jvm.Cond.methodLink "SnowRecorder" (143 : Nat) ({ cls := "SnowRecorder$World", name := "sum", desc := "(I)I" } : Jvm.MethodName)) ∈ AW := AW_m4 166 (by decide +kernel) (by decide +kernel)
theorem q_887 : (Jvm.Cond.instanceMethod ({ cls := "SnowRecorder$World", name := "sum", desc := "(I)I" } : Jvm.MethodName)) ∈ AW := AW_m4 167 (by decide +kernel) (by decide +kernel)
theorem q_888 : (Jvm.Cond.selects "SnowRecorder$World" ({ cls := "SnowRecorder$World", name := "sum", desc := "(I)I" } : Jvm.MethodName) ({ cls := "SnowRecorder$World", name := "sum", desc := "(I)I" } : Jvm.MethodName)) ∈ AW := AW_m4 168 (by decide +kernel) (by decide +kernel)
theorem q_889 : (Jvm.Cond.code ({ cls := "SnowRecorder$World", name := "sum", desc := "(I)I" } : Jvm.MethodName) prog_10_method_6_code (4 : Nat) (Option.some Jvm.ClassFile.FieldType.int)) ∈ AW := AW_m4 169 (by decide +kernel) (by decide +kernel)
theorem q_894 : (Jvm.Cond.methodLink "SnowRecorder" (147 : Nat) ({ cls := "SnowRecorder", name := "worst", desc := "()I" } : Jvm.MethodName)) ∈ AW := AW_m4 174 (by decide +kernel) (by decide +kernel)
theorem q_896 : (Jvm.Cond.instanceMethod ({ cls := "SnowRecorder", name := "worst", desc := "()I" } : Jvm.MethodName)) ∈ AW := AW_m4 176 (by decide +kernel) (by decide +kernel)
theorem q_897 : (Jvm.Cond.code ({ cls := "SnowRecorder", name := "worst", desc := "()I" } : Jvm.MethodName) prog_1_method_44_code (5 : Nat) (Option.some Jvm.ClassFile.FieldType.int)) ∈ AW := AW_m4 177 (by decide +kernel) (by decide +kernel)
theorem q_898 : (Jvm.Cond.methodLink "SnowRecorder" (203 : Nat) ({ cls := "SnowRecorder$Pack", name := "leastRatio", desc := "(ILSnowRecorder$Plan;)I" } : Jvm.MethodName)) ∈ AW := AW_m4 178 (by decide +kernel) (by decide +kernel)
theorem q_899 : (Jvm.Cond.instanceMethod ({ cls := "SnowRecorder$Pack", name := "leastRatio", desc := "(ILSnowRecorder$Plan;)I" } : Jvm.MethodName)) ∈ AW := AW_m4 179 (by decide +kernel) (by decide +kernel)
theorem q_900 : (Jvm.Cond.selects "SnowRecorder$Pack" ({ cls := "SnowRecorder$Pack", name := "leastRatio", desc := "(ILSnowRecorder$Plan;)I" } : Jvm.MethodName) ({ cls := "SnowRecorder$Pack", name := "leastRatio", desc := "(ILSnowRecorder$Plan;)I" } : Jvm.MethodName)) ∈ AW := AW_m4 180 (by decide +kernel) (by decide +kernel)
theorem q_901 : (Jvm.Cond.code ({ cls := "SnowRecorder$Pack", name := "leastRatio", desc := "(ILSnowRecorder$Plan;)I" } : Jvm.MethodName) prog_5_method_25_code (4 : Nat) (Option.some Jvm.ClassFile.FieldType.int)) ∈ AW := AW_m4 181 (by decide +kernel) (by decide +kernel)
theorem q_93 : (Jvm.Cond.fieldLink "SnowRecorder" (118 : Nat) "SnowRecorder$Plan" "hours" "I") ∈ AW := AW_m1 93 (by decide +kernel) (by decide +kernel)
theorem q_936 : (Jvm.Cond.methodLink "SnowRecorder" (183 : Nat) ({ cls := "SnowRecorder", name := "packOf", desc := "(I)LSnowRecorder$Pack;" } : Jvm.MethodName)) ∈ AW := AW_m4 216 (by decide +kernel) (by decide +kernel)
theorem q_938 : (Jvm.Cond.instanceMethod ({ cls := "SnowRecorder", name := "packOf", desc := "(I)LSnowRecorder$Pack;" } : Jvm.MethodName)) ∈ AW := AW_m4 218 (by decide +kernel) (by decide +kernel)
theorem q_939 : (Jvm.Cond.code ({ cls := "SnowRecorder", name := "packOf", desc := "(I)LSnowRecorder$Pack;" } : Jvm.MethodName) prog_1_method_39_code (2 : Nat) (Option.some (Jvm.ClassFile.FieldType.object "SnowRecorder$Pack"))) ∈ AW := AW_m4 219 (by decide +kernel) (by decide +kernel)
theorem q_945 : (Jvm.Cond.methodLink "SnowRecorder" (196 : Nat) ({ cls := "SnowRecorder$Pack", name := "sum", desc := "(I)I" } : Jvm.MethodName)) ∈ AW := AW_m4 225 (by decide +kernel) (by decide +kernel)
theorem q_946 : (Jvm.Cond.methodLink "SnowRecorder" (199 : Nat) ({ cls := "SnowRecorder$Pack", name := "weakest", desc := "(ILSnowRecorder$Plan;)I" } : Jvm.MethodName)) ∈ AW := AW_m4 226 (by decide +kernel) (by decide +kernel)
theorem q_955 : (Jvm.Cond.methodLink "SnowRecorder" (212 : Nat) ({ cls := "SnowRecorder", name := "needLayer", desc := "(LSnowRecorder$Pack;I)V" } : Jvm.MethodName)) ∈ AW := AW_m4 235 (by decide +kernel) (by decide +kernel)
theorem q_957 : (Jvm.Cond.instanceMethod ({ cls := "SnowRecorder", name := "needLayer", desc := "(LSnowRecorder$Pack;I)V" } : Jvm.MethodName)) ∈ AW := AW_m4 237 (by decide +kernel) (by decide +kernel)
theorem q_958 : (Jvm.Cond.code ({ cls := "SnowRecorder", name := "needLayer", desc := "(LSnowRecorder$Pack;I)V" } : Jvm.MethodName) prog_1_method_40_code (3 : Nat) (Option.none : Option Jvm.ClassFile.FieldType)) ∈ AW := AW_m4 238 (by decide +kernel) (by decide +kernel)
theorem q_960 : (Jvm.Cond.methodLink "SnowRecorder" (219 : Nat) ({ cls := "SnowRecorder$Pack", name := "massAbove", desc := "(I)I" } : Jvm.MethodName)) ∈ AW := AW_m5 0 (by decide +kernel) (by decide +kernel)
theorem q_961 : (Jvm.Cond.methodLink "SnowRecorder" (222 : Nat) ({ cls := "SnowRecorder$Pack", name := "mass", desc := "(I)I" } : Jvm.MethodName)) ∈ AW := AW_m5 1 (by decide +kernel) (by decide +kernel)
theorem q_962 : (Jvm.Cond.methodLink "SnowRecorder" (228 : Nat) ({ cls := "SnowRecorder$Pack", name := "grade", desc := "(II)I" } : Jvm.MethodName)) ∈ AW := AW_m5 2 (by decide +kernel) (by decide +kernel)
theorem q_963 : (Jvm.Cond.methodLink "SnowRecorder" (232 : Nat) ({ cls := "SnowRecorder$Pack", name := "strength", desc := "(ILSnowRecorder$Plan;)I" } : Jvm.MethodName)) ∈ AW := AW_m5 3 (by decide +kernel) (by decide +kernel)
theorem q_964 : (Jvm.Cond.methodLink "SnowRecorder" (235 : Nat) ({ cls := "SnowRecorder", name := "burden", desc := "(II)I" } : Jvm.MethodName)) ∈ AW := AW_m5 4 (by decide +kernel) (by decide +kernel)
theorem q_965 : (Jvm.Cond.methodLink "SnowRecorder" (238 : Nat) ({ cls := "SnowRecorder$Pack", name := "ratio", desc := "(IILSnowRecorder$Plan;)I" } : Jvm.MethodName)) ∈ AW := AW_m5 5 (by decide +kernel) (by decide +kernel)
theorem q_98 : (Jvm.Cond.fieldLink "SnowRecorder" (187 : Nat) "SnowRecorder$Plan" "steep" "[I") ∈ AW := AW_m1 98 (by decide +kernel) (by decide +kernel)
theorem s_22 : Cond.selects "SnowRecorder" ({ cls := "SnowRecorder", name := "worst", desc := "()I" } : Jvm.MethodName) ({ cls := "SnowRecorder", name := "worst", desc := "()I" } : Jvm.MethodName) ∈ AW := AW_m 22 (by decide +kernel) (by decide +kernel)
theorem s_23 : Cond.selects "SnowRecorder" ({ cls := "SnowRecorder", name := "packOf", desc := "(I)LSnowRecorder$Pack;" } : Jvm.MethodName) ({ cls := "SnowRecorder", name := "packOf", desc := "(I)LSnowRecorder$Pack;" } : Jvm.MethodName) ∈ AW := AW_m 23 (by decide +kernel) (by decide +kernel)
theorem s_25 : Cond.selects "SnowRecorder" ({ cls := "SnowRecorder", name := "needLayer", desc := "(LSnowRecorder$Pack;I)V" } : Jvm.MethodName) ({ cls := "SnowRecorder", name := "needLayer", desc := "(LSnowRecorder$Pack;I)V" } : Jvm.MethodName) ∈ AW := AW_m 25 (by decide +kernel) (by decide +kernel)
theorem s_29 : Cond.selects "SnowRecorder" ({ cls := "SnowRecorder", name := "needPit", desc := "(I)V" } : Jvm.MethodName) ({ cls := "SnowRecorder", name := "needPit", desc := "(I)V" } : Jvm.MethodName) ∈ AW := AW_m 29 (by decide +kernel) (by decide +kernel)
theorem hd_yX3_leastRatio : yX3_leastRatio.cls ≠ "java/lang/invoke/MethodHandle" ∧ yX3_leastRatio.cls ≠ "java/lang/invoke/VarHandle" ∧ (parseMethodDescriptor yX3_leastRatio.desc).map (fun d => d.parameters.length) = some 2 := by decide +kernel
theorem hd_yX3_lowestUnstable : yX3_lowestUnstable.cls ≠ "java/lang/invoke/MethodHandle" ∧ yX3_lowestUnstable.cls ≠ "java/lang/invoke/VarHandle" ∧ (parseMethodDescriptor yX3_lowestUnstable.desc).map (fun d => d.parameters.length) = some 3 := by decide +kernel
theorem hd_yX8_layers : yX8_layers.cls ≠ "java/lang/invoke/MethodHandle" ∧ yX8_layers.cls ≠ "java/lang/invoke/VarHandle" ∧ (parseMethodDescriptor yX8_layers.desc).map (fun d => d.parameters.length) = some 0 := by decide +kernel
theorem hd_yX8_runoff : yX8_runoff.cls ≠ "java/lang/invoke/MethodHandle" ∧ yX8_runoff.cls ≠ "java/lang/invoke/VarHandle" ∧ (parseMethodDescriptor yX8_runoff.desc).map (fun d => d.parameters.length) = some 0 := by decide +kernel
theorem hd_yX8_sum : yX8_sum.cls ≠ "java/lang/invoke/MethodHandle" ∧ yX8_sum.cls ≠ "java/lang/invoke/VarHandle" ∧ (parseMethodDescriptor yX8_sum.desc).map (fun d => d.parameters.length) = some 1 := by decide +kernel
theorem hd_yX9_worst : yX9_worst.cls ≠ "java/lang/invoke/MethodHandle" ∧ yX9_worst.cls ≠ "java/lang/invoke/VarHandle" ∧ (parseMethodDescriptor yX9_worst.desc).map (fun d => d.parameters.length) = some 0 := by decide +kernel
theorem hd_yX9_packOf : yX9_packOf.cls ≠ "java/lang/invoke/MethodHandle" ∧ yX9_packOf.cls ≠ "java/lang/invoke/VarHandle" ∧ (parseMethodDescriptor yX9_packOf.desc).map (fun d => d.parameters.length) = some 1 := by decide +kernel
theorem hd_yX9_needLayer : yX9_needLayer.cls ≠ "java/lang/invoke/MethodHandle" ∧ yX9_needLayer.cls ≠ "java/lang/invoke/VarHandle" ∧ (parseMethodDescriptor yX9_needLayer.desc).map (fun d => d.parameters.length) = some 2 := by decide +kernel
theorem hd_yX9_needWhat : yX9_needWhat.cls ≠ "java/lang/invoke/MethodHandle" ∧ yX9_needWhat.cls ≠ "java/lang/invoke/VarHandle" ∧ (parseMethodDescriptor yX9_needWhat.desc).map (fun d => d.parameters.length) = some 2 := by decide +kernel
theorem hd_yX9_extraOf : yX9_extraOf.cls ≠ "java/lang/invoke/MethodHandle" ∧ yX9_extraOf.cls ≠ "java/lang/invoke/VarHandle" ∧ (parseMethodDescriptor yX9_extraOf.desc).map (fun d => d.parameters.length) = some 1 := by decide +kernel
theorem hd_yX9_needPit : yX9_needPit.cls ≠ "java/lang/invoke/MethodHandle" ∧ yX9_needPit.cls ≠ "java/lang/invoke/VarHandle" ∧ (parseMethodDescriptor yX9_needPit.desc).map (fun d => d.parameters.length) = some 1 := by decide +kernel
theorem mv_yX3_leastRatio : zWv yX3_leastRatio cX3_leastRatio 4 (some .int) := ⟨q_899, q_900, q_6, q_901⟩
theorem mv_yX3_lowestUnstable : zWv yX3_lowestUnstable cX3_lowestUnstable 7 (some .int) := ⟨q_565, q_566, q_6, q_567⟩
theorem mv_yX8_layers : zWv yX8_layers cX8_layers 3 (some .int) := ⟨q_879, q_880, q_5, q_881⟩
theorem mv_yX8_runoff : zWv yX8_runoff cX8_runoff 3 (some .int) := ⟨q_883, q_884, q_5, q_885⟩
theorem mv_yX8_sum : zWv yX8_sum cX8_sum 4 (some .int) := ⟨q_887, q_888, q_5, q_889⟩
theorem mv_yX9_worst : zWv yX9_worst cX9_worst 5 (some .int) := ⟨q_896, s_22, q_1, q_897⟩
theorem mv_yX9_packOf : zWv yX9_packOf cX9_packOf 2 (some (.object "SnowRecorder$Pack")) := ⟨q_938, s_23, q_1, q_939⟩
theorem mv_yX9_needLayer : zWv yX9_needLayer cX9_needLayer 3 none := ⟨q_957, s_25, q_1, q_958⟩
theorem ms_yX9_needWhat : zWs yX9_needWhat cX9_needWhat 2 none := ⟨q_1221, q_1, q_1222⟩
theorem ms_yX9_extraOf : zWs yX9_extraOf cX9_extraOf 4 (some .int) := ⟨q_1264, q_1, q_1265⟩
theorem mv_yX9_needPit : zWv yX9_needPit cX9_needPit 2 none := ⟨q_1318, s_29, q_1, q_1319⟩
