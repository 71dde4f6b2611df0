-- words of mp
theorem q_1477 : (Jvm.Cond.fieldLink "SnowRecorderModel" (469 : Nat) "SnowRecorderModel" "imageActs" "I") ∈ AW := AW_m 1596 (by decide +kernel) (by decide +kernel)
theorem q_1478 : (Jvm.Cond.fieldLink "SnowRecorderModel" (472 : Nat) "SnowRecorderModel" "imageFirst" "I") ∈ AW := AW_m 1597 (by decide +kernel) (by decide +kernel)
theorem q_1479 : (Jvm.Cond.fieldLink "SnowRecorderModel" (475 : Nat) "SnowRecorderModel" "imageNotes" "I") ∈ AW := AW_m 1598 (by decide +kernel) (by decide +kernel)
theorem q_1482 : (Jvm.Cond.fieldLink "SnowRecorderModel" (321 : Nat) "SnowRecorderModel" "taped" "I") ∈ AW := AW_m 1601 (by decide +kernel) (by decide +kernel)
theorem q_1491 : (Jvm.Cond.fieldLink "SnowRecorderModel" (251 : Nat) "SnowRecorderModel" "next" "I") ∈ AW := AW_m 1610 (by decide +kernel) (by decide +kernel)
theorem q_1492 : (Jvm.Cond.fieldLink "SnowRecorderModel" (254 : Nat) "SnowRecorderModel" "place" "I") ∈ AW := AW_m 1611 (by decide +kernel) (by decide +kernel)
theorem q_1493 : (Jvm.Cond.fieldLink "SnowRecorderModel" (241 : Nat) "SnowRecorderModel" "size" "I") ∈ AW := AW_m 1612 (by decide +kernel) (by decide +kernel)
theorem q_1494 : (Jvm.Cond.fieldLink "SnowRecorderModel" (263 : Nat) "SnowRecorderModel" "sort" "I") ∈ AW := AW_m 1613 (by decide +kernel) (by decide +kernel)
theorem q_1495 : (Jvm.Cond.fieldLink "SnowRecorderModel" (260 : Nat) "SnowRecorderModel" "value" "I") ∈ AW := AW_m 1614 (by decide +kernel) (by decide +kernel)
theorem q_1496 : (Jvm.Cond.fieldLink "SnowRecorderModel" (257 : Nat) "SnowRecorderModel" "word" "I") ∈ AW := AW_m 1615 (by decide +kernel) (by decide +kernel)
theorem q_1497 : (Jvm.Cond.fieldLink "SnowRecorderModel" (274 : Nat) "SnowRecorderModel" "bad" "I") ∈ AW := AW_m 1616 (by decide +kernel) (by decide +kernel)
theorem q_1506 : (Jvm.Cond.fieldLink "SnowRecorderModel" (288 : Nat) "SnowRecorderModel" "slopes1" "I") ∈ AW := AW_m 1625 (by decide +kernel) (by decide +kernel)
theorem q_1507 : (Jvm.Cond.fieldLink "SnowRecorderModel" (305 : Nat) "SnowRecorderModel" "hours1" "I") ∈ AW := AW_m 1626 (by decide +kernel) (by decide +kernel)
theorem q_1508 : (Jvm.Cond.fieldLink "SnowRecorderModel" (302 : Nat) "SnowRecorderModel" "names1" "I") ∈ AW := AW_m 1627 (by decide +kernel) (by decide +kernel)
theorem q_1518 : (Jvm.Cond.fieldLink "SnowRecorderModel" (459 : Nat) "SnowRecorderModel" "its" "I") ∈ AW := AW_m 1637 (by decide +kernel) (by decide +kernel)
theorem q_1656 : (Jvm.Cond.methodLink "SnowRecorderModel" (285 : Nat) ({ cls := "SnowRecorderModel", name := "go", desc := "()V" } : Jvm.MethodName)) ∈ AW := AW_m 1775 (by decide +kernel) (by decide +kernel)
theorem q_1658 : (Jvm.Cond.instanceMethod ({ cls := "SnowRecorderModel", name := "go", desc := "()V" } : Jvm.MethodName)) ∈ AW := AW_m 1777 (by decide +kernel) (by decide +kernel)
theorem q_1659 : (Jvm.Cond.code ({ cls := "SnowRecorderModel", name := "go", desc := "()V" } : Jvm.MethodName) prog_12_method_48_code (2 : Nat) (Option.none : Option Jvm.ClassFile.FieldType)) ∈ AW := AW_m 1778 (by decide +kernel) (by decide +kernel)
theorem q_1660 : (Jvm.Cond.methodLink "SnowRecorderModel" (248 : Nat) ({ cls := "SnowRecorderModel", name := "byteAt", desc := "(I)I" } : Jvm.MethodName)) ∈ AW := AW_m 1779 (by decide +kernel) (by decide +kernel)
theorem q_1662 : (Jvm.Cond.instanceMethod ({ cls := "SnowRecorderModel", name := "byteAt", desc := "(I)I" } : Jvm.MethodName)) ∈ AW := AW_m 1781 (by decide +kernel) (by decide +kernel)
theorem q_1663 : (Jvm.Cond.code ({ cls := "SnowRecorderModel", name := "byteAt", desc := "(I)I" } : Jvm.MethodName) prog_12_method_46_code (2 : Nat) (Option.some Jvm.ClassFile.FieldType.int)) ∈ AW := AW_m 1782 (by decide +kernel) (by decide +kernel)
theorem q_1717 : (Jvm.Cond.methodLink "SnowRecorderModel" (330 : Nat) ({ cls := "SnowRecorderModel", name := "becomes", desc := "()V" } : Jvm.MethodName)) ∈ AW := AW_m 1836 (by decide +kernel) (by decide +kernel)
theorem q_1719 : (Jvm.Cond.instanceMethod ({ cls := "SnowRecorderModel", name := "becomes", desc := "()V" } : Jvm.MethodName)) ∈ AW := AW_m 1838 (by decide +kernel) (by decide +kernel)
theorem q_1720 : (Jvm.Cond.code ({ cls := "SnowRecorderModel", name := "becomes", desc := "()V" } : Jvm.MethodName) prog_12_method_61_code (3 : Nat) (Option.none : Option Jvm.ClassFile.FieldType)) ∈ AW := AW_m 1839 (by decide +kernel) (by decide +kernel)
theorem q_1733 : (Jvm.Cond.methodLink "SnowRecorderModel" (348 : Nat) ({ cls := "SnowRecorderModel", name := "allLayers", desc := "()I" } : Jvm.MethodName)) ∈ AW := AW_m 1852 (by decide +kernel) (by decide +kernel)
theorem q_1735 : (Jvm.Cond.instanceMethod ({ cls := "SnowRecorderModel", name := "allLayers", desc := "()I" } : Jvm.MethodName)) ∈ AW := AW_m 1854 (by decide +kernel) (by decide +kernel)
theorem q_1736 : (Jvm.Cond.code ({ cls := "SnowRecorderModel", name := "allLayers", desc := "()I" } : Jvm.MethodName) prog_12_method_63_code (3 : Nat) (Option.some Jvm.ClassFile.FieldType.int)) ∈ AW := AW_m 1855 (by decide +kernel) (by decide +kernel)
theorem q_1741 : (Jvm.Cond.methodLink "SnowRecorderModel" (351 : Nat) ({ cls := "SnowRecorderModel", name := "allRunoff", desc := "()I" } : Jvm.MethodName)) ∈ AW := AW_m 1860 (by decide +kernel) (by decide +kernel)
theorem q_1743 : (Jvm.Cond.instanceMethod ({ cls := "SnowRecorderModel", name := "allRunoff", desc := "()I" } : Jvm.MethodName)) ∈ AW := AW_m 1862 (by decide +kernel) (by decide +kernel)
theorem q_1744 : (Jvm.Cond.code ({ cls := "SnowRecorderModel", name := "allRunoff", desc := "()I" } : Jvm.MethodName) prog_12_method_64_code (3 : Nat) (Option.some Jvm.ClassFile.FieldType.int)) ∈ AW := AW_m 1863 (by decide +kernel) (by decide +kernel)
theorem q_1745 : (Jvm.Cond.methodLink "SnowRecorderModel" (354 : Nat) ({ cls := "SnowRecorderModel", name := "allWeight", desc := "()I" } : Jvm.MethodName)) ∈ AW := AW_m 1864 (by decide +kernel) (by decide +kernel)
theorem q_1747 : (Jvm.Cond.instanceMethod ({ cls := "SnowRecorderModel", name := "allWeight", desc := "()I" } : Jvm.MethodName)) ∈ AW := AW_m 1866 (by decide +kernel) (by decide +kernel)
theorem q_1748 : (Jvm.Cond.code ({ cls := "SnowRecorderModel", name := "allWeight", desc := "()I" } : Jvm.MethodName) prog_12_method_65_code (3 : Nat) (Option.some Jvm.ClassFile.FieldType.int)) ∈ AW := AW_m 1867 (by decide +kernel) (by decide +kernel)
theorem q_1760 : (Jvm.Cond.methodLink "SnowRecorderModel" (357 : Nat) ({ cls := "SnowRecorderModel", name := "worst", desc := "()I" } : Jvm.MethodName)) ∈ AW := AW_m 1879 (by decide +kernel) (by decide +kernel)
theorem q_1762 : (Jvm.Cond.instanceMethod ({ cls := "SnowRecorderModel", name := "worst", desc := "()I" } : Jvm.MethodName)) ∈ AW := AW_m 1881 (by decide +kernel) (by decide +kernel)
theorem q_1763 : (Jvm.Cond.code ({ cls := "SnowRecorderModel", name := "worst", desc := "()I" } : Jvm.MethodName) prog_12_method_66_code (3 : Nat) (Option.some Jvm.ClassFile.FieldType.int)) ∈ AW := AW_m 1882 (by decide +kernel) (by decide +kernel)
theorem q_1984 : (Jvm.Cond.methodLink "SnowRecorderModel" (409 : Nat) ({ cls := "SnowRecorderModel", name := "tries", desc := "()V" } : Jvm.MethodName)) ∈ AW := AW_m 2103 (by decide +kernel) (by decide +kernel)
theorem q_1986 : (Jvm.Cond.instanceMethod ({ cls := "SnowRecorderModel", name := "tries", desc := "()V" } : Jvm.MethodName)) ∈ AW := AW_m 2105 (by decide +kernel) (by decide +kernel)
theorem q_1987 : (Jvm.Cond.code ({ cls := "SnowRecorderModel", name := "tries", desc := "()V" } : Jvm.MethodName) prog_12_method_89_code (1 : Nat) (Option.none : Option Jvm.ClassFile.FieldType)) ∈ AW := AW_m 2106 (by decide +kernel) (by decide +kernel)
theorem q_2075 : (Jvm.Cond.methodLink "SnowRecorderModel" (450 : Nat) ({ cls := "SnowRecorderModel", name := "isNoted", desc := "()Z" } : Jvm.MethodName)) ∈ AW := AW_m 2194 (by decide +kernel) (by decide +kernel)
theorem q_2077 : (Jvm.Cond.instanceMethod ({ cls := "SnowRecorderModel", name := "isNoted", desc := "()Z" } : Jvm.MethodName)) ∈ AW := AW_m 2196 (by decide +kernel) (by decide +kernel)
theorem q_2078 : (Jvm.Cond.code ({ cls := "SnowRecorderModel", name := "isNoted", desc := "()Z" } : Jvm.MethodName) prog_12_method_112_code (4 : Nat) (Option.some Jvm.ClassFile.FieldType.boolean)) ∈ AW := AW_m 2197 (by decide +kernel) (by decide +kernel)
theorem q_2103 : (Jvm.Cond.methodLink "SnowRecorderModel" (466 : Nat) ({ cls := "SnowRecorderModel", name := "year", desc := "()V" } : Jvm.MethodName)) ∈ AW := AW_m 2222 (by decide +kernel) (by decide +kernel)
theorem q_2105 : (Jvm.Cond.instanceMethod ({ cls := "SnowRecorderModel", name := "year", desc := "()V" } : Jvm.MethodName)) ∈ AW := AW_m 2224 (by decide +kernel) (by decide +kernel)
theorem q_2106 : (Jvm.Cond.code ({ cls := "SnowRecorderModel", name := "year", desc := "()V" } : Jvm.MethodName) prog_12_method_120_code (3 : Nat) (Option.none : Option Jvm.ClassFile.FieldType)) ∈ AW := AW_m 2225 (by decide +kernel) (by decide +kernel)
theorem q_2107 : (Jvm.Cond.methodLink "SnowRecorderModel" (463 : Nat) ({ cls := "SnowRecorderModel", name := "draw", desc := "(I)I" } : Jvm.MethodName)) ∈ AW := AW_m 2226 (by decide +kernel) (by decide +kernel)
theorem q_2109 : (Jvm.Cond.instanceMethod ({ cls := "SnowRecorderModel", name := "draw", desc := "(I)I" } : Jvm.MethodName)) ∈ AW := AW_m 2228 (by decide +kernel) (by decide +kernel)
theorem q_2110 : (Jvm.Cond.code ({ cls := "SnowRecorderModel", name := "draw", desc := "(I)I" } : Jvm.MethodName) prog_12_method_119_code (2 : Nat) (Option.some Jvm.ClassFile.FieldType.int)) ∈ AW := AW_m 2229 (by decide +kernel) (by decide +kernel)
theorem q_2111 : (Jvm.Cond.constant "SnowRecorderModel" (462 : Nat) (1103515245 : Int32)) ∈ AW := AW_m 2230 (by decide +kernel) (by decide +kernel)
theorem s_104 : Cond.selects "SnowRecorderModel" ({ cls := "SnowRecorderModel", name := "tries", desc := "()V" } : Jvm.MethodName) ({ cls := "SnowRecorderModel", name := "tries", desc := "()V" } : Jvm.MethodName) ∈ AW := AW_m 104 (by decide +kernel) (by decide +kernel)
theorem s_114 : Cond.selects "SnowRecorderModel" ({ cls := "SnowRecorderModel", name := "isNoted", desc := "()Z" } : Jvm.MethodName) ({ cls := "SnowRecorderModel", name := "isNoted", desc := "()Z" } : Jvm.MethodName) ∈ AW := AW_m 114 (by decide +kernel) (by decide +kernel)
theorem s_117 : Cond.selects "SnowRecorderModel" ({ cls := "SnowRecorderModel", name := "year", desc := "()V" } : Jvm.MethodName) ({ cls := "SnowRecorderModel", name := "year", desc := "()V" } : Jvm.MethodName) ∈ AW := AW_m 117 (by decide +kernel) (by decide +kernel)
theorem s_118 : Cond.selects "SnowRecorderModel" ({ cls := "SnowRecorderModel", name := "draw", desc := "(I)I" } : Jvm.MethodName) ({ cls := "SnowRecorderModel", name := "draw", desc := "(I)I" } : Jvm.MethodName) ∈ AW := AW_m 118 (by decide +kernel) (by decide +kernel)
theorem s_41 : Cond.selects "SnowRecorderModel" ({ cls := "SnowRecorderModel", name := "go", desc := "()V" } : Jvm.MethodName) ({ cls := "SnowRecorderModel", name := "go", desc := "()V" } : Jvm.MethodName) ∈ AW := AW_m 41 (by decide +kernel) (by decide +kernel)
theorem s_42 : Cond.selects "SnowRecorderModel" ({ cls := "SnowRecorderModel", name := "byteAt", desc := "(I)I" } : Jvm.MethodName) ({ cls := "SnowRecorderModel", name := "byteAt", desc := "(I)I" } : Jvm.MethodName) ∈ AW := AW_m 42 (by decide +kernel) (by decide +kernel)
theorem s_54 : Cond.selects "SnowRecorderModel" ({ cls := "SnowRecorderModel", name := "becomes", desc := "()V" } : Jvm.MethodName) ({ cls := "SnowRecorderModel", name := "becomes", desc := "()V" } : Jvm.MethodName) ∈ AW := AW_m 54 (by decide +kernel) (by decide +kernel)
theorem s_56 : Cond.selects "SnowRecorderModel" ({ cls := "SnowRecorderModel", name := "allLayers", desc := "()I" } : Jvm.MethodName) ({ cls := "SnowRecorderModel", name := "allLayers", desc := "()I" } : Jvm.MethodName) ∈ AW := AW_m 56 (by decide +kernel) (by decide +kernel)
theorem s_58 : Cond.selects "SnowRecorderModel" ({ cls := "SnowRecorderModel", name := "allRunoff", desc := "()I" } : Jvm.MethodName) ({ cls := "SnowRecorderModel", name := "allRunoff", desc := "()I" } : Jvm.MethodName) ∈ AW := AW_m 58 (by decide +kernel) (by decide +kernel)
theorem s_59 : Cond.selects "SnowRecorderModel" ({ cls := "SnowRecorderModel", name := "allWeight", desc := "()I" } : Jvm.MethodName) ({ cls := "SnowRecorderModel", name := "allWeight", desc := "()I" } : Jvm.MethodName) ∈ AW := AW_m 59 (by decide +kernel) (by decide +kernel)
theorem s_62 : Cond.selects "SnowRecorderModel" ({ cls := "SnowRecorderModel", name := "worst", desc := "()I" } : Jvm.MethodName) ({ cls := "SnowRecorderModel", name := "worst", desc := "()I" } : Jvm.MethodName) ∈ AW := AW_m 62 (by decide +kernel) (by decide +kernel)
theorem hd_yX10_allLayers : yX10_allLayers.cls ≠ "java/lang/invoke/MethodHandle" ∧ yX10_allLayers.cls ≠ "java/lang/invoke/VarHandle" ∧ (parseMethodDescriptor yX10_allLayers.desc).map (fun d => d.parameters.length) = some 0 := by decide +kernel
theorem hd_yX10_allRunoff : yX10_allRunoff.cls ≠ "java/lang/invoke/MethodHandle" ∧ yX10_allRunoff.cls ≠ "java/lang/invoke/VarHandle" ∧ (parseMethodDescriptor yX10_allRunoff.desc).map (fun d => d.parameters.length) = some 0 := by decide +kernel
theorem hd_yX10_allWeight : yX10_allWeight.cls ≠ "java/lang/invoke/MethodHandle" ∧ yX10_allWeight.cls ≠ "java/lang/invoke/VarHandle" ∧ (parseMethodDescriptor yX10_allWeight.desc).map (fun d => d.parameters.length) = some 0 := by decide +kernel
theorem hd_yX10_worst : yX10_worst.cls ≠ "java/lang/invoke/MethodHandle" ∧ yX10_worst.cls ≠ "java/lang/invoke/VarHandle" ∧ (parseMethodDescriptor yX10_worst.desc).map (fun d => d.parameters.length) = some 0 := by decide +kernel
theorem hd_yX10_byteAt : yX10_byteAt.cls ≠ "java/lang/invoke/MethodHandle" ∧ yX10_byteAt.cls ≠ "java/lang/invoke/VarHandle" ∧ (parseMethodDescriptor yX10_byteAt.desc).map (fun d => d.parameters.length) = some 1 := by decide +kernel
theorem hd_yX10_go : yX10_go.cls ≠ "java/lang/invoke/MethodHandle" ∧ yX10_go.cls ≠ "java/lang/invoke/VarHandle" ∧ (parseMethodDescriptor yX10_go.desc).map (fun d => d.parameters.length) = some 0 := by decide +kernel
theorem hd_yX10_becomes : yX10_becomes.cls ≠ "java/lang/invoke/MethodHandle" ∧ yX10_becomes.cls ≠ "java/lang/invoke/VarHandle" ∧ (parseMethodDescriptor yX10_becomes.desc).map (fun d => d.parameters.length) = some 0 := by decide +kernel
theorem hd_yX10_tries : yX10_tries.cls ≠ "java/lang/invoke/MethodHandle" ∧ yX10_tries.cls ≠ "java/lang/invoke/VarHandle" ∧ (parseMethodDescriptor yX10_tries.desc).map (fun d => d.parameters.length) = some 0 := by decide +kernel
theorem hd_yX10_isNoted : yX10_isNoted.cls ≠ "java/lang/invoke/MethodHandle" ∧ yX10_isNoted.cls ≠ "java/lang/invoke/VarHandle" ∧ (parseMethodDescriptor yX10_isNoted.desc).map (fun d => d.parameters.length) = some 0 := by decide +kernel
theorem hd_yX10_draw : yX10_draw.cls ≠ "java/lang/invoke/MethodHandle" ∧ yX10_draw.cls ≠ "java/lang/invoke/VarHandle" ∧ (parseMethodDescriptor yX10_draw.desc).map (fun d => d.parameters.length) = some 1 := by decide +kernel
theorem hd_yX10_year : yX10_year.cls ≠ "java/lang/invoke/MethodHandle" ∧ yX10_year.cls ≠ "java/lang/invoke/VarHandle" ∧ (parseMethodDescriptor yX10_year.desc).map (fun d => d.parameters.length) = some 0 := by decide +kernel
theorem mv_yX10_allLayers : zWv yX10_allLayers cX10_allLayers 3 (some .int) := ⟨q_1735, s_56, q_15, q_1736⟩
theorem mv_yX10_allRunoff : zWv yX10_allRunoff cX10_allRunoff 3 (some .int) := ⟨q_1743, s_58, q_15, q_1744⟩
theorem mv_yX10_allWeight : zWv yX10_allWeight cX10_allWeight 3 (some .int) := ⟨q_1747, s_59, q_15, q_1748⟩
theorem mv_yX10_worst : zWv yX10_worst cX10_worst 3 (some .int) := ⟨q_1762, s_62, q_15, q_1763⟩
theorem mv_yX10_byteAt : zWv yX10_byteAt cX10_byteAt 2 (some .int) := ⟨q_1662, s_42, q_15, q_1663⟩
theorem mv_yX10_go : zWv yX10_go cX10_go 2 none := ⟨q_1658, s_41, q_15, q_1659⟩
theorem mv_yX10_becomes : zWv yX10_becomes cX10_becomes 3 none := ⟨q_1719, s_54, q_15, q_1720⟩
theorem mv_yX10_tries : zWv yX10_tries cX10_tries 1 none := ⟨q_1986, s_104, q_15, q_1987⟩
theorem mv_yX10_isNoted : zWv yX10_isNoted cX10_isNoted 4 (some .boolean) := ⟨q_2077, s_114, q_15, q_2078⟩
theorem mv_yX10_draw : zWv yX10_draw cX10_draw 2 (some .int) := ⟨q_2109, s_118, q_15, q_2110⟩
theorem mv_yX10_year : zWv yX10_year cX10_year 3 none := ⟨q_2105, s_117, q_15, q_2106⟩
