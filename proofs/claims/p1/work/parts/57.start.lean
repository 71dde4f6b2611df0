theorem fg_5 : (Jvm.Cond.arrayOf (Jvm.Term.static "SnowRecorder" "TABLE" "[I") Jvm.ClassFile.FieldType.int) ∈ flatC (Jvm.Cond.and given_1 narrow_1) := List.mem_of_getElem? (i := 5) (by decide +kernel)
theorem fg_968 : (Jvm.Cond.exactly (Jvm.Term.static "SnowRecorder" "TABLE" "[I") "[I") ∈ flatC (Jvm.Cond.and given_1 narrow_1) := List.mem_of_getElem? (i := 968) (by decide +kernel)
theorem fg_6 : (Jvm.Cond.eq (Jvm.Term.length (Jvm.Term.static "SnowRecorder" "TABLE" "[I")) (Jvm.Term.int (15 : Int32))) ∈ flatC (Jvm.Cond.and given_1 narrow_1) := List.mem_of_getElem? (i := 6) (by decide +kernel)
theorem fg_7 : (Jvm.Cond.eq (Jvm.Term.elem (Jvm.Term.static "SnowRecorder" "TABLE" "[I") (Jvm.Term.int (0 : Int32))) (Jvm.Term.int (3 : Int32))) ∈ flatC (Jvm.Cond.and given_1 narrow_1) := List.mem_of_getElem? (i := 7) (by decide +kernel)
theorem fg_8 : (Jvm.Cond.eq (Jvm.Term.elem (Jvm.Term.static "SnowRecorder" "TABLE" "[I") (Jvm.Term.int (1 : Int32))) (Jvm.Term.int (12 : Int32))) ∈ flatC (Jvm.Cond.and given_1 narrow_1) := List.mem_of_getElem? (i := 8) (by decide +kernel)
theorem fg_9 : (Jvm.Cond.eq (Jvm.Term.elem (Jvm.Term.static "SnowRecorder" "TABLE" "[I") (Jvm.Term.int (2 : Int32))) (Jvm.Term.int (4 : Int32))) ∈ flatC (Jvm.Cond.and given_1 narrow_1) := List.mem_of_getElem? (i := 9) (by decide +kernel)
theorem fg_10 : (Jvm.Cond.eq (Jvm.Term.elem (Jvm.Term.static "SnowRecorder" "TABLE" "[I") (Jvm.Term.int (3 : Int32))) (Jvm.Term.int (40 : Int32))) ∈ flatC (Jvm.Cond.and given_1 narrow_1) := List.mem_of_getElem? (i := 10) (by decide +kernel)
theorem fg_11 : (Jvm.Cond.eq (Jvm.Term.elem (Jvm.Term.static "SnowRecorder" "TABLE" "[I") (Jvm.Term.int (4 : Int32))) (Jvm.Term.int (1 : Int32))) ∈ flatC (Jvm.Cond.and given_1 narrow_1) := List.mem_of_getElem? (i := 11) (by decide +kernel)
theorem fg_12 : (Jvm.Cond.eq (Jvm.Term.elem (Jvm.Term.static "SnowRecorder" "TABLE" "[I") (Jvm.Term.int (5 : Int32))) (Jvm.Term.int (5 : Int32))) ∈ flatC (Jvm.Cond.and given_1 narrow_1) := List.mem_of_getElem? (i := 12) (by decide +kernel)
theorem fg_13 : (Jvm.Cond.eq (Jvm.Term.elem (Jvm.Term.static "SnowRecorder" "TABLE" "[I") (Jvm.Term.int (6 : Int32))) (Jvm.Term.int (8 : Int32))) ∈ flatC (Jvm.Cond.and given_1 narrow_1) := List.mem_of_getElem? (i := 13) (by decide +kernel)
theorem fg_14 : (Jvm.Cond.eq (Jvm.Term.elem (Jvm.Term.static "SnowRecorder" "TABLE" "[I") (Jvm.Term.int (7 : Int32))) (Jvm.Term.int (3 : Int32))) ∈ flatC (Jvm.Cond.and given_1 narrow_1) := List.mem_of_getElem? (i := 14) (by decide +kernel)
theorem fg_15 : (Jvm.Cond.eq (Jvm.Term.elem (Jvm.Term.static "SnowRecorder" "TABLE" "[I") (Jvm.Term.int (8 : Int32))) (Jvm.Term.int (2 : Int32))) ∈ flatC (Jvm.Cond.and given_1 narrow_1) := List.mem_of_getElem? (i := 15) (by decide +kernel)
theorem fg_16 : (Jvm.Cond.eq (Jvm.Term.elem (Jvm.Term.static "SnowRecorder" "TABLE" "[I") (Jvm.Term.int (9 : Int32))) (Jvm.Term.int (1 : Int32))) ∈ flatC (Jvm.Cond.and given_1 narrow_1) := List.mem_of_getElem? (i := 16) (by decide +kernel)
theorem fg_17 : (Jvm.Cond.eq (Jvm.Term.elem (Jvm.Term.static "SnowRecorder" "TABLE" "[I") (Jvm.Term.int (10 : Int32))) (Jvm.Term.int (1000 : Int32))) ∈ flatC (Jvm.Cond.and given_1 narrow_1) := List.mem_of_getElem? (i := 17) (by decide +kernel)
theorem fg_18 : (Jvm.Cond.eq (Jvm.Term.elem (Jvm.Term.static "SnowRecorder" "TABLE" "[I") (Jvm.Term.int (11 : Int32))) (Jvm.Term.int (4000 : Int32))) ∈ flatC (Jvm.Cond.and given_1 narrow_1) := List.mem_of_getElem? (i := 18) (by decide +kernel)
theorem fg_19 : (Jvm.Cond.eq (Jvm.Term.elem (Jvm.Term.static "SnowRecorder" "TABLE" "[I") (Jvm.Term.int (12 : Int32))) (Jvm.Term.int (6000 : Int32))) ∈ flatC (Jvm.Cond.and given_1 narrow_1) := List.mem_of_getElem? (i := 19) (by decide +kernel)
theorem fg_20 : (Jvm.Cond.eq (Jvm.Term.elem (Jvm.Term.static "SnowRecorder" "TABLE" "[I") (Jvm.Term.int (13 : Int32))) (Jvm.Term.int (9000 : Int32))) ∈ flatC (Jvm.Cond.and given_1 narrow_1) := List.mem_of_getElem? (i := 20) (by decide +kernel)
theorem fg_21 : (Jvm.Cond.eq (Jvm.Term.elem (Jvm.Term.static "SnowRecorder" "TABLE" "[I") (Jvm.Term.int (14 : Int32))) (Jvm.Term.int (8000 : Int32))) ∈ flatC (Jvm.Cond.and given_1 narrow_1) := List.mem_of_getElem? (i := 21) (by decide +kernel)
theorem fg_22 : (Jvm.Cond.eq (Jvm.Term.static "java/lang/String" "COMPACT_STRINGS" "Z") (Jvm.Term.int (1 : Int32))) ∈ flatC (Jvm.Cond.and given_1 narrow_1) := List.mem_of_getElem? (i := 22) (by decide +kernel)
theorem fg_23 : (Jvm.Cond.isRef (Jvm.Term.static "java/lang/Throwable" "UNASSIGNED_STACK" "[Ljava/lang/StackTraceElement;")) ∈ flatC (Jvm.Cond.and given_1 narrow_1) := List.mem_of_getElem? (i := 23) (by decide +kernel)
theorem fg_24 : (Jvm.Cond.isRef (Jvm.Term.static "java/lang/Throwable" "SUPPRESSED_SENTINEL" "Ljava/util/List;")) ∈ flatC (Jvm.Cond.and given_1 narrow_1) := List.mem_of_getElem? (i := 24) (by decide +kernel)
theorem fg_342 : (Jvm.Cond.not (Jvm.Cond.castable "java/lang/IllegalArgumentException" "java/util/NoSuchElementException")) ∈ flatC (Jvm.Cond.and given_1 narrow_1) := List.mem_of_getElem? (i := 342) (by decide +kernel)
theorem fg_389 : (Jvm.Cond.exactly (Jvm.Term.string "SnowRecorder" (88 : Nat)) "java/lang/String") ∈ flatC (Jvm.Cond.and given_1 narrow_1) := List.mem_of_getElem? (i := 389) (by decide +kernel)
theorem fg_549 : (Jvm.Cond.exactly (Jvm.Term.string "SnowRecorder" (167 : Nat)) "java/lang/String") ∈ flatC (Jvm.Cond.and given_1 narrow_1) := List.mem_of_getElem? (i := 549) (by decide +kernel)
theorem fg_566 : (Jvm.Cond.exactly (Jvm.Term.string "SnowRecorder" (170 : Nat)) "java/lang/String") ∈ flatC (Jvm.Cond.and given_1 narrow_1) := List.mem_of_getElem? (i := 566) (by decide +kernel)
theorem fg_582 : (Jvm.Cond.exactly (Jvm.Term.string "SnowRecorder" (181 : Nat)) "java/lang/String") ∈ flatC (Jvm.Cond.and given_1 narrow_1) := List.mem_of_getElem? (i := 582) (by decide +kernel)
theorem fg_610 : (Jvm.Cond.exactly (Jvm.Term.string "SnowRecorder" (414 : Nat)) "java/lang/String") ∈ flatC (Jvm.Cond.and given_1 narrow_1) := List.mem_of_getElem? (i := 610) (by decide +kernel)
theorem fg_627 : (Jvm.Cond.exactly (Jvm.Term.string "SnowRecorder" (210 : Nat)) "java/lang/String") ∈ flatC (Jvm.Cond.and given_1 narrow_1) := List.mem_of_getElem? (i := 627) (by decide +kernel)
theorem fg_655 : (Jvm.Cond.exactly (Jvm.Term.string "SnowRecorder" (416 : Nat)) "java/lang/String") ∈ flatC (Jvm.Cond.and given_1 narrow_1) := List.mem_of_getElem? (i := 655) (by decide +kernel)
theorem fg_672 : (Jvm.Cond.exactly (Jvm.Term.string "SnowRecorder" (241 : Nat)) "java/lang/String") ∈ flatC (Jvm.Cond.and given_1 narrow_1) := List.mem_of_getElem? (i := 672) (by decide +kernel)
theorem fg_775 : (Jvm.Cond.exactly (Jvm.Term.string "SnowRecorder" (249 : Nat)) "java/lang/String") ∈ flatC (Jvm.Cond.and given_1 narrow_1) := List.mem_of_getElem? (i := 775) (by decide +kernel)
theorem fg_791 : (Jvm.Cond.exactly (Jvm.Term.string "SnowRecorder" (420 : Nat)) "java/lang/String") ∈ flatC (Jvm.Cond.and given_1 narrow_1) := List.mem_of_getElem? (i := 791) (by decide +kernel)
theorem fg_815 : (Jvm.Cond.exactly (Jvm.Term.string "SnowRecorder" (422 : Nat)) "java/lang/String") ∈ flatC (Jvm.Cond.and given_1 narrow_1) := List.mem_of_getElem? (i := 815) (by decide +kernel)
theorem fg_836 : (Jvm.Cond.exactly (Jvm.Term.string "SnowRecorder" (316 : Nat)) "java/lang/String") ∈ flatC (Jvm.Cond.and given_1 narrow_1) := List.mem_of_getElem? (i := 836) (by decide +kernel)
theorem fg_861 : (Jvm.Cond.exactly (Jvm.Term.string "SnowRecorder" (418 : Nat)) "java/lang/String") ∈ flatC (Jvm.Cond.and given_1 narrow_1) := List.mem_of_getElem? (i := 861) (by decide +kernel)
theorem fg_876 : (Jvm.Cond.exactly (Jvm.Term.string "SnowRecorder" (354 : Nat)) "java/lang/String") ∈ flatC (Jvm.Cond.and given_1 narrow_1) := List.mem_of_getElem? (i := 876) (by decide +kernel)
theorem fg_902 : (Jvm.Cond.exactly (Jvm.Term.string "SnowRecorder" (371 : Nat)) "java/lang/String") ∈ flatC (Jvm.Cond.and given_1 narrow_1) := List.mem_of_getElem? (i := 902) (by decide +kernel)
theorem fg_924 : (Jvm.Cond.exactly (Jvm.Term.string "SnowRecorder" (396 : Nat)) "java/lang/String") ∈ flatC (Jvm.Cond.and given_1 narrow_1) := List.mem_of_getElem? (i := 924) (by decide +kernel)
theorem fg_946 : (Jvm.Cond.exactly (Jvm.Term.string "SnowRecorder" (406 : Nat)) "java/lang/String") ∈ flatC (Jvm.Cond.and given_1 narrow_1) := List.mem_of_getElem? (i := 946) (by decide +kernel)
theorem fw_698 : (Jvm.Cond.stringRef "SnowRecorder" (88 : Nat) "the tape has not so many bytes") ∈ lw_tbl := List.mem_of_getElem? (i := 817) (by decide +kernel)
theorem fw_913 : (Jvm.Cond.stringRef "SnowRecorder" (167 : Nat) "no such count") ∈ lw_tbl := List.mem_of_getElem? (i := 1032) (by decide +kernel)
theorem fw_927 : (Jvm.Cond.stringRef "SnowRecorder" (170 : Nat) "no such hour") ∈ lw_tbl := List.mem_of_getElem? (i := 1046) (by decide +kernel)
theorem fw_928 : (Jvm.Cond.stringRef "SnowRecorder" (181 : Nat) "no such thing of an hour") ∈ lw_tbl := List.mem_of_getElem? (i := 1047) (by decide +kernel)
theorem fw_944 : (Jvm.Cond.stringRef "SnowRecorder" (414 : Nat) "no such slope") ∈ lw_tbl := List.mem_of_getElem? (i := 1063) (by decide +kernel)
theorem fw_947 : (Jvm.Cond.stringRef "SnowRecorder" (210 : Nat) "no such thing of a slope") ∈ lw_tbl := List.mem_of_getElem? (i := 1066) (by decide +kernel)
theorem fw_959 : (Jvm.Cond.stringRef "SnowRecorder" (416 : Nat) "no such layer") ∈ lw_tbl := List.mem_of_getElem? (i := 1078) (by decide +kernel)
theorem fw_966 : (Jvm.Cond.stringRef "SnowRecorder" (241 : Nat) "no such thing of a layer") ∈ lw_tbl := List.mem_of_getElem? (i := 1085) (by decide +kernel)
theorem fw_1202 : (Jvm.Cond.stringRef "SnowRecorder" (249 : Nat) "no such sign") ∈ lw_tbl := List.mem_of_getElem? (i := 1321) (by decide +kernel)
theorem fw_1223 : (Jvm.Cond.stringRef "SnowRecorder" (420 : Nat) "no such thing to ask") ∈ lw_tbl := List.mem_of_getElem? (i := 1342) (by decide +kernel)
theorem fw_1227 : (Jvm.Cond.stringRef "SnowRecorder" (422 : Nat) "not so many hours") ∈ lw_tbl := List.mem_of_getElem? (i := 1346) (by decide +kernel)
theorem fw_1247 : (Jvm.Cond.stringRef "SnowRecorder" (316 : Nat) "that name isn't given") ∈ lw_tbl := List.mem_of_getElem? (i := 1366) (by decide +kernel)
theorem fw_1320 : (Jvm.Cond.stringRef "SnowRecorder" (418 : Nat) "no such pit") ∈ lw_tbl := List.mem_of_getElem? (i := 1439) (by decide +kernel)
theorem fw_1321 : (Jvm.Cond.stringRef "SnowRecorder" (354 : Nat) "no such thing of a pit") ∈ lw_tbl := List.mem_of_getElem? (i := 1440) (by decide +kernel)
theorem fw_1348 : (Jvm.Cond.stringRef "SnowRecorder" (371 : Nat) "no such comparison") ∈ lw_tbl := List.mem_of_getElem? (i := 1467) (by decide +kernel)
theorem fw_1415 : (Jvm.Cond.stringRef "SnowRecorder" (396 : Nat) "tenths are 0 to 10") ∈ lw_tbl := List.mem_of_getElem? (i := 1534) (by decide +kernel)
theorem fw_1432 : (Jvm.Cond.stringRef "SnowRecorder" (406 : Nat) "years are 0 to 30") ∈ lw_tbl := List.mem_of_getElem? (i := 1551) (by decide +kernel)
theorem zTB_of {args : Array Value} {s : State} {A : Nat → Prop} {tm : Term} (harr : (Cond.arrayOf tm .int).before args s = true) (hex : (Cond.exactly tm "[I").before args s = true) (hlen : (Term.length tm).eval args s none [] s = some (.int (Int32.ofNat 15))) (hel : ∀ j : Nat, j < 15 → (Term.elem tm (.int (Int32.ofNat j))).eval args s none [] s = some (.int (zI (tabZ j)))) (hA : ∀ a : Nat, a < s.heap.size → ¬ A a) : ∃ t : Nat, tm.eval args s none [] s = some (.ref t) ∧ zTB t A s s.heap := by
  obtain ⟨t, ht, cell, h1, h2, h3, h4, h5, h6, h7⟩ := va_Tof (N := 15) (f := fun j => .int (zI (tabZ j))) (by decide) harr hlen hel hA
  obtain ⟨t', cell', ht', hat, hv⟩ := Term.length_spec hlen
  cases ht.symm.trans ht'
  obtain ⟨hcell, -, -, -⟩ := State.arrayAt?_spec hat
  cases h1.symm.trans hcell
  have hsz : cell.slots.size < 2 ^ 31 := by
    have hv2 := hlen
    simp only [Term.eval, ht, hat, Option.bind_eq_bind, Option.bind_some] at hv2
    by_cases hlt : cell.slots.size < 2147483648
    · exact hlt
    · simp [hlt] at hv2
  have h15 : cell.slots.size = 15 := by
    have e1 : (nI cell.slots.size).toInt = (cell.slots.size : Int) := nI_toInt hsz
    have e2 : (nI 15).toInt = ((15 : Nat) : Int) := nI_toInt (by decide)
    have e3 : nI cell.slots.size = nI 15 := h5
    rw [e3, e2] at e1
    omega
  obtain ⟨a', c', cell2, k2, q1, q2, q3, q4, q5, q6, -⟩ := Cond.exactly_spec hex
  cases ht.symm.trans q1
  cases h1.symm.trans q3
  exact ⟨t, ht, cell, h1, h2, h3, h15, h6, by rw [q6]; exact q2, h7⟩
theorem sr_of {args : Array Value} {s : State} {own tx : String} {k : Nat} (h1 : (Cond.stringRef own k tx).before args s = true) (h2 : (Cond.exactly (Term.string own k) "java/lang/String").before args s = true) : ∃ sa : Nat, vk_R own k tx sa s := by
  obtain ⟨a, c, cell, k2, q1, -⟩ := Cond.exactly_spec h2
  exact ⟨a, vk_R.of h1 q1⟩
theorem arrT_of {s : State} {c comp : ClassId} {kA : Class} {ty : FieldType} (h1 : s.vm.classes[c]? = some kA) (h2 : kA.kind = .array comp ty) : ArrOfT s c ty := fun n z => ⟨fun k h => (by cases h), kA, h1, comp, h2⟩

theorem fw_1123 : (Jvm.Cond.instantiable "java/lang/String" (4 : Nat)) ∈ lw_tbl := List.mem_of_getElem? (i := 1242) (by decide +kernel)
theorem fw_318 : (Jvm.Cond.instantiable "java/lang/StringBuilder" (4 : Nat)) ∈ lw_tbl := List.mem_of_getElem? (i := 437) (by decide +kernel)
theorem fw_284 : (Jvm.Cond.instantiable "SnowRecorder$Guesses" (4 : Nat)) ∈ lw_tbl := List.mem_of_getElem? (i := 403) (by decide +kernel)
theorem fw_308 : (Jvm.Cond.instantiable "SnowRecorder$Likeness" (1 : Nat)) ∈ lw_tbl := List.mem_of_getElem? (i := 427) (by decide +kernel)
theorem fw_211 : (Jvm.Cond.instantiable "SnowRecorder$Notes" (4 : Nat)) ∈ lw_tbl := List.mem_of_getElem? (i := 330) (by decide +kernel)
theorem fw_149 : (Jvm.Cond.instantiable "SnowRecorder$Pack" (3 : Nat)) ∈ lw_tbl := List.mem_of_getElem? (i := 268) (by decide +kernel)
theorem fw_234 : (Jvm.Cond.instantiable "SnowRecorder$Pit" (3 : Nat)) ∈ lw_tbl := List.mem_of_getElem? (i := 353) (by decide +kernel)
theorem fw_74 : (Jvm.Cond.instantiable "SnowRecorder$Plan" (9 : Nat)) ∈ lw_tbl := List.mem_of_getElem? (i := 193) (by decide +kernel)
theorem fw_136 : (Jvm.Cond.instantiable "SnowRecorder$State" (6 : Nat)) ∈ lw_tbl := List.mem_of_getElem? (i := 255) (by decide +kernel)
theorem fw_38 : (Jvm.Cond.instantiable "SnowRecorder$TextReader" (9 : Nat)) ∈ lw_tbl := List.mem_of_getElem? (i := 157) (by decide +kernel)
theorem fw_142 : (Jvm.Cond.instantiable "SnowRecorder$World" (7 : Nat)) ∈ lw_tbl := List.mem_of_getElem? (i := 261) (by decide +kernel)
theorem fw_30 : (Jvm.Cond.instantiable "SnowRecorder" (14 : Nat)) ∈ lw_tbl := List.mem_of_getElem? (i := 149) (by decide +kernel)
theorem fw_1450 : (Jvm.Cond.instantiable "SnowRecorderModel" (60 : Nat)) ∈ lw_tbl := List.mem_of_getElem? (i := 1569) (by decide +kernel)
theorem fw_72 : (Jvm.Cond.arrayClass Jvm.ClassFile.FieldType.byte) ∈ lw_tbl := List.mem_of_getElem? (i := 191) (by decide +kernel)
theorem fw_134 : (Jvm.Cond.arrayClass Jvm.ClassFile.FieldType.int) ∈ lw_tbl := List.mem_of_getElem? (i := 253) (by decide +kernel)
theorem fw_2120 : (Jvm.Cond.arrayClass Jvm.ClassFile.FieldType.long) ∈ lw_tbl := List.mem_of_getElem? (i := 2239) (by decide +kernel)
theorem fw_148 : (Jvm.Cond.arrayOver (Jvm.ClassFile.FieldType.object "SnowRecorder$Pack")) ∈ lw_tbl := List.mem_of_getElem? (i := 267) (by decide +kernel)
theorem fw_207 : (Jvm.Cond.arrayOver (Jvm.ClassFile.FieldType.object "SnowRecorder$World")) ∈ lw_tbl := List.mem_of_getElem? (i := 326) (by decide +kernel)
theorem fw_209 : (Jvm.Cond.arrayOver (Jvm.ClassFile.FieldType.object "SnowRecorder$Pit")) ∈ lw_tbl := List.mem_of_getElem? (i := 328) (by decide +kernel)
theorem fw_290 : (Jvm.Cond.arrayOver (Jvm.ClassFile.FieldType.array Jvm.ClassFile.FieldType.int)) ∈ lw_tbl := List.mem_of_getElem? (i := 409) (by decide +kernel)
theorem fw_80 : (Jvm.Cond.laysStatic "SnowRecorder" "TABLE" "[I") ∈ lw_tbl := List.mem_of_getElem? (i := 199) (by decide +kernel)
theorem fw_1 : (Jvm.Cond.initialized "SnowRecorder") ∈ lw_tbl := List.mem_of_getElem? (i := 120) (by decide +kernel)
theorem fw_327 : (Jvm.Cond.laysStatic "java/lang/String" "COMPACT_STRINGS" "Z") ∈ lw_tbl := List.mem_of_getElem? (i := 446) (by decide +kernel)
theorem fw_13 : (Jvm.Cond.initialized "java/lang/String") ∈ lw_tbl := List.mem_of_getElem? (i := 132) (by decide +kernel)
theorem fw_685 : (Jvm.Cond.laysStatic "java/lang/Throwable" "UNASSIGNED_STACK" "[Ljava/lang/StackTraceElement;") ∈ lw_tbl := List.mem_of_getElem? (i := 804) (by decide +kernel)
theorem fw_16 : (Jvm.Cond.initialized "java/lang/Throwable") ∈ lw_tbl := List.mem_of_getElem? (i := 135) (by decide +kernel)
theorem fw_687 : (Jvm.Cond.laysStatic "java/lang/Throwable" "SUPPRESSED_SENTINEL" "Ljava/util/List;") ∈ lw_tbl := List.mem_of_getElem? (i := 806) (by decide +kernel)
set_option maxRecDepth 100000 in
set_option maxHeartbeats 4000000 in
theorem env_of {s : State} {b : Nat} (hts : ∀ w ∈ lw_tbl, w.before #[Value.ref b] s = true) (hgv : (Jvm.Cond.and given_1 narrow_1).before #[Value.ref b] s = true) : ∃ (D : va_G) (cs : Nat → ClassId) (tt : Nat), zE D (fun q => s.heap.size ≤ q) cs tt s := by
  have hs := flat_of_before _ hgv
  have hA : ∀ a : Nat, a < s.heap.size → ¬ (fun q => s.heap.size ≤ q) a := fun a h h2 => Nat.lt_irrefl _ (Nat.lt_of_lt_of_le h h2)
  have hAW : ∀ w ∈ AW, w.before #[Value.ref b] s = true := fun w h => hts w (List.mem_filter.mp h).1
  obtain ⟨c0, i0, k0⟩ := u_known (C := RJ0) (T := TJ0) (N := 4) (n := 4) hAW inA_J0 (hts _ fw_1123)
  obtain ⟨c1, i1, k1⟩ := u_known (C := RJ4) (T := TJ4) (N := 4) (n := 4) hAW inA_J4 (hts _ fw_318)
  obtain ⟨c2, i2, k2⟩ := u_known (C := RX0) (T := TX0) (N := 4) (n := 4) hAW inA_X0 (hts _ fw_284)
  obtain ⟨c3, i3, k3⟩ := u_known (C := RX1) (T := TX1) (N := 1) (n := 1) hAW inA_X1 (hts _ fw_308)
  obtain ⟨c4, i4, k4⟩ := u_known (C := RX2) (T := TX2) (N := 4) (n := 4) hAW inA_X2 (hts _ fw_211)
  obtain ⟨c5, i5, k5⟩ := u_known (C := RX3) (T := TX3) (N := 3) (n := 3) hAW inA_X3 (hts _ fw_149)
  obtain ⟨c6, i6, k6⟩ := u_known (C := RX4) (T := TX4) (N := 3) (n := 3) hAW inA_X4 (hts _ fw_234)
  obtain ⟨c7, i7, k7⟩ := u_known (C := RX5) (T := TX5) (N := 9) (n := 9) hAW inA_X5 (hts _ fw_74)
  obtain ⟨c8, i8, k8⟩ := u_known (C := RX6) (T := TX6) (N := 6) (n := 6) hAW inA_X6 (hts _ fw_136)
  obtain ⟨c9, i9, k9⟩ := u_known (C := RX7) (T := TX7) (N := 9) (n := 9) hAW inA_X7 (hts _ fw_38)
  obtain ⟨c10, i10, k10⟩ := u_known (C := RX8) (T := TX8) (N := 7) (n := 7) hAW inA_X8 (hts _ fw_142)
  obtain ⟨c11, i11, k11⟩ := u_known (C := RX9) (T := TX9) (N := 14) (n := 14) hAW inA_X9 (hts _ fw_30)
  obtain ⟨c12, i12, k12⟩ := u_known (C := RX10) (T := TX10) (N := 60) (n := 60) hAW inA_X10 (hts _ fw_1450)
  obtain ⟨a0, ka0, co0, fa0, ha0, hk0⟩ := Cond.arrayClass_spec (hts _ fw_72)
  obtain ⟨a1, ka1, co1, fa1, ha1, hk1⟩ := Cond.arrayClass_spec (hts _ fw_134)
  obtain ⟨a2, ka2, co2, fa2, ha2, hk2⟩ := Cond.arrayClass_spec (hts _ fw_2120)
  have ao3 : va_AO RX3 s := va_AO.of (hts _ fw_148)
  obtain ⟨co3, a3, ka3, fc3, -, ha3, hk3, fa3⟩ := Cond.arrayOver_spec ao3
  have ao4 : va_AO RX8 s := va_AO.of (hts _ fw_207)
  obtain ⟨co4, a4, ka4, fc4, -, ha4, hk4, fa4⟩ := Cond.arrayOver_spec ao4
  have ao5 : va_AO RX4 s := va_AO.of (hts _ fw_209)
  obtain ⟨co5, a5, ka5, fc5, -, ha5, hk5, fa5⟩ := Cond.arrayOver_spec ao5
  have ao6 : va_AOA .int s := hts _ fw_290
  obtain ⟨co6, a6, ka6, fc6, -, ha6, hk6, fa6⟩ := arrayOverA_spec ao6
  have hel : ∀ j : Nat, j < 15 → (Term.elem (.static "SnowRecorder" "TABLE" "[I") (.int (Int32.ofNat j))).eval #[Value.ref b] s none [] s = some (.int (zI (tabZ j))) := by
    intro j hj
    rcases (show j = 0 ∨ j = 1 ∨ j = 2 ∨ j = 3 ∨ j = 4 ∨ j = 5 ∨ j = 6 ∨ j = 7 ∨ j = 8 ∨ j = 9 ∨ j = 10 ∨ j = 11 ∨ j = 12 ∨ j = 13 ∨ j = 14 by omega) with rfl | rfl | rfl | rfl | rfl | rfl | rfl | rfl | rfl | rfl | rfl | rfl | rfl | rfl | rfl
    · exact va_eqt (hs _ fg_7)
    · exact va_eqt (hs _ fg_8)
    · exact va_eqt (hs _ fg_9)
    · exact va_eqt (hs _ fg_10)
    · exact va_eqt (hs _ fg_11)
    · exact va_eqt (hs _ fg_12)
    · exact va_eqt (hs _ fg_13)
    · exact va_eqt (hs _ fg_14)
    · exact va_eqt (hs _ fg_15)
    · exact va_eqt (hs _ fg_16)
    · exact va_eqt (hs _ fg_17)
    · exact va_eqt (hs _ fg_18)
    · exact va_eqt (hs _ fg_19)
    · exact va_eqt (hs _ fg_20)
    · exact va_eqt (hs _ fg_21)
  obtain ⟨tt, ht, hTB⟩ := zTB_of (hs _ fg_5) (hs _ fg_968) (va_eqt (hs _ fg_6)) hel hA
  refine ⟨(fun k => match k with | 0 => c0 | 1 => c1 | 2 => c2 | 3 => c3 | 4 => c4 | 5 => c5 | 6 => c6 | 7 => c7 | 8 => c8 | 9 => c9 | 10 => c10 | 11 => c11 | _ => c12, fun k => match k with | 0 => i0 | 1 => i1 | 2 => i2 | 3 => i3 | 4 => i4 | 5 => i5 | 6 => i6 | 7 => i7 | 8 => i8 | 9 => i9 | 10 => i10 | 11 => i11 | _ => i12), fun k => match k with | 0 => a0 | 1 => a1 | 2 => a2 | 3 => a3 | 4 => a4 | 5 => a5 | _ => a6, tt, ⟨?_, ?_⟩, ?_, fun q h => h, ⟨ao3, ao4, ao5, ao6⟩, ⟨?_, hTB, ?_⟩, ⟨?_, ?_⟩, ?_, ?_⟩
  · intro k q hq
    match k, hq with
    | 0, hq => cases hq; exact k0
    | 1, hq => cases hq; exact k1
    | 2, hq => cases hq; exact k2
    | 3, hq => cases hq; exact k3
    | 4, hq => cases hq; exact k4
    | 5, hq => cases hq; exact k5
    | 6, hq => cases hq; exact k6
    | 7, hq => cases hq; exact k7
    | 8, hq => cases hq; exact k8
    | 9, hq => cases hq; exact k9
    | 10, hq => cases hq; exact k10
    | 11, hq => cases hq; exact k11
    | 12, hq => cases hq; exact k12
    | k + 13, hq => simp [vwCl] at hq
  · intro k q hq
    match k, hq with
    | 0, hq => cases hq; exact ⟨arrT_of ha0 hk0, fa0⟩
    | 1, hq => cases hq; exact ⟨arrT_of ha1 hk1, fa1⟩
    | 2, hq => cases hq; exact ⟨arrT_of ha2 hk2, fa2⟩
    | 3, hq => cases hq; exact ⟨arrT_of ha3 hk3, ⟨ka3, co3, ha3, hk3, fc3, fa3⟩⟩
    | 4, hq => cases hq; exact ⟨arrT_of ha4 hk4, ⟨ka4, co4, ha4, hk4, fc4, fa4⟩⟩
    | 5, hq => cases hq; exact ⟨arrT_of ha5 hk5, ⟨ka5, co5, ha5, hk5, fc5, fa5⟩⟩
    | 6, hq => cases hq; exact ⟨arrT_of ha6 hk6, fa6⟩
    | k + 7, hq => simp [tyL] at hq
  · intro w hw
    have h1 := (List.mem_filter.mp hw).2
    simp only [Bool.and_eq_true] at h1
    exact va_Nw.of h1.1 (hts w (List.mem_filter.mp hw).1)
  · exact va_Zref (hts _ fw_80) (hts _ fw_1) ht hA
  · exact va_Zof (hts _ fw_327) (hts _ fw_13) (va_eqt (hs _ fg_22)) hA
  · exact vx_Zqof (hts _ fw_685) (hts _ fw_16) (hs _ fg_23) hA
  · exact vx_Zqof (hts _ fw_687) (hts _ fw_16) (hs _ fg_24) hA
  · unfold SRL
    exact List.forall_mem_cons.mpr ⟨sr_of (hts _ fw_698) (hs _ fg_389), List.forall_mem_cons.mpr ⟨sr_of (hts _ fw_913) (hs _ fg_549), List.forall_mem_cons.mpr ⟨sr_of (hts _ fw_927) (hs _ fg_566), List.forall_mem_cons.mpr ⟨sr_of (hts _ fw_928) (hs _ fg_582), List.forall_mem_cons.mpr ⟨sr_of (hts _ fw_944) (hs _ fg_610), List.forall_mem_cons.mpr ⟨sr_of (hts _ fw_947) (hs _ fg_627), List.forall_mem_cons.mpr ⟨sr_of (hts _ fw_959) (hs _ fg_655), List.forall_mem_cons.mpr ⟨sr_of (hts _ fw_966) (hs _ fg_672), List.forall_mem_cons.mpr ⟨sr_of (hts _ fw_1202) (hs _ fg_775), List.forall_mem_cons.mpr ⟨sr_of (hts _ fw_1223) (hs _ fg_791), List.forall_mem_cons.mpr ⟨sr_of (hts _ fw_1227) (hs _ fg_815), List.forall_mem_cons.mpr ⟨sr_of (hts _ fw_1247) (hs _ fg_836), List.forall_mem_cons.mpr ⟨sr_of (hts _ fw_1320) (hs _ fg_861), List.forall_mem_cons.mpr ⟨sr_of (hts _ fw_1321) (hs _ fg_876), List.forall_mem_cons.mpr ⟨sr_of (hts _ fw_1348) (hs _ fg_902), List.forall_mem_cons.mpr ⟨sr_of (hts _ fw_1415) (hs _ fg_924), List.forall_mem_cons.mpr ⟨sr_of (hts _ fw_1432) (hs _ fg_946), fun _ h => absurd h List.not_mem_nil⟩⟩⟩⟩⟩⟩⟩⟩⟩⟩⟩⟩⟩⟩⟩⟩⟩
  · exact va_Nc.of (hs _ fg_342)

set_option maxRecDepth 100000 in
set_option maxHeartbeats 4000000 in
theorem law_walk {p : Program} {l : Launch} {e : Env} {s : State} {m : MethodId} {below : List Frame} {meth : Method} {c : Code} {D : va_G} {A : Nat → Prop} {cs : Nat → ClassId} {tt : Nat} {b : Nat} {xs : Nat → Int32} {L : Nat} (hL : L ≤ 6) (hl0 : l.stackTraces = false) (C : zC p s m #[Value.ref b] c cL_law 7 RL D A cs tt) (hr : meth.sig.returnType = ret) (hlk : meth.locks = false) (hA9 : ∀ q, A q → s.heap.size ≤ q) (hX : va_X b L xs s s.heap) (hbl : b < s.heap.size) (hbA : ¬ A b) : zV p l e room_1 s m #[Value.ref b] below meth c (lw_Z below #[Value.ref b] s) D A 7 (0) (fun _ => 0) (fun _ => iA cs 0 (fun _ => 0)) (0) (0) 0 [(0, .ref b)] [] := by
  refine z_new (fs := [.null, .int (zI (0)), .int (zI (0)), .null, .null, .null, .null, .int (zI (0)), .null, .null, .null, .null, .null, .null]) (ci := 11) C tyX9 tyX9_ok rfl inA_X9 q_29 q_30 q_1 (fun j hj => by rcases (show j = 0 ∨ j = 1 ∨ j = 2 ∨ j = 3 ∨ j = 4 ∨ j = 5 ∨ j = 6 ∨ j = 7 ∨ j = 8 ∨ j = 9 ∨ j = 10 ∨ j = 11 ∨ j = 12 ∨ j = 13 by omega) with rfl | rfl | rfl | rfl | rfl | rfl | rfl | rfl | rfl | rfl | rfl | rfl | rfl | rfl <;> rfl) (by decide) (by decide) dL_law_0 (fun qy1 ady2 gy3 eay4 egy5 => ?_)
  have hay6 : zAt ady2 (0) qy1 := up_s eay4
  have hgy7 := up_s egy5
  refine z_dup C dL_law_3 rfl ?_
  refine z_cI (As := []) (rest := [.ref qy1]) C (c_X9_init l D A cs tt _ _ 0 qy1 hay6 hgy7) mi_yX9_init q_31 rfl (by decide +kernel) (by decide) (Nat.le_of_ble_eq_true rfl) (by decide) dL_law_4 rfl (kV fun My8 ady9 gy10 hqy11 => ?_)
  obtain ⟨rfl, hA1, hG1, hR1⟩ := hqy11
  refine z_astore_n (lv' := [(1, .ref qy1), (0, .ref b)]) C dL_law_7 rfl (by decide) rfl ?_
  refine z_new (fs := [.null, .null, .null, .null, .null, .null, .null, .null, .null, .null, .null, .null, .int (zI (0)), .int (zI (0)), .int (zI (0)), .int (zI (0)), .int (zI (0)), .int (zI (0)), .int (zI (0)), .int (zI (0)), .int (zI (0)), .int (zI (0)), .null, .int (zI (0)), .int (zI (0)), .int (zI (0)), .int (zI (0)), .int (zI (0)), .int (zI (0)), .int (zI (0)), .null, .null, .int (zI (0)), .int (zI (0)), .int (zI (0)), .int (zI (0)), .int (zI (0)), .int (zI (0)), .int (zI (0)), .null, .null, .null, .null, .null, .null, .null, .null, .int (zI (0)), .int (zI (0)), .int (zI (0)), .null, .int (zI (0)), .null, .null, .null, .int (zI (0)), .int (zI (0)), .null, .null, .int (zI (0))]) (ci := 12) C tyX10 tyX10_ok rfl inA_X10 q_1449 q_1450 q_15 (fun j hj => by rcases (show j = 0 ∨ j = 1 ∨ j = 2 ∨ j = 3 ∨ j = 4 ∨ j = 5 ∨ j = 6 ∨ j = 7 ∨ j = 8 ∨ j = 9 ∨ j = 10 ∨ j = 11 ∨ j = 12 ∨ j = 13 ∨ j = 14 ∨ j = 15 ∨ j = 16 ∨ j = 17 ∨ j = 18 ∨ j = 19 ∨ j = 20 ∨ j = 21 ∨ j = 22 ∨ j = 23 ∨ j = 24 ∨ j = 25 ∨ j = 26 ∨ j = 27 ∨ j = 28 ∨ j = 29 ∨ j = 30 ∨ j = 31 ∨ j = 32 ∨ j = 33 ∨ j = 34 ∨ j = 35 ∨ j = 36 ∨ j = 37 ∨ j = 38 ∨ j = 39 ∨ j = 40 ∨ j = 41 ∨ j = 42 ∨ j = 43 ∨ j = 44 ∨ j = 45 ∨ j = 46 ∨ j = 47 ∨ j = 48 ∨ j = 49 ∨ j = 50 ∨ j = 51 ∨ j = 52 ∨ j = 53 ∨ j = 54 ∨ j = 55 ∨ j = 56 ∨ j = 57 ∨ j = 58 ∨ j = 59 by omega) with rfl | rfl | rfl | rfl | rfl | rfl | rfl | rfl | rfl | rfl | rfl | rfl | rfl | rfl | rfl | rfl | rfl | rfl | rfl | rfl | rfl | rfl | rfl | rfl | rfl | rfl | rfl | rfl | rfl | rfl | rfl | rfl | rfl | rfl | rfl | rfl | rfl | rfl | rfl | rfl | rfl | rfl | rfl | rfl | rfl | rfl | rfl | rfl | rfl | rfl | rfl | rfl | rfl | rfl | rfl | rfl | rfl | rfl | rfl | rfl <;> rfl) (by decide) (by decide) dL_law_8 (fun qy12 ady13 gy14 eay15 egy16 => ?_)
  have hay17 : zAt ady13 (921) qy12 := up_s eay15
  have hgy18 := up_s egy16
  refine z_dup C dL_law_11 rfl ?_
  refine z_cI (As := []) (rest := [.ref qy12]) C (c_X10_init l D A cs tt _ _ 921 qy12 hay17 hgy18) mi_yX10_init q_1451 rfl (by decide +kernel) (by decide) (Nat.le_of_ble_eq_true rfl) (by decide) dL_law_12 rfl (kV fun My19 ady20 gy21 hqy22 => ?_)
  obtain ⟨rfl, hA2, hG2, B9, hM1, hM2, hM3⟩ := hqy22
  have hM0 : isM0 cs ady20 gy21 921 := ⟨B9, hM1, hM2, hM3⟩
  refine z_astore_n (lv' := [(2, .ref qy12), (1, .ref qy1), (0, .ref b)]) C dL_law_15 rfl (by decide) rfl ?_
  refine z_iconst (z := 1) C dL_law_16 rfl ?_
  refine z_newJ C 1 rfl q_2120 (by decide) (by decide) (by decide) dL_law_17 (fun qy23 ady24 gy25 eay26 egy27 => ?_)
  have hay28 : zAt ady24 (951) qy23 := up_s eay26
  have hgy29 := up_s egy27
  refine z_astore_n (lv' := [(3, .ref qy23), (2, .ref qy12), (1, .ref qy1), (0, .ref b)]) C dL_law_19 rfl (by decide) rfl ?_
  refine z_iconst (z := 0) C dL_law_20 rfl ?_
  refine z_istore (lv' := [(4, .int (zI (0))), (3, .ref qy23), (2, .ref qy12), (1, .ref qy1), (0, .ref b)]) C dL_law_21 (by decide) rfl ?_
  have hpy30 := isRec.mv (ad' := ady24) (g' := gy25) (fun j h1 h2 => by rw [eay26, va_up_ne _ _ (by omega)]; rw [hA2 _ (by omega)]; rw [eay15, va_up_ne _ _ (by omega)]) (fun j h1 h2 => by rw [egy27, va_up_ne _ _ (by omega)]; rw [hG2 _ (by omega) (by omega)]; rw [egy16, va_up_ne _ _ (by omega)]) hR1
  have hpy31 := isM0.mv (ad' := ady24) (g' := gy25) (fun j h1 h2 => by rw [eay26, va_up_ne _ _ (by omega)]) (fun j h1 h2 => by rw [egy27, va_up_ne _ _ (by omega)]) hM0
  have hay32 : zAt ady9 (0) (qy1) := (hA1 (0) (by decide)).trans hay6
  have hay33 : zAt ady13 (0) (qy1) := up_n eay15 hay32 (by decide)
  have hay34 : zAt ady20 (0) (qy1) := (hA2 (0) (by decide)).trans hay33
  have hay35 : zAt ady24 (0) (qy1) := up_n eay26 hay34 (by decide)
  have hzqy1 : ady24 (0) = qy1 := hay35
  subst hzqy1
  have hay36 : zAt ady20 (921) (qy12) := (hA2 (921) (by decide)).trans hay17
  have hay37 : zAt ady24 (921) (qy12) := up_n eay26 hay36 (by decide)
  have hzqy12 : ady24 (921) = qy12 := hay37
  subst hzqy12
  have hzqy23 : ady24 (951) = qy23 := hay28
  subst hzqy23
  by_cases hL6 : L = 6
  · subst hL6
    obtain ⟨w0, hw0, hw0r⟩ := zI_of (xs 0)
    obtain ⟨w1, hw1, hw1r⟩ := zI_of (xs 1)
    obtain ⟨w2, hw2, hw2r⟩ := zI_of (xs 2)
    obtain ⟨w3, hw3, hw3r⟩ := zI_of (xs 3)
    obtain ⟨w4, hw4, hw4r⟩ := zI_of (xs 4)
    obtain ⟨w5, hw5, hw5r⟩ := zI_of (xs 5)
    refine z_lv (lv' := [(4, .int (zI (0))), (3, .ref (ady24 951)), (2, .ref (ady24 921)), (1, .ref (ady24 0)), (0, .ref b)]) [0, 1, 2, 3, 4] rfl ?_
    exact law_body hl0 C hr hlk hA9 hX hbl hbA hpy30 hpy31 hgy29 w1 w2 w3 w4 w5 hw1r hw1 hw2r hw2 hw3r hw3 hw4r hw4 hw5r hw5 w0 hw0
  · refine z_lv (lv' := [(4, .int (zI 0)), (0, .ref b)]) [0, 4] rfl ?_
    exact law_end (L := L) (by omega) hL C hr hlk hA9 hX hbl hbA (Nat.le_of_ble_eq_true rfl) (Nat.le_of_ble_eq_true rfl)

set_option maxHeartbeats 4000000 in
/-- from the entry, for every script of at most 6 ints, the law comes to its end with true -/
theorem whole_start {p : Program} {e : Env} {s : State} {m : MethodId} {below : List Frame} {meth : Method} {c : Code} (l : Launch) (hflags : l.flags = flags0) {b L : Nat} {xs : Nat → Int32} (hL : L ≤ 6) (C0 : lw_At p s m meth c b L xs) : W p l e room_1 s m #[Value.ref b] below meth c s.heap [] 0 0 (lw_Z below #[Value.ref b] s) (entryFrame m ([Value.ref b] : List Value).toArray 7) := by
  obtain ⟨hx, hb, hr, hml, hown, hts, hX, hbl, hlocks, hgv⟩ := id C0
  obtain ⟨D, cs, tt, hE⟩ := env_of hts hgv
  have hl0 : l.stackTraces = false := by
    unfold Launch.stackTraces
    rw [hflags]
    decide +kernel
  have hl := lv_entry ([.ref b]) (n := 7) (Nat.le_of_ble_eq_true rfl)
  rw [lg_entry_eq]
  have C : zC p s m #[Value.ref b] c cL_law 7 RL D (fun q => s.heap.size ≤ q) cs tt := ⟨hx, hb, hml, hown, fun w h => hts w (List.mem_filter.mp h).1, hE⟩
  exact law_walk hL hl0 C hr hlocks (fun q h => h) hX hbl (Nat.not_le.mpr hbl) s.heap [] _ (fun k q h => by simp [wl] at h) ⟨fun i j p q h => by simp [wl] at h, fun k q h => by simp [wl] at h⟩ va_S.rf hl

