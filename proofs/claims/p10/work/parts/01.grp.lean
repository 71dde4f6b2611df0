section
-- 01.tables.lean.txt
-- ===== PART A: goes FIRST, ahead of the names: the tables' words, and 'selects' of the private methods out of them =====
/-- a private method of a class that the tables say can be made, by its rows of tables_1 -/
def lw_okq (q : MethodName × Nat) : Prop := (q.1.cls ≠ "java/lang/invoke/MethodHandle" ∧ q.1.cls ≠ "java/lang/invoke/VarHandle") ∧ Cond.instantiable q.1.cls q.2 ∈ tables_1 ∧ Cond.privateMethod q.1 ∈ tables_1 ∧ Cond.instanceMethod q.1 ∈ tables_1
theorem lw_p0 : lw_okq (⟨"SnowRecorder", "putBytes", "(I)V"⟩, 14) := ⟨⟨by decide +kernel, by decide +kernel⟩, List.mem_of_getElem? (i := 30) (by decide +kernel), List.mem_of_getElem? (i := 397) (by decide +kernel), List.mem_of_getElem? (i := 398) (by decide +kernel)⟩
theorem lw_p1 : lw_okq (⟨"SnowRecorder", "refuse", "(I)I"⟩, 14) := ⟨⟨by decide +kernel, by decide +kernel⟩, List.mem_of_getElem? (i := 30) (by decide +kernel), List.mem_of_getElem? (i := 409) (by decide +kernel), List.mem_of_getElem? (i := 410) (by decide +kernel)⟩
theorem lw_p2 : lw_okq (⟨"SnowRecorder$State", "forgetOldest", "()V"⟩, 6) := ⟨⟨by decide +kernel, by decide +kernel⟩, List.mem_of_getElem? (i := 136) (by decide +kernel), List.mem_of_getElem? (i := 417) (by decide +kernel), List.mem_of_getElem? (i := 418) (by decide +kernel)⟩
theorem lw_p3 : lw_okq (⟨"SnowRecorder$Pack", "freeze", "(I)V"⟩, 3) := ⟨⟨by decide +kernel, by decide +kernel⟩, List.mem_of_getElem? (i := 149) (by decide +kernel), List.mem_of_getElem? (i := 498) (by decide +kernel), List.mem_of_getElem? (i := 499) (by decide +kernel)⟩
theorem lw_p4 : lw_okq (⟨"SnowRecorder$Pack", "nextKind", "(II)I"⟩, 3) := ⟨⟨by decide +kernel, by decide +kernel⟩, List.mem_of_getElem? (i := 149) (by decide +kernel), List.mem_of_getElem? (i := 530) (by decide +kernel), List.mem_of_getElem? (i := 531) (by decide +kernel)⟩
theorem lw_p5 : lw_okq (⟨"SnowRecorder", "isSlope", "(I)Z"⟩, 14) := ⟨⟨by decide +kernel, by decide +kernel⟩, List.mem_of_getElem? (i := 30) (by decide +kernel), List.mem_of_getElem? (i := 538) (by decide +kernel), List.mem_of_getElem? (i := 539) (by decide +kernel)⟩
theorem lw_p6 : lw_okq (⟨"SnowRecorder", "comesByHand", "(II)Z"⟩, 14) := ⟨⟨by decide +kernel, by decide +kernel⟩, List.mem_of_getElem? (i := 30) (by decide +kernel), List.mem_of_getElem? (i := 542) (by decide +kernel), List.mem_of_getElem? (i := 543) (by decide +kernel)⟩
theorem lw_p7 : lw_okq (⟨"SnowRecorder", "isUnstable", "(LSnowRecorder$World;I)Z"⟩, 14) := ⟨⟨by decide +kernel, by decide +kernel⟩, List.mem_of_getElem? (i := 30) (by decide +kernel), List.mem_of_getElem? (i := 561) (by decide +kernel), List.mem_of_getElem? (i := 562) (by decide +kernel)⟩
theorem lw_p8 : lw_okq (⟨"java/lang/Throwable", "fillInStackTrace", "(I)Ljava/lang/Throwable;"⟩, 6) := ⟨⟨by decide +kernel, by decide +kernel⟩, List.mem_of_getElem? (i := 696) (by decide +kernel), List.mem_of_getElem? (i := 694) (by decide +kernel), List.mem_of_getElem? (i := 695) (by decide +kernel)⟩
theorem lw_p9 : lw_okq (⟨"SnowRecorder$TextReader", "peek", "()V"⟩, 9) := ⟨⟨by decide +kernel, by decide +kernel⟩, List.mem_of_getElem? (i := 38) (by decide +kernel), List.mem_of_getElem? (i := 743) (by decide +kernel), List.mem_of_getElem? (i := 744) (by decide +kernel)⟩
theorem lw_p10 : lw_okq (⟨"SnowRecorder$TextReader", "readClause", "(LSnowRecorder$Plan;LSnowRecorder$World;)V"⟩, 9) := ⟨⟨by decide +kernel, by decide +kernel⟩, List.mem_of_getElem? (i := 38) (by decide +kernel), List.mem_of_getElem? (i := 750) (by decide +kernel), List.mem_of_getElem? (i := 751) (by decide +kernel)⟩
theorem lw_p11 : lw_okq (⟨"SnowRecorder$TextReader", "is", "(Ljava/lang/String;)Z"⟩, 9) := ⟨⟨by decide +kernel, by decide +kernel⟩, List.mem_of_getElem? (i := 38) (by decide +kernel), List.mem_of_getElem? (i := 755) (by decide +kernel), List.mem_of_getElem? (i := 756) (by decide +kernel)⟩
theorem lw_p12 : lw_okq (⟨"SnowRecorder$TextReader", "readSlope", "(LSnowRecorder$Plan;)V"⟩, 9) := ⟨⟨by decide +kernel, by decide +kernel⟩, List.mem_of_getElem? (i := 38) (by decide +kernel), List.mem_of_getElem? (i := 806) (by decide +kernel), List.mem_of_getElem? (i := 807) (by decide +kernel)⟩
theorem lw_p13 : lw_okq (⟨"SnowRecorder$TextReader", "fail", "(II)V"⟩, 9) := ⟨⟨by decide +kernel, by decide +kernel⟩, List.mem_of_getElem? (i := 38) (by decide +kernel), List.mem_of_getElem? (i := 810) (by decide +kernel), List.mem_of_getElem? (i := 811) (by decide +kernel)⟩
theorem lw_p14 : lw_okq (⟨"SnowRecorder$TextReader", "take", "()V"⟩, 9) := ⟨⟨by decide +kernel, by decide +kernel⟩, List.mem_of_getElem? (i := 38) (by decide +kernel), List.mem_of_getElem? (i := 814) (by decide +kernel), List.mem_of_getElem? (i := 815) (by decide +kernel)⟩
theorem lw_p15 : lw_okq (⟨"SnowRecorder$TextReader", "number", "(II)I"⟩, 9) := ⟨⟨by decide +kernel, by decide +kernel⟩, List.mem_of_getElem? (i := 38) (by decide +kernel), List.mem_of_getElem? (i := 818) (by decide +kernel), List.mem_of_getElem? (i := 819) (by decide +kernel)⟩
def lw_privs_1 : List (MethodName × Nat) := [(⟨"SnowRecorder", "putBytes", "(I)V"⟩, 14), (⟨"SnowRecorder", "refuse", "(I)I"⟩, 14), (⟨"SnowRecorder$State", "forgetOldest", "()V"⟩, 6), (⟨"SnowRecorder$Pack", "freeze", "(I)V"⟩, 3), (⟨"SnowRecorder$Pack", "nextKind", "(II)I"⟩, 3), (⟨"SnowRecorder", "isSlope", "(I)Z"⟩, 14), (⟨"SnowRecorder", "comesByHand", "(II)Z"⟩, 14), (⟨"SnowRecorder", "isUnstable", "(LSnowRecorder$World;I)Z"⟩, 14), (⟨"java/lang/Throwable", "fillInStackTrace", "(I)Ljava/lang/Throwable;"⟩, 6), (⟨"SnowRecorder$TextReader", "peek", "()V"⟩, 9), (⟨"SnowRecorder$TextReader", "readClause", "(LSnowRecorder$Plan;LSnowRecorder$World;)V"⟩, 9), (⟨"SnowRecorder$TextReader", "is", "(Ljava/lang/String;)Z"⟩, 9), (⟨"SnowRecorder$TextReader", "readSlope", "(LSnowRecorder$Plan;)V"⟩, 9), (⟨"SnowRecorder$TextReader", "fail", "(II)V"⟩, 9), (⟨"SnowRecorder$TextReader", "take", "()V"⟩, 9), (⟨"SnowRecorder$TextReader", "number", "(II)I"⟩, 9)]
theorem lw_r1 : ∀ q ∈ lw_privs_1, lw_okq q := List.forall_mem_cons.mpr ⟨lw_p0, List.forall_mem_cons.mpr ⟨lw_p1, List.forall_mem_cons.mpr ⟨lw_p2, List.forall_mem_cons.mpr ⟨lw_p3, List.forall_mem_cons.mpr ⟨lw_p4, List.forall_mem_cons.mpr ⟨lw_p5, List.forall_mem_cons.mpr ⟨lw_p6, List.forall_mem_cons.mpr ⟨lw_p7, List.forall_mem_cons.mpr ⟨lw_p8, List.forall_mem_cons.mpr ⟨lw_p9, List.forall_mem_cons.mpr ⟨lw_p10, List.forall_mem_cons.mpr ⟨lw_p11, List.forall_mem_cons.mpr ⟨lw_p12, List.forall_mem_cons.mpr ⟨lw_p13, List.forall_mem_cons.mpr ⟨lw_p14, List.forall_mem_cons.mpr ⟨lw_p15, fun _ h => absurd h List.not_mem_nil⟩⟩⟩⟩⟩⟩⟩⟩⟩⟩⟩⟩⟩⟩⟩⟩
theorem lw_p16 : lw_okq (⟨"SnowRecorder$TextReader", "close", "()V"⟩, 9) := ⟨⟨by decide +kernel, by decide +kernel⟩, List.mem_of_getElem? (i := 38) (by decide +kernel), List.mem_of_getElem? (i := 822) (by decide +kernel), List.mem_of_getElem? (i := 823) (by decide +kernel)⟩
theorem lw_p17 : lw_okq (⟨"SnowRecorder$TextReader", "readLayer", "(LSnowRecorder$Plan;LSnowRecorder$World;)V"⟩, 9) := ⟨⟨by decide +kernel, by decide +kernel⟩, List.mem_of_getElem? (i := 38) (by decide +kernel), List.mem_of_getElem? (i := 827) (by decide +kernel), List.mem_of_getElem? (i := 828) (by decide +kernel)⟩
theorem lw_p18 : lw_okq (⟨"SnowRecorder$TextReader", "kind", "()I"⟩, 9) := ⟨⟨by decide +kernel, by decide +kernel⟩, List.mem_of_getElem? (i := 38) (by decide +kernel), List.mem_of_getElem? (i := 831) (by decide +kernel), List.mem_of_getElem? (i := 832) (by decide +kernel)⟩
theorem lw_p19 : lw_okq (⟨"SnowRecorder$TextReader", "readHour", "(LSnowRecorder$Plan;)V"⟩, 9) := ⟨⟨by decide +kernel, by decide +kernel⟩, List.mem_of_getElem? (i := 38) (by decide +kernel), List.mem_of_getElem? (i := 845) (by decide +kernel), List.mem_of_getElem? (i := 846) (by decide +kernel)⟩
theorem lw_p20 : lw_okq (⟨"SnowRecorder$TextReader", "readFall", "()I"⟩, 9) := ⟨⟨by decide +kernel, by decide +kernel⟩, List.mem_of_getElem? (i := 38) (by decide +kernel), List.mem_of_getElem? (i := 849) (by decide +kernel), List.mem_of_getElem? (i := 850) (by decide +kernel)⟩
theorem lw_p21 : lw_okq (⟨"SnowRecorder$TextReader", "readTable", "(LSnowRecorder$Plan;III)V"⟩, 9) := ⟨⟨by decide +kernel, by decide +kernel⟩, List.mem_of_getElem? (i := 38) (by decide +kernel), List.mem_of_getElem? (i := 857) (by decide +kernel), List.mem_of_getElem? (i := 858) (by decide +kernel)⟩
theorem lw_p22 : lw_okq (⟨"SnowRecorder", "worst", "()I"⟩, 14) := ⟨⟨by decide +kernel, by decide +kernel⟩, List.mem_of_getElem? (i := 30) (by decide +kernel), List.mem_of_getElem? (i := 895) (by decide +kernel), List.mem_of_getElem? (i := 896) (by decide +kernel)⟩
theorem lw_p23 : lw_okq (⟨"SnowRecorder", "packOf", "(I)LSnowRecorder$Pack;"⟩, 14) := ⟨⟨by decide +kernel, by decide +kernel⟩, List.mem_of_getElem? (i := 30) (by decide +kernel), List.mem_of_getElem? (i := 937) (by decide +kernel), List.mem_of_getElem? (i := 938) (by decide +kernel)⟩
theorem lw_p24 : lw_okq (⟨"SnowRecorder", "needSlope", "(I)V"⟩, 14) := ⟨⟨by decide +kernel, by decide +kernel⟩, List.mem_of_getElem? (i := 30) (by decide +kernel), List.mem_of_getElem? (i := 941) (by decide +kernel), List.mem_of_getElem? (i := 942) (by decide +kernel)⟩
theorem lw_p25 : lw_okq (⟨"SnowRecorder", "needLayer", "(LSnowRecorder$Pack;I)V"⟩, 14) := ⟨⟨by decide +kernel, by decide +kernel⟩, List.mem_of_getElem? (i := 30) (by decide +kernel), List.mem_of_getElem? (i := 956) (by decide +kernel), List.mem_of_getElem? (i := 957) (by decide +kernel)⟩
theorem lw_p26 : lw_okq (⟨"SnowRecorder", "writeLine", "(LSnowRecorder$Pack;I)V"⟩, 14) := ⟨⟨by decide +kernel, by decide +kernel⟩, List.mem_of_getElem? (i := 30) (by decide +kernel), List.mem_of_getElem? (i := 975) (by decide +kernel), List.mem_of_getElem? (i := 976) (by decide +kernel)⟩
theorem lw_p27 : lw_okq (⟨"SnowRecorder", "isOnceUnstable", "(II)Z"⟩, 14) := ⟨⟨by decide +kernel, by decide +kernel⟩, List.mem_of_getElem? (i := 30) (by decide +kernel), List.mem_of_getElem? (i := 1294) (by decide +kernel), List.mem_of_getElem? (i := 1295) (by decide +kernel)⟩
theorem lw_p28 : lw_okq (⟨"SnowRecorder", "otherRatio", "(II)I"⟩, 14) := ⟨⟨by decide +kernel, by decide +kernel⟩, List.mem_of_getElem? (i := 30) (by decide +kernel), List.mem_of_getElem? (i := 1305) (by decide +kernel), List.mem_of_getElem? (i := 1306) (by decide +kernel)⟩
theorem lw_p29 : lw_okq (⟨"SnowRecorder", "needPit", "(I)V"⟩, 14) := ⟨⟨by decide +kernel, by decide +kernel⟩, List.mem_of_getElem? (i := 30) (by decide +kernel), List.mem_of_getElem? (i := 1317) (by decide +kernel), List.mem_of_getElem? (i := 1318) (by decide +kernel)⟩
theorem lw_p30 : lw_okq (⟨"SnowRecorder", "isSameWeakest", "(LSnowRecorder$Pit;LSnowRecorder$Pit;)Z"⟩, 14) := ⟨⟨by decide +kernel, by decide +kernel⟩, List.mem_of_getElem? (i := 30) (by decide +kernel), List.mem_of_getElem? (i := 1345) (by decide +kernel), List.mem_of_getElem? (i := 1346) (by decide +kernel)⟩
theorem lw_p31 : lw_okq (⟨"SnowRecorder", "isNotedSo", "(LSnowRecorder$World;LSnowRecorder$Plan;III)Z"⟩, 14) := ⟨⟨by decide +kernel, by decide +kernel⟩, List.mem_of_getElem? (i := 30) (by decide +kernel), List.mem_of_getElem? (i := 1369) (by decide +kernel), List.mem_of_getElem? (i := 1370) (by decide +kernel)⟩
def lw_privs_2 : List (MethodName × Nat) := [(⟨"SnowRecorder$TextReader", "close", "()V"⟩, 9), (⟨"SnowRecorder$TextReader", "readLayer", "(LSnowRecorder$Plan;LSnowRecorder$World;)V"⟩, 9), (⟨"SnowRecorder$TextReader", "kind", "()I"⟩, 9), (⟨"SnowRecorder$TextReader", "readHour", "(LSnowRecorder$Plan;)V"⟩, 9), (⟨"SnowRecorder$TextReader", "readFall", "()I"⟩, 9), (⟨"SnowRecorder$TextReader", "readTable", "(LSnowRecorder$Plan;III)V"⟩, 9), (⟨"SnowRecorder", "worst", "()I"⟩, 14), (⟨"SnowRecorder", "packOf", "(I)LSnowRecorder$Pack;"⟩, 14), (⟨"SnowRecorder", "needSlope", "(I)V"⟩, 14), (⟨"SnowRecorder", "needLayer", "(LSnowRecorder$Pack;I)V"⟩, 14), (⟨"SnowRecorder", "writeLine", "(LSnowRecorder$Pack;I)V"⟩, 14), (⟨"SnowRecorder", "isOnceUnstable", "(II)Z"⟩, 14), (⟨"SnowRecorder", "otherRatio", "(II)I"⟩, 14), (⟨"SnowRecorder", "needPit", "(I)V"⟩, 14), (⟨"SnowRecorder", "isSameWeakest", "(LSnowRecorder$Pit;LSnowRecorder$Pit;)Z"⟩, 14), (⟨"SnowRecorder", "isNotedSo", "(LSnowRecorder$World;LSnowRecorder$Plan;III)Z"⟩, 14)]
theorem lw_r2 : ∀ q ∈ lw_privs_2, lw_okq q := List.forall_mem_cons.mpr ⟨lw_p16, List.forall_mem_cons.mpr ⟨lw_p17, List.forall_mem_cons.mpr ⟨lw_p18, List.forall_mem_cons.mpr ⟨lw_p19, List.forall_mem_cons.mpr ⟨lw_p20, List.forall_mem_cons.mpr ⟨lw_p21, List.forall_mem_cons.mpr ⟨lw_p22, List.forall_mem_cons.mpr ⟨lw_p23, List.forall_mem_cons.mpr ⟨lw_p24, List.forall_mem_cons.mpr ⟨lw_p25, List.forall_mem_cons.mpr ⟨lw_p26, List.forall_mem_cons.mpr ⟨lw_p27, List.forall_mem_cons.mpr ⟨lw_p28, List.forall_mem_cons.mpr ⟨lw_p29, List.forall_mem_cons.mpr ⟨lw_p30, List.forall_mem_cons.mpr ⟨lw_p31, fun _ h => absurd h List.not_mem_nil⟩⟩⟩⟩⟩⟩⟩⟩⟩⟩⟩⟩⟩⟩⟩⟩
theorem lw_p32 : lw_okq (⟨"SnowRecorder", "guessFalls", "(Z)V"⟩, 14) := ⟨⟨by decide +kernel, by decide +kernel⟩, List.mem_of_getElem? (i := 30) (by decide +kernel), List.mem_of_getElem? (i := 1373) (by decide +kernel), List.mem_of_getElem? (i := 1374) (by decide +kernel)⟩
theorem lw_p33 : lw_okq (⟨"SnowRecorder", "guessMuch", "(IIZ)V"⟩, 14) := ⟨⟨by decide +kernel, by decide +kernel⟩, List.mem_of_getElem? (i := 30) (by decide +kernel), List.mem_of_getElem? (i := 1382) (by decide +kernel), List.mem_of_getElem? (i := 1383) (by decide +kernel)⟩
theorem lw_p34 : lw_okq (⟨"SnowRecorder", "lookFrom", "(I)V"⟩, 14) := ⟨⟨by decide +kernel, by decide +kernel⟩, List.mem_of_getElem? (i := 30) (by decide +kernel), List.mem_of_getElem? (i := 1394) (by decide +kernel), List.mem_of_getElem? (i := 1395) (by decide +kernel)⟩
theorem lw_p35 : lw_okq (⟨"SnowRecorder", "weightOf", "(III)I"⟩, 14) := ⟨⟨by decide +kernel, by decide +kernel⟩, List.mem_of_getElem? (i := 30) (by decide +kernel), List.mem_of_getElem? (i := 1417) (by decide +kernel), List.mem_of_getElem? (i := 1418) (by decide +kernel)⟩
theorem lw_p36 : lw_okq (⟨"SnowRecorder", "isUnstableWithout", "(III)Z"⟩, 14) := ⟨⟨by decide +kernel, by decide +kernel⟩, List.mem_of_getElem? (i := 30) (by decide +kernel), List.mem_of_getElem? (i := 1422) (by decide +kernel), List.mem_of_getElem? (i := 1423) (by decide +kernel)⟩
theorem lw_p37 : lw_okq (⟨"SnowRecorder", "yearGoesBy", "(I)I"⟩, 14) := ⟨⟨by decide +kernel, by decide +kernel⟩, List.mem_of_getElem? (i := 30) (by decide +kernel), List.mem_of_getElem? (i := 1434) (by decide +kernel), List.mem_of_getElem? (i := 1435) (by decide +kernel)⟩
theorem lw_p38 : lw_okq (⟨"SnowRecorder", "slideAll", "()V"⟩, 14) := ⟨⟨by decide +kernel, by decide +kernel⟩, List.mem_of_getElem? (i := 30) (by decide +kernel), List.mem_of_getElem? (i := 1446) (by decide +kernel), List.mem_of_getElem? (i := 1447) (by decide +kernel)⟩
theorem lw_p39 : lw_okq (⟨"SnowRecorderModel", "laysTable", "()V"⟩, 60) := ⟨⟨by decide +kernel, by decide +kernel⟩, List.mem_of_getElem? (i := 1450) (by decide +kernel), List.mem_of_getElem? (i := 1456) (by decide +kernel), List.mem_of_getElem? (i := 1457) (by decide +kernel)⟩
theorem lw_p40 : lw_okq (⟨"SnowRecorderModel", "right", "(ZI)Z"⟩, 60) := ⟨⟨by decide +kernel, by decide +kernel⟩, List.mem_of_getElem? (i := 1450) (by decide +kernel), List.mem_of_getElem? (i := 1649) (by decide +kernel), List.mem_of_getElem? (i := 1650) (by decide +kernel)⟩
theorem lw_p41 : lw_okq (⟨"SnowRecorderModel", "go", "()V"⟩, 60) := ⟨⟨by decide +kernel, by decide +kernel⟩, List.mem_of_getElem? (i := 1450) (by decide +kernel), List.mem_of_getElem? (i := 1653) (by decide +kernel), List.mem_of_getElem? (i := 1654) (by decide +kernel)⟩
theorem lw_p42 : lw_okq (⟨"SnowRecorderModel", "byteAt", "(I)I"⟩, 60) := ⟨⟨by decide +kernel, by decide +kernel⟩, List.mem_of_getElem? (i := 1450) (by decide +kernel), List.mem_of_getElem? (i := 1657) (by decide +kernel), List.mem_of_getElem? (i := 1658) (by decide +kernel)⟩
theorem lw_p43 : lw_okq (⟨"SnowRecorderModel", "wordFrom", "(II)I"⟩, 60) := ⟨⟨by decide +kernel, by decide +kernel⟩, List.mem_of_getElem? (i := 1450) (by decide +kernel), List.mem_of_getElem? (i := 1664) (by decide +kernel), List.mem_of_getElem? (i := 1665) (by decide +kernel)⟩
theorem lw_p44 : lw_okq (⟨"SnowRecorderModel", "clause1", "()V"⟩, 60) := ⟨⟨by decide +kernel, by decide +kernel⟩, List.mem_of_getElem? (i := 1450) (by decide +kernel), List.mem_of_getElem? (i := 1671) (by decide +kernel), List.mem_of_getElem? (i := 1672) (by decide +kernel)⟩
theorem lw_p45 : lw_okq (⟨"SnowRecorderModel", "slope1", "()V"⟩, 60) := ⟨⟨by decide +kernel, by decide +kernel⟩, List.mem_of_getElem? (i := 1450) (by decide +kernel), List.mem_of_getElem? (i := 1675) (by decide +kernel), List.mem_of_getElem? (i := 1676) (by decide +kernel)⟩
theorem lw_p46 : lw_okq (⟨"SnowRecorderModel", "wants", "(ZI)Z"⟩, 60) := ⟨⟨by decide +kernel, by decide +kernel⟩, List.mem_of_getElem? (i := 1450) (by decide +kernel), List.mem_of_getElem? (i := 1679) (by decide +kernel), List.mem_of_getElem? (i := 1680) (by decide +kernel)⟩
theorem lw_p47 : lw_okq (⟨"SnowRecorderModel", "number", "(II)I"⟩, 60) := ⟨⟨by decide +kernel, by decide +kernel⟩, List.mem_of_getElem? (i := 1450) (by decide +kernel), List.mem_of_getElem? (i := 1683) (by decide +kernel), List.mem_of_getElem? (i := 1684) (by decide +kernel)⟩
def lw_privs_3 : List (MethodName × Nat) := [(⟨"SnowRecorder", "guessFalls", "(Z)V"⟩, 14), (⟨"SnowRecorder", "guessMuch", "(IIZ)V"⟩, 14), (⟨"SnowRecorder", "lookFrom", "(I)V"⟩, 14), (⟨"SnowRecorder", "weightOf", "(III)I"⟩, 14), (⟨"SnowRecorder", "isUnstableWithout", "(III)Z"⟩, 14), (⟨"SnowRecorder", "yearGoesBy", "(I)I"⟩, 14), (⟨"SnowRecorder", "slideAll", "()V"⟩, 14), (⟨"SnowRecorderModel", "laysTable", "()V"⟩, 60), (⟨"SnowRecorderModel", "right", "(ZI)Z"⟩, 60), (⟨"SnowRecorderModel", "go", "()V"⟩, 60), (⟨"SnowRecorderModel", "byteAt", "(I)I"⟩, 60), (⟨"SnowRecorderModel", "wordFrom", "(II)I"⟩, 60), (⟨"SnowRecorderModel", "clause1", "()V"⟩, 60), (⟨"SnowRecorderModel", "slope1", "()V"⟩, 60), (⟨"SnowRecorderModel", "wants", "(ZI)Z"⟩, 60), (⟨"SnowRecorderModel", "number", "(II)I"⟩, 60)]
theorem lw_r3 : ∀ q ∈ lw_privs_3, lw_okq q := List.forall_mem_cons.mpr ⟨lw_p32, List.forall_mem_cons.mpr ⟨lw_p33, List.forall_mem_cons.mpr ⟨lw_p34, List.forall_mem_cons.mpr ⟨lw_p35, List.forall_mem_cons.mpr ⟨lw_p36, List.forall_mem_cons.mpr ⟨lw_p37, List.forall_mem_cons.mpr ⟨lw_p38, List.forall_mem_cons.mpr ⟨lw_p39, List.forall_mem_cons.mpr ⟨lw_p40, List.forall_mem_cons.mpr ⟨lw_p41, List.forall_mem_cons.mpr ⟨lw_p42, List.forall_mem_cons.mpr ⟨lw_p43, List.forall_mem_cons.mpr ⟨lw_p44, List.forall_mem_cons.mpr ⟨lw_p45, List.forall_mem_cons.mpr ⟨lw_p46, List.forall_mem_cons.mpr ⟨lw_p47, fun _ h => absurd h List.not_mem_nil⟩⟩⟩⟩⟩⟩⟩⟩⟩⟩⟩⟩⟩⟩⟩⟩
theorem lw_p48 : lw_okq (⟨"SnowRecorderModel", "layer1", "()V"⟩, 60) := ⟨⟨by decide +kernel, by decide +kernel⟩, List.mem_of_getElem? (i := 1450) (by decide +kernel), List.mem_of_getElem? (i := 1690) (by decide +kernel), List.mem_of_getElem? (i := 1691) (by decide +kernel)⟩
theorem lw_p49 : lw_okq (⟨"SnowRecorderModel", "isKind", "()Z"⟩, 60) := ⟨⟨by decide +kernel, by decide +kernel⟩, List.mem_of_getElem? (i := 1450) (by decide +kernel), List.mem_of_getElem? (i := 1694) (by decide +kernel), List.mem_of_getElem? (i := 1695) (by decide +kernel)⟩
theorem lw_p50 : lw_okq (⟨"SnowRecorderModel", "kindHere", "()I"⟩, 60) := ⟨⟨by decide +kernel, by decide +kernel⟩, List.mem_of_getElem? (i := 1450) (by decide +kernel), List.mem_of_getElem? (i := 1698) (by decide +kernel), List.mem_of_getElem? (i := 1699) (by decide +kernel)⟩
theorem lw_p51 : lw_okq (⟨"SnowRecorderModel", "hour1", "()V"⟩, 60) := ⟨⟨by decide +kernel, by decide +kernel⟩, List.mem_of_getElem? (i := 1450) (by decide +kernel), List.mem_of_getElem? (i := 1702) (by decide +kernel), List.mem_of_getElem? (i := 1703) (by decide +kernel)⟩
theorem lw_p52 : lw_okq (⟨"SnowRecorderModel", "is", "(I)Z"⟩, 60) := ⟨⟨by decide +kernel, by decide +kernel⟩, List.mem_of_getElem? (i := 1450) (by decide +kernel), List.mem_of_getElem? (i := 1706) (by decide +kernel), List.mem_of_getElem? (i := 1707) (by decide +kernel)⟩
theorem lw_p53 : lw_okq (⟨"SnowRecorderModel", "table1", "()V"⟩, 60) := ⟨⟨by decide +kernel, by decide +kernel⟩, List.mem_of_getElem? (i := 1450) (by decide +kernel), List.mem_of_getElem? (i := 1710) (by decide +kernel), List.mem_of_getElem? (i := 1711) (by decide +kernel)⟩
theorem lw_p54 : lw_okq (⟨"SnowRecorderModel", "becomes", "()V"⟩, 60) := ⟨⟨by decide +kernel, by decide +kernel⟩, List.mem_of_getElem? (i := 1450) (by decide +kernel), List.mem_of_getElem? (i := 1714) (by decide +kernel), List.mem_of_getElem? (i := 1715) (by decide +kernel)⟩
theorem lw_p55 : lw_okq (⟨"SnowRecorderModel", "setsMany", "(III)V"⟩, 60) := ⟨⟨by decide +kernel, by decide +kernel⟩, List.mem_of_getElem? (i := 1450) (by decide +kernel), List.mem_of_getElem? (i := 1718) (by decide +kernel), List.mem_of_getElem? (i := 1719) (by decide +kernel)⟩
theorem lw_p56 : lw_okq (⟨"SnowRecorderModel", "allLayers", "()I"⟩, 60) := ⟨⟨by decide +kernel, by decide +kernel⟩, List.mem_of_getElem? (i := 1450) (by decide +kernel), List.mem_of_getElem? (i := 1730) (by decide +kernel), List.mem_of_getElem? (i := 1731) (by decide +kernel)⟩
theorem lw_p57 : lw_okq (⟨"SnowRecorderModel", "many", "(II)I"⟩, 60) := ⟨⟨by decide +kernel, by decide +kernel⟩, List.mem_of_getElem? (i := 1450) (by decide +kernel), List.mem_of_getElem? (i := 1734) (by decide +kernel), List.mem_of_getElem? (i := 1735) (by decide +kernel)⟩
theorem lw_p58 : lw_okq (⟨"SnowRecorderModel", "allRunoff", "()I"⟩, 60) := ⟨⟨by decide +kernel, by decide +kernel⟩, List.mem_of_getElem? (i := 1450) (by decide +kernel), List.mem_of_getElem? (i := 1738) (by decide +kernel), List.mem_of_getElem? (i := 1739) (by decide +kernel)⟩
theorem lw_p59 : lw_okq (⟨"SnowRecorderModel", "allWeight", "()I"⟩, 60) := ⟨⟨by decide +kernel, by decide +kernel⟩, List.mem_of_getElem? (i := 1450) (by decide +kernel), List.mem_of_getElem? (i := 1742) (by decide +kernel), List.mem_of_getElem? (i := 1743) (by decide +kernel)⟩
theorem lw_p60 : lw_okq (⟨"SnowRecorderModel", "sum", "(III)I"⟩, 60) := ⟨⟨by decide +kernel, by decide +kernel⟩, List.mem_of_getElem? (i := 1450) (by decide +kernel), List.mem_of_getElem? (i := 1746) (by decide +kernel), List.mem_of_getElem? (i := 1747) (by decide +kernel)⟩
theorem lw_p61 : lw_okq (⟨"SnowRecorderModel", "of", "(IIII)I"⟩, 60) := ⟨⟨by decide +kernel, by decide +kernel⟩, List.mem_of_getElem? (i := 1450) (by decide +kernel), List.mem_of_getElem? (i := 1750) (by decide +kernel), List.mem_of_getElem? (i := 1751) (by decide +kernel)⟩
theorem lw_p62 : lw_okq (⟨"SnowRecorderModel", "worst", "()I"⟩, 60) := ⟨⟨by decide +kernel, by decide +kernel⟩, List.mem_of_getElem? (i := 1450) (by decide +kernel), List.mem_of_getElem? (i := 1757) (by decide +kernel), List.mem_of_getElem? (i := 1758) (by decide +kernel)⟩
theorem lw_p63 : lw_okq (⟨"SnowRecorderModel", "leastRatio", "(II)I"⟩, 60) := ⟨⟨by decide +kernel, by decide +kernel⟩, List.mem_of_getElem? (i := 1450) (by decide +kernel), List.mem_of_getElem? (i := 1761) (by decide +kernel), List.mem_of_getElem? (i := 1762) (by decide +kernel)⟩
def lw_privs_4 : List (MethodName × Nat) := [(⟨"SnowRecorderModel", "layer1", "()V"⟩, 60), (⟨"SnowRecorderModel", "isKind", "()Z"⟩, 60), (⟨"SnowRecorderModel", "kindHere", "()I"⟩, 60), (⟨"SnowRecorderModel", "hour1", "()V"⟩, 60), (⟨"SnowRecorderModel", "is", "(I)Z"⟩, 60), (⟨"SnowRecorderModel", "table1", "()V"⟩, 60), (⟨"SnowRecorderModel", "becomes", "()V"⟩, 60), (⟨"SnowRecorderModel", "setsMany", "(III)V"⟩, 60), (⟨"SnowRecorderModel", "allLayers", "()I"⟩, 60), (⟨"SnowRecorderModel", "many", "(II)I"⟩, 60), (⟨"SnowRecorderModel", "allRunoff", "()I"⟩, 60), (⟨"SnowRecorderModel", "allWeight", "()I"⟩, 60), (⟨"SnowRecorderModel", "sum", "(III)I"⟩, 60), (⟨"SnowRecorderModel", "of", "(IIII)I"⟩, 60), (⟨"SnowRecorderModel", "worst", "()I"⟩, 60), (⟨"SnowRecorderModel", "leastRatio", "(II)I"⟩, 60)]
theorem lw_r4 : ∀ q ∈ lw_privs_4, lw_okq q := List.forall_mem_cons.mpr ⟨lw_p48, List.forall_mem_cons.mpr ⟨lw_p49, List.forall_mem_cons.mpr ⟨lw_p50, List.forall_mem_cons.mpr ⟨lw_p51, List.forall_mem_cons.mpr ⟨lw_p52, List.forall_mem_cons.mpr ⟨lw_p53, List.forall_mem_cons.mpr ⟨lw_p54, List.forall_mem_cons.mpr ⟨lw_p55, List.forall_mem_cons.mpr ⟨lw_p56, List.forall_mem_cons.mpr ⟨lw_p57, List.forall_mem_cons.mpr ⟨lw_p58, List.forall_mem_cons.mpr ⟨lw_p59, List.forall_mem_cons.mpr ⟨lw_p60, List.forall_mem_cons.mpr ⟨lw_p61, List.forall_mem_cons.mpr ⟨lw_p62, List.forall_mem_cons.mpr ⟨lw_p63, fun _ h => absurd h List.not_mem_nil⟩⟩⟩⟩⟩⟩⟩⟩⟩⟩⟩⟩⟩⟩⟩⟩
theorem lw_p64 : lw_okq (⟨"SnowRecorderModel", "leastRatioBy", "(IIII)I"⟩, 60) := ⟨⟨by decide +kernel, by decide +kernel⟩, List.mem_of_getElem? (i := 1450) (by decide +kernel), List.mem_of_getElem? (i := 1765) (by decide +kernel), List.mem_of_getElem? (i := 1766) (by decide +kernel)⟩
theorem lw_p65 : lw_okq (⟨"SnowRecorderModel", "weakestBy", "(IIII)I"⟩, 60) := ⟨⟨by decide +kernel, by decide +kernel⟩, List.mem_of_getElem? (i := 1450) (by decide +kernel), List.mem_of_getElem? (i := 1769) (by decide +kernel), List.mem_of_getElem? (i := 1770) (by decide +kernel)⟩
theorem lw_p66 : lw_okq (⟨"SnowRecorderModel", "ratio", "(IIIII)I"⟩, 60) := ⟨⟨by decide +kernel, by decide +kernel⟩, List.mem_of_getElem? (i := 1450) (by decide +kernel), List.mem_of_getElem? (i := 1773) (by decide +kernel), List.mem_of_getElem? (i := 1774) (by decide +kernel)⟩
theorem lw_p67 : lw_okq (⟨"SnowRecorderModel", "burden", "(IIIII)I"⟩, 60) := ⟨⟨by decide +kernel, by decide +kernel⟩, List.mem_of_getElem? (i := 1450) (by decide +kernel), List.mem_of_getElem? (i := 1777) (by decide +kernel), List.mem_of_getElem? (i := 1778) (by decide +kernel)⟩
theorem lw_p68 : lw_okq (⟨"SnowRecorderModel", "above", "(III)I"⟩, 60) := ⟨⟨by decide +kernel, by decide +kernel⟩, List.mem_of_getElem? (i := 1450) (by decide +kernel), List.mem_of_getElem? (i := 1781) (by decide +kernel), List.mem_of_getElem? (i := 1782) (by decide +kernel)⟩
theorem lw_p69 : lw_okq (⟨"SnowRecorderModel", "weight", "(III)I"⟩, 60) := ⟨⟨by decide +kernel, by decide +kernel⟩, List.mem_of_getElem? (i := 1450) (by decide +kernel), List.mem_of_getElem? (i := 1785) (by decide +kernel), List.mem_of_getElem? (i := 1786) (by decide +kernel)⟩
theorem lw_p70 : lw_okq (⟨"SnowRecorderModel", "strength", "(III)I"⟩, 60) := ⟨⟨by decide +kernel, by decide +kernel⟩, List.mem_of_getElem? (i := 1450) (by decide +kernel), List.mem_of_getElem? (i := 1789) (by decide +kernel), List.mem_of_getElem? (i := 1790) (by decide +kernel)⟩
theorem lw_p71 : lw_okq (⟨"SnowRecorderModel", "isSlope", "(I)Z"⟩, 60) := ⟨⟨by decide +kernel, by decide +kernel⟩, List.mem_of_getElem? (i := 1450) (by decide +kernel), List.mem_of_getElem? (i := 1804) (by decide +kernel), List.mem_of_getElem? (i := 1805) (by decide +kernel)⟩
theorem lw_p72 : lw_okq (⟨"SnowRecorderModel", "weakest", "(II)I"⟩, 60) := ⟨⟨by decide +kernel, by decide +kernel⟩, List.mem_of_getElem? (i := 1450) (by decide +kernel), List.mem_of_getElem? (i := 1808) (by decide +kernel), List.mem_of_getElem? (i := 1809) (by decide +kernel)⟩
theorem lw_p73 : lw_okq (⟨"SnowRecorderModel", "isUnstable", "(II)Z"⟩, 60) := ⟨⟨by decide +kernel, by decide +kernel⟩, List.mem_of_getElem? (i := 1450) (by decide +kernel), List.mem_of_getElem? (i := 1812) (by decide +kernel), List.mem_of_getElem? (i := 1813) (by decide +kernel)⟩
theorem lw_p74 : lw_okq (⟨"SnowRecorderModel", "isLayer", "(II)Z"⟩, 60) := ⟨⟨by decide +kernel, by decide +kernel⟩, List.mem_of_getElem? (i := 1450) (by decide +kernel), List.mem_of_getElem? (i := 1820) (by decide +kernel), List.mem_of_getElem? (i := 1821) (by decide +kernel)⟩
theorem lw_p75 : lw_okq (⟨"SnowRecorderModel", "load", "(III)I"⟩, 60) := ⟨⟨by decide +kernel, by decide +kernel⟩, List.mem_of_getElem? (i := 1450) (by decide +kernel), List.mem_of_getElem? (i := 1824) (by decide +kernel), List.mem_of_getElem? (i := 1825) (by decide +kernel)⟩
theorem lw_p76 : lw_okq (⟨"SnowRecorderModel", "airOf", "(I)I"⟩, 60) := ⟨⟨by decide +kernel, by decide +kernel⟩, List.mem_of_getElem? (i := 1450) (by decide +kernel), List.mem_of_getElem? (i := 1828) (by decide +kernel), List.mem_of_getElem? (i := 1829) (by decide +kernel)⟩
theorem lw_p77 : lw_okq (⟨"SnowRecorderModel", "hourOf", "(I)I"⟩, 60) := ⟨⟨by decide +kernel, by decide +kernel⟩, List.mem_of_getElem? (i := 1450) (by decide +kernel), List.mem_of_getElem? (i := 1832) (by decide +kernel), List.mem_of_getElem? (i := 1833) (by decide +kernel)⟩
theorem lw_p78 : lw_okq (⟨"SnowRecorderModel", "grade", "(IIII)I"⟩, 60) := ⟨⟨by decide +kernel, by decide +kernel⟩, List.mem_of_getElem? (i := 1450) (by decide +kernel), List.mem_of_getElem? (i := 1836) (by decide +kernel), List.mem_of_getElem? (i := 1837) (by decide +kernel)⟩
theorem lw_p79 : lw_okq (⟨"SnowRecorderModel", "saysNumber", "(I)V"⟩, 60) := ⟨⟨by decide +kernel, by decide +kernel⟩, List.mem_of_getElem? (i := 1450) (by decide +kernel), List.mem_of_getElem? (i := 1847) (by decide +kernel), List.mem_of_getElem? (i := 1848) (by decide +kernel)⟩
def lw_privs_5 : List (MethodName × Nat) := [(⟨"SnowRecorderModel", "leastRatioBy", "(IIII)I"⟩, 60), (⟨"SnowRecorderModel", "weakestBy", "(IIII)I"⟩, 60), (⟨"SnowRecorderModel", "ratio", "(IIIII)I"⟩, 60), (⟨"SnowRecorderModel", "burden", "(IIIII)I"⟩, 60), (⟨"SnowRecorderModel", "above", "(III)I"⟩, 60), (⟨"SnowRecorderModel", "weight", "(III)I"⟩, 60), (⟨"SnowRecorderModel", "strength", "(III)I"⟩, 60), (⟨"SnowRecorderModel", "isSlope", "(I)Z"⟩, 60), (⟨"SnowRecorderModel", "weakest", "(II)I"⟩, 60), (⟨"SnowRecorderModel", "isUnstable", "(II)Z"⟩, 60), (⟨"SnowRecorderModel", "isLayer", "(II)Z"⟩, 60), (⟨"SnowRecorderModel", "load", "(III)I"⟩, 60), (⟨"SnowRecorderModel", "airOf", "(I)I"⟩, 60), (⟨"SnowRecorderModel", "hourOf", "(I)I"⟩, 60), (⟨"SnowRecorderModel", "grade", "(IIII)I"⟩, 60), (⟨"SnowRecorderModel", "saysNumber", "(I)V"⟩, 60)]
theorem lw_r5 : ∀ q ∈ lw_privs_5, lw_okq q := List.forall_mem_cons.mpr ⟨lw_p64, List.forall_mem_cons.mpr ⟨lw_p65, List.forall_mem_cons.mpr ⟨lw_p66, List.forall_mem_cons.mpr ⟨lw_p67, List.forall_mem_cons.mpr ⟨lw_p68, List.forall_mem_cons.mpr ⟨lw_p69, List.forall_mem_cons.mpr ⟨lw_p70, List.forall_mem_cons.mpr ⟨lw_p71, List.forall_mem_cons.mpr ⟨lw_p72, List.forall_mem_cons.mpr ⟨lw_p73, List.forall_mem_cons.mpr ⟨lw_p74, List.forall_mem_cons.mpr ⟨lw_p75, List.forall_mem_cons.mpr ⟨lw_p76, List.forall_mem_cons.mpr ⟨lw_p77, List.forall_mem_cons.mpr ⟨lw_p78, List.forall_mem_cons.mpr ⟨lw_p79, fun _ h => absurd h List.not_mem_nil⟩⟩⟩⟩⟩⟩⟩⟩⟩⟩⟩⟩⟩⟩⟩⟩
theorem lw_p80 : lw_okq (⟨"SnowRecorderModel", "says", "(I)V"⟩, 60) := ⟨⟨by decide +kernel, by decide +kernel⟩, List.mem_of_getElem? (i := 1450) (by decide +kernel), List.mem_of_getElem? (i := 1851) (by decide +kernel), List.mem_of_getElem? (i := 1852) (by decide +kernel)⟩
theorem lw_p81 : lw_okq (⟨"SnowRecorderModel", "saysKind", "(I)V"⟩, 60) := ⟨⟨by decide +kernel, by decide +kernel⟩, List.mem_of_getElem? (i := 1450) (by decide +kernel), List.mem_of_getElem? (i := 1855) (by decide +kernel), List.mem_of_getElem? (i := 1856) (by decide +kernel)⟩
theorem lw_p82 : lw_okq (⟨"SnowRecorderModel", "saysWord", "(II)V"⟩, 60) := ⟨⟨by decide +kernel, by decide +kernel⟩, List.mem_of_getElem? (i := 1450) (by decide +kernel), List.mem_of_getElem? (i := 1859) (by decide +kernel), List.mem_of_getElem? (i := 1860) (by decide +kernel)⟩
theorem lw_p83 : lw_okq (⟨"SnowRecorderModel", "refuses", "(I)I"⟩, 60) := ⟨⟨by decide +kernel, by decide +kernel⟩, List.mem_of_getElem? (i := 1450) (by decide +kernel), List.mem_of_getElem? (i := 1867) (by decide +kernel), List.mem_of_getElem? (i := 1868) (by decide +kernel)⟩
theorem lw_p84 : lw_okq (⟨"SnowRecorderModel", "keeps", "()V"⟩, 60) := ⟨⟨by decide +kernel, by decide +kernel⟩, List.mem_of_getElem? (i := 1450) (by decide +kernel), List.mem_of_getElem? (i := 1871) (by decide +kernel), List.mem_of_getElem? (i := 1872) (by decide +kernel)⟩
theorem lw_p85 : lw_okq (⟨"SnowRecorderModel", "copies", "(III)V"⟩, 60) := ⟨⟨by decide +kernel, by decide +kernel⟩, List.mem_of_getElem? (i := 1450) (by decide +kernel), List.mem_of_getElem? (i := 1878) (by decide +kernel), List.mem_of_getElem? (i := 1879) (by decide +kernel)⟩
theorem lw_p86 : lw_okq (⟨"SnowRecorderModel", "goes", "(II)V"⟩, 60) := ⟨⟨by decide +kernel, by decide +kernel⟩, List.mem_of_getElem? (i := 1450) (by decide +kernel), List.mem_of_getElem? (i := 1882) (by decide +kernel), List.mem_of_getElem? (i := 1883) (by decide +kernel)⟩
theorem lw_p87 : lw_okq (⟨"SnowRecorderModel", "hour", "(I)V"⟩, 60) := ⟨⟨by decide +kernel, by decide +kernel⟩, List.mem_of_getElem? (i := 1450) (by decide +kernel), List.mem_of_getElem? (i := 1886) (by decide +kernel), List.mem_of_getElem? (i := 1887) (by decide +kernel)⟩
theorem lw_p88 : lw_okq (⟨"SnowRecorderModel", "fallsNow", "(III)V"⟩, 60) := ⟨⟨by decide +kernel, by decide +kernel⟩, List.mem_of_getElem? (i := 1450) (by decide +kernel), List.mem_of_getElem? (i := 1890) (by decide +kernel), List.mem_of_getElem? (i := 1891) (by decide +kernel)⟩
theorem lw_p89 : lw_okq (⟨"SnowRecorderModel", "drops", "(IIIII)V"⟩, 60) := ⟨⟨by decide +kernel, by decide +kernel⟩, List.mem_of_getElem? (i := 1450) (by decide +kernel), List.mem_of_getElem? (i := 1894) (by decide +kernel), List.mem_of_getElem? (i := 1895) (by decide +kernel)⟩
theorem lw_p90 : lw_okq (⟨"SnowRecorderModel", "comes", "(IIIIII)V"⟩, 60) := ⟨⟨by decide +kernel, by decide +kernel⟩, List.mem_of_getElem? (i := 1450) (by decide +kernel), List.mem_of_getElem? (i := 1898) (by decide +kernel), List.mem_of_getElem? (i := 1899) (by decide +kernel)⟩
theorem lw_p91 : lw_okq (⟨"SnowRecorderModel", "joins", "(II)V"⟩, 60) := ⟨⟨by decide +kernel, by decide +kernel⟩, List.mem_of_getElem? (i := 1450) (by decide +kernel), List.mem_of_getElem? (i := 1902) (by decide +kernel), List.mem_of_getElem? (i := 1903) (by decide +kernel)⟩
theorem lw_p92 : lw_okq (⟨"SnowRecorderModel", "sets", "(IIIII)V"⟩, 60) := ⟨⟨by decide +kernel, by decide +kernel⟩, List.mem_of_getElem? (i := 1450) (by decide +kernel), List.mem_of_getElem? (i := 1909) (by decide +kernel), List.mem_of_getElem? (i := 1910) (by decide +kernel)⟩
theorem lw_p93 : lw_okq (⟨"SnowRecorderModel", "runsOff", "(III)V"⟩, 60) := ⟨⟨by decide +kernel, by decide +kernel⟩, List.mem_of_getElem? (i := 1450) (by decide +kernel), List.mem_of_getElem? (i := 1913) (by decide +kernel), List.mem_of_getElem? (i := 1914) (by decide +kernel)⟩
theorem lw_p94 : lw_okq (⟨"SnowRecorderModel", "topped", "(III)V"⟩, 60) := ⟨⟨by decide +kernel, by decide +kernel⟩, List.mem_of_getElem? (i := 1450) (by decide +kernel), List.mem_of_getElem? (i := 1917) (by decide +kernel), List.mem_of_getElem? (i := 1918) (by decide +kernel)⟩
theorem lw_p95 : lw_okq (⟨"SnowRecorderModel", "warms", "(III)V"⟩, 60) := ⟨⟨by decide +kernel, by decide +kernel⟩, List.mem_of_getElem? (i := 1450) (by decide +kernel), List.mem_of_getElem? (i := 1921) (by decide +kernel), List.mem_of_getElem? (i := 1922) (by decide +kernel)⟩
def lw_privs_6 : List (MethodName × Nat) := [(⟨"SnowRecorderModel", "says", "(I)V"⟩, 60), (⟨"SnowRecorderModel", "saysKind", "(I)V"⟩, 60), (⟨"SnowRecorderModel", "saysWord", "(II)V"⟩, 60), (⟨"SnowRecorderModel", "refuses", "(I)I"⟩, 60), (⟨"SnowRecorderModel", "keeps", "()V"⟩, 60), (⟨"SnowRecorderModel", "copies", "(III)V"⟩, 60), (⟨"SnowRecorderModel", "goes", "(II)V"⟩, 60), (⟨"SnowRecorderModel", "hour", "(I)V"⟩, 60), (⟨"SnowRecorderModel", "fallsNow", "(III)V"⟩, 60), (⟨"SnowRecorderModel", "drops", "(IIIII)V"⟩, 60), (⟨"SnowRecorderModel", "comes", "(IIIIII)V"⟩, 60), (⟨"SnowRecorderModel", "joins", "(II)V"⟩, 60), (⟨"SnowRecorderModel", "sets", "(IIIII)V"⟩, 60), (⟨"SnowRecorderModel", "runsOff", "(III)V"⟩, 60), (⟨"SnowRecorderModel", "topped", "(III)V"⟩, 60), (⟨"SnowRecorderModel", "warms", "(III)V"⟩, 60)]
theorem lw_r6 : ∀ q ∈ lw_privs_6, lw_okq q := List.forall_mem_cons.mpr ⟨lw_p80, List.forall_mem_cons.mpr ⟨lw_p81, List.forall_mem_cons.mpr ⟨lw_p82, List.forall_mem_cons.mpr ⟨lw_p83, List.forall_mem_cons.mpr ⟨lw_p84, List.forall_mem_cons.mpr ⟨lw_p85, List.forall_mem_cons.mpr ⟨lw_p86, List.forall_mem_cons.mpr ⟨lw_p87, List.forall_mem_cons.mpr ⟨lw_p88, List.forall_mem_cons.mpr ⟨lw_p89, List.forall_mem_cons.mpr ⟨lw_p90, List.forall_mem_cons.mpr ⟨lw_p91, List.forall_mem_cons.mpr ⟨lw_p92, List.forall_mem_cons.mpr ⟨lw_p93, List.forall_mem_cons.mpr ⟨lw_p94, List.forall_mem_cons.mpr ⟨lw_p95, fun _ h => absurd h List.not_mem_nil⟩⟩⟩⟩⟩⟩⟩⟩⟩⟩⟩⟩⟩⟩⟩⟩
theorem lw_p96 : lw_okq (⟨"SnowRecorderModel", "evens", "(II)V"⟩, 60) := ⟨⟨by decide +kernel, by decide +kernel⟩, List.mem_of_getElem? (i := 1450) (by decide +kernel), List.mem_of_getElem? (i := 1925) (by decide +kernel), List.mem_of_getElem? (i := 1926) (by decide +kernel)⟩
theorem lw_p97 : lw_okq (⟨"SnowRecorderModel", "sinks", "(II)V"⟩, 60) := ⟨⟨by decide +kernel, by decide +kernel⟩, List.mem_of_getElem? (i := 1450) (by decide +kernel), List.mem_of_getElem? (i := 1929) (by decide +kernel), List.mem_of_getElem? (i := 1930) (by decide +kernel)⟩
theorem lw_p98 : lw_okq (⟨"SnowRecorderModel", "freezes", "(I)V"⟩, 60) := ⟨⟨by decide +kernel, by decide +kernel⟩, List.mem_of_getElem? (i := 1450) (by decide +kernel), List.mem_of_getElem? (i := 1933) (by decide +kernel), List.mem_of_getElem? (i := 1934) (by decide +kernel)⟩
theorem lw_p99 : lw_okq (⟨"SnowRecorderModel", "presses", "(II)V"⟩, 60) := ⟨⟨by decide +kernel, by decide +kernel⟩, List.mem_of_getElem? (i := 1450) (by decide +kernel), List.mem_of_getElem? (i := 1937) (by decide +kernel), List.mem_of_getElem? (i := 1938) (by decide +kernel)⟩
theorem lw_p100 : lw_okq (⟨"SnowRecorderModel", "ages", "(III)V"⟩, 60) := ⟨⟨by decide +kernel, by decide +kernel⟩, List.mem_of_getElem? (i := 1450) (by decide +kernel), List.mem_of_getElem? (i := 1941) (by decide +kernel), List.mem_of_getElem? (i := 1942) (by decide +kernel)⟩
theorem lw_p101 : lw_okq (⟨"SnowRecorderModel", "kindThen", "(IIII)I"⟩, 60) := ⟨⟨by decide +kernel, by decide +kernel⟩, List.mem_of_getElem? (i := 1450) (by decide +kernel), List.mem_of_getElem? (i := 1945) (by decide +kernel), List.mem_of_getElem? (i := 1946) (by decide +kernel)⟩
theorem lw_p102 : lw_okq (⟨"SnowRecorderModel", "digs", "(II)V"⟩, 60) := ⟨⟨by decide +kernel, by decide +kernel⟩, List.mem_of_getElem? (i := 1450) (by decide +kernel), List.mem_of_getElem? (i := 1957) (by decide +kernel), List.mem_of_getElem? (i := 1958) (by decide +kernel)⟩
theorem lw_p103 : lw_okq (⟨"SnowRecorderModel", "slides", "(II)I"⟩, 60) := ⟨⟨by decide +kernel, by decide +kernel⟩, List.mem_of_getElem? (i := 1450) (by decide +kernel), List.mem_of_getElem? (i := 1965) (by decide +kernel), List.mem_of_getElem? (i := 1966) (by decide +kernel)⟩
theorem lw_p104 : lw_okq (⟨"SnowRecorderModel", "tries", "()V"⟩, 60) := ⟨⟨by decide +kernel, by decide +kernel⟩, List.mem_of_getElem? (i := 1450) (by decide +kernel), List.mem_of_getElem? (i := 1981) (by decide +kernel), List.mem_of_getElem? (i := 1982) (by decide +kernel)⟩
theorem lw_p105 : lw_okq (⟨"SnowRecorderModel", "isNamed", "(II)Z"⟩, 60) := ⟨⟨by decide +kernel, by decide +kernel⟩, List.mem_of_getElem? (i := 1450) (by decide +kernel), List.mem_of_getElem? (i := 1993) (by decide +kernel), List.mem_of_getElem? (i := 1994) (by decide +kernel)⟩
theorem lw_p106 : lw_okq (⟨"SnowRecorderModel", "ratioBehind", "(II)I"⟩, 60) := ⟨⟨by decide +kernel, by decide +kernel⟩, List.mem_of_getElem? (i := 1450) (by decide +kernel), List.mem_of_getElem? (i := 2020) (by decide +kernel), List.mem_of_getElem? (i := 2021) (by decide +kernel)⟩
theorem lw_p107 : lw_okq (⟨"SnowRecorderModel", "isPit", "(I)Z"⟩, 60) := ⟨⟨by decide +kernel, by decide +kernel⟩, List.mem_of_getElem? (i := 1450) (by decide +kernel), List.mem_of_getElem? (i := 2028) (by decide +kernel), List.mem_of_getElem? (i := 2029) (by decide +kernel)⟩
theorem lw_p108 : lw_okq (⟨"SnowRecorderModel", "pitMany", "(I)I"⟩, 60) := ⟨⟨by decide +kernel, by decide +kernel⟩, List.mem_of_getElem? (i := 1450) (by decide +kernel), List.mem_of_getElem? (i := 2032) (by decide +kernel), List.mem_of_getElem? (i := 2033) (by decide +kernel)⟩
theorem lw_p109 : lw_okq (⟨"SnowRecorderModel", "namesInBoth", "(II)I"⟩, 60) := ⟨⟨by decide +kernel, by decide +kernel⟩, List.mem_of_getElem? (i := 1450) (by decide +kernel), List.mem_of_getElem? (i := 2040) (by decide +kernel), List.mem_of_getElem? (i := 2041) (by decide +kernel)⟩
theorem lw_p110 : lw_okq (⟨"SnowRecorderModel", "inPit", "(III)I"⟩, 60) := ⟨⟨by decide +kernel, by decide +kernel⟩, List.mem_of_getElem? (i := 1450) (by decide +kernel), List.mem_of_getElem? (i := 2044) (by decide +kernel), List.mem_of_getElem? (i := 2045) (by decide +kernel)⟩
theorem lw_p111 : lw_okq (⟨"SnowRecorderModel", "weakestName", "(I)I"⟩, 60) := ⟨⟨by decide +kernel, by decide +kernel⟩, List.mem_of_getElem? (i := 1450) (by decide +kernel), List.mem_of_getElem? (i := 2048) (by decide +kernel), List.mem_of_getElem? (i := 2049) (by decide +kernel)⟩
def lw_privs_7 : List (MethodName × Nat) := [(⟨"SnowRecorderModel", "evens", "(II)V"⟩, 60), (⟨"SnowRecorderModel", "sinks", "(II)V"⟩, 60), (⟨"SnowRecorderModel", "freezes", "(I)V"⟩, 60), (⟨"SnowRecorderModel", "presses", "(II)V"⟩, 60), (⟨"SnowRecorderModel", "ages", "(III)V"⟩, 60), (⟨"SnowRecorderModel", "kindThen", "(IIII)I"⟩, 60), (⟨"SnowRecorderModel", "digs", "(II)V"⟩, 60), (⟨"SnowRecorderModel", "slides", "(II)I"⟩, 60), (⟨"SnowRecorderModel", "tries", "()V"⟩, 60), (⟨"SnowRecorderModel", "isNamed", "(II)Z"⟩, 60), (⟨"SnowRecorderModel", "ratioBehind", "(II)I"⟩, 60), (⟨"SnowRecorderModel", "isPit", "(I)Z"⟩, 60), (⟨"SnowRecorderModel", "pitMany", "(I)I"⟩, 60), (⟨"SnowRecorderModel", "namesInBoth", "(II)I"⟩, 60), (⟨"SnowRecorderModel", "inPit", "(III)I"⟩, 60), (⟨"SnowRecorderModel", "weakestName", "(I)I"⟩, 60)]
theorem lw_r7 : ∀ q ∈ lw_privs_7, lw_okq q := List.forall_mem_cons.mpr ⟨lw_p96, List.forall_mem_cons.mpr ⟨lw_p97, List.forall_mem_cons.mpr ⟨lw_p98, List.forall_mem_cons.mpr ⟨lw_p99, List.forall_mem_cons.mpr ⟨lw_p100, List.forall_mem_cons.mpr ⟨lw_p101, List.forall_mem_cons.mpr ⟨lw_p102, List.forall_mem_cons.mpr ⟨lw_p103, List.forall_mem_cons.mpr ⟨lw_p104, List.forall_mem_cons.mpr ⟨lw_p105, List.forall_mem_cons.mpr ⟨lw_p106, List.forall_mem_cons.mpr ⟨lw_p107, List.forall_mem_cons.mpr ⟨lw_p108, List.forall_mem_cons.mpr ⟨lw_p109, List.forall_mem_cons.mpr ⟨lw_p110, List.forall_mem_cons.mpr ⟨lw_p111, fun _ h => absurd h List.not_mem_nil⟩⟩⟩⟩⟩⟩⟩⟩⟩⟩⟩⟩⟩⟩⟩⟩
theorem lw_p112 : lw_okq (⟨"SnowRecorderModel", "laysPit", "(I[I)V"⟩, 60) := ⟨⟨by decide +kernel, by decide +kernel⟩, List.mem_of_getElem? (i := 1450) (by decide +kernel), List.mem_of_getElem? (i := 2052) (by decide +kernel), List.mem_of_getElem? (i := 2053) (by decide +kernel)⟩
theorem lw_p113 : lw_okq (⟨"SnowRecorderModel", "folds", "(Z)I"⟩, 60) := ⟨⟨by decide +kernel, by decide +kernel⟩, List.mem_of_getElem? (i := 1450) (by decide +kernel), List.mem_of_getElem? (i := 2056) (by decide +kernel), List.mem_of_getElem? (i := 2057) (by decide +kernel)⟩
theorem lw_p114 : lw_okq (⟨"SnowRecorderModel", "isNoted", "()Z"⟩, 60) := ⟨⟨by decide +kernel, by decide +kernel⟩, List.mem_of_getElem? (i := 1450) (by decide +kernel), List.mem_of_getElem? (i := 2072) (by decide +kernel), List.mem_of_getElem? (i := 2073) (by decide +kernel)⟩
theorem lw_p115 : lw_okq (⟨"SnowRecorderModel", "isGuess", "(II)Z"⟩, 60) := ⟨⟨by decide +kernel, by decide +kernel⟩, List.mem_of_getElem? (i := 1450) (by decide +kernel), List.mem_of_getElem? (i := 2076) (by decide +kernel), List.mem_of_getElem? (i := 2077) (by decide +kernel)⟩
theorem lw_p116 : lw_okq (⟨"SnowRecorderModel", "unlike", "(II)I"⟩, 60) := ⟨⟨by decide +kernel, by decide +kernel⟩, List.mem_of_getElem? (i := 1450) (by decide +kernel), List.mem_of_getElem? (i := 2084) (by decide +kernel), List.mem_of_getElem? (i := 2085) (by decide +kernel)⟩
theorem lw_p117 : lw_okq (⟨"SnowRecorderModel", "year", "()V"⟩, 60) := ⟨⟨by decide +kernel, by decide +kernel⟩, List.mem_of_getElem? (i := 1450) (by decide +kernel), List.mem_of_getElem? (i := 2100) (by decide +kernel), List.mem_of_getElem? (i := 2101) (by decide +kernel)⟩
theorem lw_p118 : lw_okq (⟨"SnowRecorderModel", "draw", "(I)I"⟩, 60) := ⟨⟨by decide +kernel, by decide +kernel⟩, List.mem_of_getElem? (i := 1450) (by decide +kernel), List.mem_of_getElem? (i := 2104) (by decide +kernel), List.mem_of_getElem? (i := 2105) (by decide +kernel)⟩
def lw_privs_8 : List (MethodName × Nat) := [(⟨"SnowRecorderModel", "laysPit", "(I[I)V"⟩, 60), (⟨"SnowRecorderModel", "folds", "(Z)I"⟩, 60), (⟨"SnowRecorderModel", "isNoted", "()Z"⟩, 60), (⟨"SnowRecorderModel", "isGuess", "(II)Z"⟩, 60), (⟨"SnowRecorderModel", "unlike", "(II)I"⟩, 60), (⟨"SnowRecorderModel", "year", "()V"⟩, 60), (⟨"SnowRecorderModel", "draw", "(I)I"⟩, 60)]
theorem lw_r8 : ∀ q ∈ lw_privs_8, lw_okq q := List.forall_mem_cons.mpr ⟨lw_p112, List.forall_mem_cons.mpr ⟨lw_p113, List.forall_mem_cons.mpr ⟨lw_p114, List.forall_mem_cons.mpr ⟨lw_p115, List.forall_mem_cons.mpr ⟨lw_p116, List.forall_mem_cons.mpr ⟨lw_p117, List.forall_mem_cons.mpr ⟨lw_p118, fun _ h => absurd h List.not_mem_nil⟩⟩⟩⟩⟩⟩⟩
def lw_privs : List (MethodName × Nat) := lw_privs_1 ++ (lw_privs_2 ++ (lw_privs_3 ++ (lw_privs_4 ++ (lw_privs_5 ++ (lw_privs_6 ++ (lw_privs_7 ++ (lw_privs_8)))))))
def lw_tbl : List Cond := k2_sels lw_privs ++ tables_1
theorem lw_privs_ok : ∀ q ∈ lw_privs, lw_okq q := by
  show ∀ q ∈ lw_privs_1 ++ (lw_privs_2 ++ (lw_privs_3 ++ (lw_privs_4 ++ (lw_privs_5 ++ (lw_privs_6 ++ (lw_privs_7 ++ (lw_privs_8))))))), lw_okq q
  exact List.forall_mem_append.mpr ⟨lw_r1, List.forall_mem_append.mpr ⟨lw_r2, List.forall_mem_append.mpr ⟨lw_r3, List.forall_mem_append.mpr ⟨lw_r4, List.forall_mem_append.mpr ⟨lw_r5, List.forall_mem_append.mpr ⟨lw_r6, List.forall_mem_append.mpr ⟨lw_r7, lw_r8⟩⟩⟩⟩⟩⟩⟩
/-! ===== BEGIN words of one list among another's, by their places ===== -/
/-- f, but v at every address of l -/
def vr_up {α : Type} (f : Nat → α) (l : List Nat) (v : α) : Nat → α := fun a => if a ∈ l then v else f a
theorem vr_up_in {α : Type} {f : Nat → α} {l : List Nat} {v : α} {a : Nat} (h : a ∈ l) : vr_up f l v a = v := if_pos h
theorem vr_up_ne {α : Type} {f : Nat → α} {l : List Nat} {v : α} {a : Nat} (h : a ∉ l) : vr_up f l v a = f a := if_neg h
theorem vr_rows {L l : List Nat} {f : Nat → va_E} {e : va_E} (h : ∀ a, a ∈ l → a ∉ L) : va_pl L f ++ l.map (fun a => (a, e)) = va_pl (L ++ l) (vr_up f l e) := by
  unfold va_pl
  rw [List.map_append]
  congr 1
  · apply List.map_congr_left
    intro a ha
    rw [vr_up_ne (fun q => h a q ha)]
  · apply List.map_congr_left
    intro a ha
    rw [vr_up_in ha]
theorem vr_lay {X rows : va_W} {x : Nat × va_E} {pl : va_W} {D : va_G} {cl : List vw_C} {H : Heap} (hP : va_P D cl (((X ++ pl) ++ [x]) ++ rows) H) : va_P D cl ((X ++ [x]) ++ (pl ++ rows)) H := by
  rw [List.append_assoc (X ++ pl)] at hP
  have h := va_P.swap hP
  rw [← List.append_assoc X] at h
  have h2 := va_P.swap h
  rw [List.append_assoc (X ++ [x])] at h2
  exact h2
theorem vr_layD {X rows : va_W} {x : Nat × va_E} {pl : va_W} {A : Nat → Prop} (hD : va_D A (((X ++ pl) ++ [x]) ++ rows)) : va_D A ((X ++ [x]) ++ (pl ++ rows)) := by
  rw [List.append_assoc (X ++ pl)] at hD
  have h := va_D.swap hD
  rw [← List.append_assoc X] at h
  have h2 := va_D.swap h
  rw [List.append_assoc (X ++ [x])] at h2
  exact h2
theorem vr_outer (c : ClassId) (N h0 : Nat) : ∀ i : Nat, Jvm.Free.Multi.outerC c N h0 i = arrV c N (fun j => va_rf (if j < i then some (h0 + 1 + j) else none))
  | 0 => by
    show ({ cls := c, slots := Array.replicate N .null, vm := .none } : Cell) = _
    rw [arrV_new]
    refine congrArg (arrV c N) (funext fun j => ?_)
    simp [va_rf]
  | i + 1 => by
    show (Jvm.Free.Multi.outerC c N h0 i).setSlot i (.ref (h0 + 1 + i)) = _
    rw [vr_outer c N h0 i, arrV_store]
    refine congrArg (arrV c N) (funext fun j => ?_)
    by_cases e : j = i
    · subst e
      simp [updV, va_rf]
    · by_cases h : j < i
      · simp [updV, e, h, Nat.lt_succ_of_lt h]
      · simp [updV, e, h, show ¬ j < i + 1 by omega]
def va_AOA (t : FieldType) (U : State) : Prop := (Cond.arrayOver (.array t)).before #[] U = true
theorem va_AOA.use {t : FieldType} {A : Array Value} {U : State} (h : va_AOA t U) : (Cond.arrayOver (.array t)).before A U = true := h
section VGM
variable {p : Program} {l : Launch} {e : Env} {R : Room} {s : State} {m : MethodId} {args : Array Value} {below : List Frame} {meth : Method} {c : Code} {H : Heap} {locs : List Loc} {cells slots : Nat} {Q : State → Prop}
variable {cc : ByteArray} {pc : Nat} {ls : Array Slot} {rest : List Value} {D : va_G} {cl : List vw_C} {A : Nat → Prop} {a : Nat} {tys : List (ClassId × FieldType)} {ws : va_W} {H0 : Heap}
theorem va_mna {X : va_W} {L : List Nat} {f : Nat → va_E} {cc : ByteArray} (hexec : p.tables.exec = Jvm.exec) (hb : c.code = cc) {own : String} {index : Nat} {ty : FieldType} {cy : ClassId} (hown : s.vm.findClass own = some m.cls) (hclink : (Cond.classLink own index ("[" ++ (FieldType.array ty).toString)).before args s = true) (hover : va_AOA ty s) (harr : (Cond.arrayClass ty).before args s = true) (hcy : s.vm.findClass (FieldType.array ty).toString = some cy)
    (hK : va_K D cl tys s) (hP : va_P D cl (X ++ va_pl L f) H) (hD : va_D A (X ++ va_pl L f)) (hS : va_S A H0 H locs) (hA : ∀ q, H0.size ≤ q → A q) {n k : Int32} {N' K' : Nat} {z : vp_A} (hn : ¬ n < 0) (hk : ¬ k < 0) (hN : n.toNatClampNeg = N') (hM : k.toNatClampNeg = K')
    (hb1 : N' * 4 ≤ 536870912) (hb2 : K' * componentBytes ty ≤ 536870912) (hb3 : K' ≤ 536870912) (hdf : fits ty (defaultValue ty) = true) (hdd : (defaultValue ty).isDefault = true) (hcells : cells + (1 + N') ≤ R.cells) (hslots : slots + (N' + N' * K') ≤ R.slots) (hz : ∀ c : ClassId, Jvm.Free.Multi.innerC c K' (defaultValue ty) = vp_cell c z) (hdg : decode cc pc = .ok (.multianewarray index 2, 4))
    (kk : ∀ (q : Nat) (r : Nat → Nat) (cA : ClassId) (H1 : Heap), (∀ i j : Nat, i < N' → j < N' → r i = r j → i = j) → (∀ i : Nat, i < N' → r i ∉ L) → va_K D cl (tys ++ [(cA, .array ty)]) s →
      va_P D cl ((X ++ [(q, .inl (cA, N', .inr (.inr (.inr (.inr (fun i => if i < N' then some (r i) else none))))))]) ++ va_pl (L ++ (List.range N').map r) (vr_up f ((List.range N').map r) (.inl (cy, z)))) H1 → va_D A ((X ++ [(q, .inl (cA, N', .inr (.inr (.inr (.inr (fun i => if i < N' then some (r i) else none))))))]) ++ va_pl (L ++ (List.range N').map r) (vr_up f ((List.range N').map r) (.inl (cy, z)))) → va_S A H0 H1 locs →
      W p l e R s m args below meth c H1 locs (cells + 1 + N') (slots + N' + N' * K') Q (F0 m (pc + 4) ls (.ref q :: rest))) : W p l e R s m args below meth c H locs cells slots Q (F0 m pc ls (.int k :: .int n :: rest)) := by
  subst hN
  subst hM
  intro T hT Xs
  obtain ⟨vm₁, cA, comp, -, fA, fC, hO, -, X', step⟩ := Xs.multianewarray2F hexec hown hclink (va_AOA.use hover) harr (g := F0 m pc ls (.int k :: .int n :: rest)) rfl (by rw [hb]; exact hdg) rfl hn hk hb1 hb2 hb3 hdf hdd hcells hslots
  have ec : some cy = some comp := hcy.symm.trans fC
  cases ec
  generalize hF : Jvm.Free.Multi.fill (T.setVm vm₁) cA cy n.toNatClampNeg k.toNatClampNeg (defaultValue ty) n.toNatClampNeg = F at X' step
  have hTh : (T.setVm vm₁).heap = H := hT
  obtain ⟨f1, f2, -, -⟩ := Jvm.Free.Multi.fill_facts (T.setVm vm₁) cA cy n.toNatClampNeg k.toNatClampNeg (defaultValue ty) n.toNatClampNeg
  rw [hF, hTh] at f1 f2
  have hold : ∀ x : Nat, x < H.size → F.heap[x]? = H[x]? := fun x hx => by
    have := Jvm.Free.Multi.fill_old (T.setVm vm₁) cA cy n.toNatClampNeg k.toNatClampNeg (defaultValue ty) (a := x) (by rw [hTh]; exact hx) n.toNatClampNeg
    rw [hF, hTh] at this
    exact this
  have hrow : ∀ j : Nat, j < n.toNatClampNeg → F.heap[H.size + 1 + j]? = some (vp_cell cy z) := fun j hj => by
    have := Jvm.Free.Multi.fill_inner (T.setVm vm₁) cA cy n.toNatClampNeg k.toNatClampNeg (defaultValue ty) n.toNatClampNeg j hj
    rw [hF, hTh, hz] at this
    exact this
  have hout : Jvm.Free.Multi.outerC cA n.toNatClampNeg H.size n.toNatClampNeg = vp_cell cA (n.toNatClampNeg, .inr (.inr (.inr (.inr (fun i => if i < n.toNatClampNeg then some (H.size + 1 + i) else none))))) := by
    rw [vp_cell_q]
    exact vr_outer cA n.toNatClampNeg H.size n.toNatClampNeg
  rw [hout] at f2
  have hlt : ∀ a, a ∈ L → a < H.size := fun a ha => by
    obtain ⟨k9, hk9⟩ := va_pl_get (X := X) (f := f) ha
    exact (hP k9 _ hk9).lt
  have hnl : ∀ i : Nat, i < n.toNatClampNeg → H.size + 1 + i ∉ L := fun i _ h => by
    have := hlt _ h
    omega
  have hnm : ∀ a, a ∈ (List.range n.toNatClampNeg).map (fun i => H.size + 1 + i) → a ∉ L := fun a ha h => by
    obtain ⟨i, -, rfl⟩ := List.mem_map.mp ha
    have := hlt _ h
    omega
  have hP0 : va_P D cl (X ++ va_pl L f) F.heap := hP.kept (fun k9 x hx => hold x.1 ((hP k9 x hx).lt))
  have hP1 : va_P D cl ((X ++ va_pl L f) ++ [(H.size, .inl (cA, n.toNatClampNeg, .inr (.inr (.inr (.inr (fun i => if i < n.toNatClampNeg then some (H.size + 1 + i) else none))))))]) F.heap := hP0.app (fun k9 x hx => by
    have h0 : k9 < 1 := (List.getElem?_eq_some_iff.mp hx).1
    rw [show k9 = 0 by omega] at hx
    cases hx
    exact f2)
  have hP2 : va_P D cl (((X ++ va_pl L f) ++ [(H.size, .inl (cA, n.toNatClampNeg, .inr (.inr (.inr (.inr (fun i => if i < n.toNatClampNeg then some (H.size + 1 + i) else none))))))]) ++ ((List.range n.toNatClampNeg).map (fun i => H.size + 1 + i)).map (fun a => (a, .inl (cy, z)))) F.heap := hP1.app (fun k9 x hx => by
    obtain ⟨a, ha, rfl⟩ := List.mem_map.mp (List.mem_of_getElem? hx)
    obtain ⟨i, hi, rfl⟩ := List.mem_map.mp ha
    exact hrow i (List.mem_range.mp hi))
  have hD2 : va_D A (((X ++ va_pl L f) ++ [(H.size, .inl (cA, n.toNatClampNeg, .inr (.inr (.inr (.inr (fun i => if i < n.toNatClampNeg then some (H.size + 1 + i) else none))))))]) ++ ((List.range n.toNatClampNeg).map (fun i => H.size + 1 + i)).map (fun a => (a, .inl (cy, z)))) := by
    have hD1 := hD.push (e := .inl (cA, n.toNatClampNeg, .inr (.inr (.inr (.inr (fun i => if i < n.toNatClampNeg then some (H.size + 1 + i) else none)))))) hP rfl (hA _ hS.1)
    generalize hW1 : (X ++ va_pl L f) ++ [(H.size, .inl (cA, n.toNatClampNeg, .inr (.inr (.inr (.inr (fun i => if i < n.toNatClampNeg then some (H.size + 1 + i) else none))))))] = W1 at hD1 hP1 ⊢
    have hle : ∀ (k9 : Nat) (x : Nat × va_E), W1[k9]? = some x → x.1 ≤ H.size := fun k9 x hx => by
      rw [← hW1] at hx
      by_cases hl : k9 < (X ++ va_pl L f).length
      · rw [List.getElem?_append_left hl] at hx
        exact Nat.le_of_lt ((hP k9 x hx).lt)
      · rw [List.getElem?_append_right (by omega)] at hx
        have h0 : k9 - (X ++ va_pl L f).length < 1 := (List.getElem?_eq_some_iff.mp hx).1
        rw [show k9 - (X ++ va_pl L f).length = 0 by omega] at hx
        cases hx
        exact Nat.le_refl _
    have hr : ∀ (k9 : Nat) (x : Nat × va_E), (((List.range n.toNatClampNeg).map (fun i => H.size + 1 + i)).map (fun a => ((a, .inl (cy, z)) : Nat × va_E)))[k9]? = some x → x.1 = H.size + 1 + k9 := fun k9 x hx => by
      rw [List.getElem?_map, List.getElem?_map] at hx
      by_cases h9 : k9 < n.toNatClampNeg
      · rw [List.getElem?_range h9] at hx
        cases hx
        rfl
      · have hn0 : (List.range n.toNatClampNeg)[k9]? = none := List.getElem?_eq_none (by rw [List.length_range]; omega)
        rw [hn0] at hx
        cases hx
    refine ⟨fun i j x y hi hj hxy => ?_, fun k9 x hx => ?_⟩
    · by_cases h1 : i < W1.length <;> by_cases h2 : j < W1.length
      · rw [List.getElem?_append_left h1] at hi
        rw [List.getElem?_append_left h2] at hj
        exact hD1.1 i j x y hi hj hxy
      · rw [List.getElem?_append_left h1] at hi
        rw [List.getElem?_append_right (by omega)] at hj
        have := hle _ _ hi
        have := hr _ _ hj
        omega
      · rw [List.getElem?_append_right (by omega)] at hi
        rw [List.getElem?_append_left h2] at hj
        have := hle _ _ hj
        have := hr _ _ hi
        omega
      · rw [List.getElem?_append_right (by omega)] at hi hj
        have := hr _ _ hi
        have := hr _ _ hj
        omega
    · by_cases h1 : k9 < W1.length
      · rw [List.getElem?_append_left h1] at hx
        exact hD1.2 k9 x hx
      · rw [List.getElem?_append_right (by omega)] at hx
        have := hr _ _ hx
        exact hA _ (by have := hS.1; omega)
  have hAr : ArrOfT s cA (.array ty) := fun N9 z9 => by
    obtain ⟨-, k9, hk9, cm9, hkk9⟩ := (hO 0 0 0).1
    exact ⟨(fun q hq => by cases hq), k9, hk9, cm9, hkk9⟩
  have hK2 : va_K D cl (tys ++ [(cA, .array ty)]) s := ⟨hK.1, fun k9 x hx => by
    by_cases hl : k9 < tys.length
    · rw [List.getElem?_append_left hl] at hx
      exact hK.2 k9 x hx
    · rw [List.getElem?_append_right (by omega)] at hx
      have h0 : k9 - tys.length < 1 := (List.getElem?_eq_some_iff.mp hx).1
      rw [show k9 - tys.length = 0 by omega] at hx
      cases hx
      exact ⟨hAr, fA⟩⟩
  obtain ⟨t, a1, b1⟩ := kk H.size (fun i => H.size + 1 + i) cA F.heap (fun i j _ _ h => by have h9 : H.size + 1 + i = H.size + 1 + j := h; omega) hnl hK2 (by rw [← vr_rows hnm]; exact vr_lay hP2) (by rw [← vr_rows hnm]; exact vr_layD hD2) ⟨by rw [f1]; have := hS.1; omega, fun x h1 h2 => (hold x (Nat.lt_of_lt_of_le h1 hS.1)).trans (hS.2.1 x h1 h2), hS.2.2⟩ F rfl X'
  refine ⟨t, step t ?_, b1⟩
  have e : T.heap.size = H.size := by rw [hT]
  rw [e]
  exact a1
end VGM
/-! ===== END ===== -/

/-! ===== BEGIN exceptions that leave a method, and their catching by the caller (launches without stack traces) ===== -/
section VXA
/-! The laws vx_back, vx_callV, vx_callS, vx_callSW, vx_throw0, vx_throwS follow proofs of the library, with one case more: JvmDerived/Free/Laws.lean (Back.of_free), Shelf42/LK1.lean (callV, callS), Shelf/KitTraced.lean (throwNew0V, throwNewS). -/
/-- where a method has thrown q: the class by its name, the cell, what was written, the world -/
def vx_T (XC : String → State → State → Prop) (st : State) (q : Addr) (t : State) (mc ms : Nat) (free : Addr → Prop) : Prop :=
  ∃ (E : String) (ce : Cell) (L : List Loc), XC E st t ∧ t.heap[q]? = some ce ∧ ce.vm = .none ∧ st.vm.findClass E = some ce.cls ∧ st.WarmedH t.vm ∧ st.sameButNew ({ t with vm := st.vm } : State) L mc ms ∧ ∀ z ∈ L, free z.base
def vx_Q (Qc : Array Value → State → Outcome → State → Prop) (XC : String → State → State → Prop) (mc ms : Nat) (free : Addr → Prop) : Array Value → State → Outcome → State → Prop := fun a st o t =>
  (Qc a st o t ∧ ∃ L, FrameEnd st o t L mc ms ∧ ∀ q ∈ L, free q.base) ∨ ∃ q, o = .threw q ∧ vx_T XC st q t mc ms free
/-- a callee that returns or throws -/
def vx_Met (l : Launch) (y : MethodName) (ws : List Cond) (rm : Room) (Pc : Array Value → State → Prop) (Qc : Array Value → State → Outcome → State → Prop) (XC : String → State → State → Prop) (mc ms : Nat) (free : Addr → Prop) : Prop :=
  MetFree l y (headSpec ws rm) Pc (fun _ _ _ _ _ => True) (vx_Q Qc XC mc ms free)
def vx_Post (XC : String → State → State → Prop) (mc ms : Nat) (free : Addr → Prop) : Pt → Array Value → Addr → Pt → Prop := fun A a q B =>
  ∃ (g : JFrame) (mk : MethodId) (t : State) (L : List Loc) (E : String) (ce : Cell), B.U.heap = t.heap ∧ B.U.vm = t.vm ∧ XC E (A.U.calling g mk a) t ∧ t.heap[q]? = some ce ∧ ce.vm = .none ∧ A.U.vm.findClass E = some ce.cls ∧ B.locs = A.locs ++ L ∧ (∀ z ∈ L, free z.base) ∧ B.cells = A.cells + mc ∧ B.slots = A.slots + ms
def vx_Back (l : Launch) (R : Room) (p : Program) (e : Env) (below : List Frame) (s : State) (sargs : Array Value) (y : MethodName) (len W9 : Nat)
    (Pre : Pt → Array Value → Prop) (Post : Pt → Array Value → Option Value → Pt → Prop) (PostX : Pt → Array Value → Addr → Pt → Prop) : Prop :=
  ∀ (m : MethodId) (meth : Method) (c : Code) (A : Pt) (g : JFrame) (ig : Instr) (mk : MethodId) (a : Array Value),
    Stand p l e R s m sargs below meth c A.U A.locs A.cells A.slots → g.method = m → g.locals.size = c.maxLocals → decode c.code g.pc = .ok (ig, len) →
    2 * g.monitorRoom + (g.stack.map fun v => v.category).sum ≤ W9 → A.U.methodNamed? y = some mk → Pre A a →
    (∃ (v : Option Value) (B : Pt), Stand p l e R s m sargs below meth c B.U B.locs B.cells B.slots ∧ Post A a v B ∧
      Steps p.tables e below (doInvoke e (A.U.setTop g) [] mk a).1 (B.U.setTop { g with pc := g.pc + len, stack := v.toList ++ g.stack })) ∨
    (∃ (q : Addr) (B : Pt), Stand p l e R s m sargs below meth c B.U B.locs B.cells B.slots ∧ PostX A a q B ∧
      Steps p.tables e below (doInvoke e (A.U.setTop g) [] mk a).1 ((B.U.setTop g).pushFrame (.throwing q)))
section Payer
variable {l : Launch} {R : Room} {p : Program} {e : Env} {below : List Frame} {s : State} {sargs : Array Value} {y : MethodName} {len W9 : Nat}
theorem vx_back {ws : List Cond} {rm : Room} {Pc : Array Value → State → Prop} {Qc : Array Value → State → Outcome → State → Prop} {XC : String → State → State → Prop} {mc ms : Nat} {free : Addr → Prop} {bytes : ByteArray} {maxL : Nat} {ret : Option FieldType}
    (hM : vx_Met l y ws rm Pc Qc XC mc ms free) (hblind : FrameBlind Pc) (hrc : rm.cells = mc) (hrs : rm.slots = ms)
    (hframes : rm.frames + 1 ≤ R.frames) (hlocals : W9 + (maxL + 11) + rm.locals ≤ R.locals)
    (hws : ∀ w ∈ ws, ∀ a' U, s.WarmedH U.vm → w.before a' U = true) (hcode : Cond.code y bytes maxL ret ∈ ws) (hinit : ∀ a' U, s.WarmedH U.vm → (Cond.initialized y.cls).before a' U = true) :
    vx_Back l R p e below s sargs y len W9 (PreOf R mc ms Pc) (PostOf Qc mc ms free) (vx_Post XC mc ms free) := by
  intro m meth c A g ig mk a X hg hsize hdg hW hn hp
  have h1 : (headSpec ws rm).pre.before a A.U = true := atoms_intro fun w hw => hws w hw _ _ X.warmed
  have h2 : (Cond.code y bytes maxL ret).before a A.U = true := hws _ hcode _ _ X.warmed
  have h3 : (Cond.initialized y.cls).before a A.U = true := hinit _ _ X.warmed
  have h4 : A.cells + (headSpec ws rm).room.cells ≤ R.cells := by rw [show (headSpec ws rm).room.cells = mc from hrc]; exact hp.1
  have h5 : A.slots + (headSpec ws rm).room.slots ≤ R.slots := by rw [show (headSpec ws rm).room.slots = ms from hrs]; exact hp.2.1
  have hPc : Pc a (A.U.calling g mk a) := hblind _ _ _ _ hp.2.2
  obtain ⟨U, Ls, c0, s0⟩ := A
  dsimp only [Pt.U, Pt.locs, Pt.cells, Pt.slots] at h1 h2 h3 h4 h5 X hn hPc ⊢
  obtain ⟨methY, cY, hmY, hcY, -, hlY, -, -, -, -⟩ := Cond.code_spec hn h2
  obtain ⟨kY, hkY, -⟩ := className_of_methodNamed hn
  have hinitY : kY.init = .initialized := Cond.initialized_spec (findClass_of_methodNamed hn) hkY h3
  have h : At U g.method c below := by rw [hg]; exact X.here
  have hlocals9 : W9 + (maxL + 11) + (headSpec ws rm).room.locals ≤ R.locals := hlocals
  have happ : (headSpec ws rm).appliesLoose y e.platform (U.calling g mk a) = true :=
    Spec.appliesLoose_calling (g := g) h hdg hn hkY hinitY
      (X.room_calling (g := g) (R' := (headSpec ws rm).room) hsize hmY hcY hframes (by rw [hlY]; omega) h4 h5) h1
  obtain ⟨mid, hmid⟩ := h.above
  have hfr : (U.setTop g).frames = (.java g :: mid) ++ below := by rw [State.frames_setTop' g h.top, hmid]; rfl
  obtain ⟨o, s₂, hsteps, -, hend, hq⟩ := Steps.callFree hM p X.admits X.cas X.clock (acts := []) hfr happ hPc trivial
  have hq' : vx_Q Qc XC mc ms free a (U.calling g mk a) o s₂ := hq
  rw [State.frames_setTop' g h.top] at hend
  obtain ⟨g₀, hg0⟩ := Option.isSome_iff_exists.mp h.top
  obtain ⟨r, hr⟩ := State.topJava?_eq_some.mp hg0
  have hr' : (({ U with heap := s₂.heap, slotsUsed := s₂.slotsUsed } : State).setVm s₂.vm).frames = .java g₀ :: r := hr
  rcases hq' with ⟨hqc, L, hfe, hL⟩ | ⟨q, rfl, E, ce, L, hx, hce, hcv, hcl, hW₂, hsm, hL⟩
  · obtain ⟨⟨v, rfl⟩, hW₂, e2, q2, q3, q4, q5, q6⟩ := id hfe
    have e3 : s₂ = ({ (U.calling g mk a).setFrames s₂.frames with heap := s₂.heap, slotsUsed := s₂.slotsUsed } : State).setVm s₂.vm := by
      have : s₂ = ({ s₂ with vm := (U.calling g mk a).vm } : State).setVm s₂.vm := rfl
      rw [e2] at this
      exact this
    obtain ⟨c₂, i₂, len₂, hc₂, hd₂, hf₂⟩ := hend
    have hW' : U.WarmedH s₂.vm := hW₂
    have hcc : c₂ = c := by
      have h1 : s₂.code? g.method = U.code? g.method := by
        rw [State.code?_eq, State.code?_eq, hW'.alike.method?]
      exact Option.some.inj (hc₂.symm.trans (h1.trans h.code))
    subst hcc
    have hlen : len₂ = len := by rw [hdg] at hd₂; cases hd₂; rfl
    subst hlen
    have hs₂ : s₂ = (({ U with heap := s₂.heap, slotsUsed := s₂.slotsUsed } : State).setVm s₂.vm).setTop { g with pc := g.pc + len₂, stack := v.toList ++ g.stack } := by
      refine e3.trans ?_
      rw [hf₂, State.calling_eq h.top, State.setFrames_setFrames, State.setTop_of_frames _ hr', hr]
      rfl
    have hsame : U.sameButNew ({ U with heap := s₂.heap, slotsUsed := s₂.slotsUsed } : State) L mc ms := by
      refine ⟨?_, q2, q3, q4, q5, q6⟩
      obtain ⟨t, ht, -⟩ := State.frames_cons hr
      show ({ U with heap := s₂.heap, slotsUsed := s₂.slotsUsed } : State) = { U.setFrames U.frames with heap := s₂.heap, slotsUsed := s₂.slotsUsed }
      rw [State.setFrames_self ht]
    subst hg
    refine Or.inl ⟨v, ⟨(({ U with heap := s₂.heap, slotsUsed := s₂.slotsUsed } : State).setVm s₂.vm), Ls ++ L, c0 + mc, s0 + ms⟩,
      ⟨X.admits, X.cas, X.clock, X.frames, X.room, X.hears, X.method, X.code, (X.here.setHeapUsed s₂.heap s₂.slotsUsed).setVm hW'.alike, X.tail, State.WarmedH.trans X.warmed hW', X.limits, X.bytes, X.same.trans (hsame.setVm s.vm)⟩,
      ⟨g, mk, s₂, L, rfl, rfl, hqc, rfl, hL, rfl, rfl⟩, ?_⟩
    show Steps p.tables e below _ ((({ U with heap := s₂.heap, slotsUsed := s₂.slotsUsed } : State).setVm s₂.vm).setTop { g with pc := g.pc + len₂, stack := v.toList ++ g.stack })
    rw [← hs₂]
    exact hsteps
  · obtain ⟨e2, q2, q3, q4, q5, q6⟩ := id hsm
    have e3 : s₂ = ({ (U.calling g mk a).setFrames s₂.frames with heap := s₂.heap, slotsUsed := s₂.slotsUsed } : State).setVm s₂.vm := by
      have : s₂ = ({ s₂ with vm := (U.calling g mk a).vm } : State).setVm s₂.vm := rfl
      rw [e2] at this
      exact this
    have hf₂ : s₂.frames = .throwing q :: .java g :: U.frames.tail := hend
    have hW' : U.WarmedH s₂.vm := hW₂
    have hs₂ : s₂ = ((({ U with heap := s₂.heap, slotsUsed := s₂.slotsUsed } : State).setVm s₂.vm).setTop g).pushFrame (.throwing q) := by
      refine e3.trans ?_
      rw [hf₂, State.calling_eq h.top, State.setFrames_setFrames, State.pushFrame, State.frames_setTop _ hr', State.setTop_of_frames _ hr', State.setFrames_setFrames, hr]
      rfl
    have hsame : U.sameButNew ({ U with heap := s₂.heap, slotsUsed := s₂.slotsUsed } : State) L mc ms := by
      refine ⟨?_, q2, q3, q4, q5, q6⟩
      obtain ⟨t, ht, -⟩ := State.frames_cons hr
      show ({ U with heap := s₂.heap, slotsUsed := s₂.slotsUsed } : State) = { U.setFrames U.frames with heap := s₂.heap, slotsUsed := s₂.slotsUsed }
      rw [State.setFrames_self ht]
    subst hg
    refine Or.inr ⟨q, ⟨(({ U with heap := s₂.heap, slotsUsed := s₂.slotsUsed } : State).setVm s₂.vm), Ls ++ L, c0 + mc, s0 + ms⟩,
      ⟨X.admits, X.cas, X.clock, X.frames, X.room, X.hears, X.method, X.code, (X.here.setHeapUsed s₂.heap s₂.slotsUsed).setVm hW'.alike, X.tail, State.WarmedH.trans X.warmed hW', X.limits, X.bytes, X.same.trans (hsame.setVm s.vm)⟩,
      ⟨g, mk, s₂, L, E, ce, rfl, rfl, hx, hce, hcv, hcl, rfl, hL, rfl, rfl⟩, ?_⟩
    show Steps p.tables e below _ (((({ U with heap := s₂.heap, slotsUsed := s₂.slotsUsed } : State).setVm s₂.vm).setTop g).pushFrame (.throwing q))
    rw [← hs₂]
    exact hsteps
end Payer
section Calls
variable {p : Program} {l : Launch} {e : Env} {R : Room} {s : State} {m : MethodId} {args : Array Value} {below : List Frame} {meth : Method} {c : Code} {T : State} {locs : List Loc} {cells slots : Nat}
theorem vx_callV (X : Stand p l e R s m args below meth c T locs cells slots) (hexec : p.tables.exec = Jvm.exec) {own C : String} {index : Nat} {y : MethodName} {bytes : ByteArray} {maxL : Nat} {ret : Option FieldType}
    (hown : s.vm.findClass own = some m.cls) (hlink : (Cond.methodLink own index y).before args s = true) (hinst : (Cond.instanceMethod y).before args s = true) (hsel : (Cond.selects C y y).before args s = true)
    (hcode : (Cond.code y bytes maxL ret).before args s = true) (hy : y.cls ≠ "java/lang/invoke/MethodHandle" ∧ y.cls ≠ "java/lang/invoke/VarHandle")
    {W9 : Nat} {Pre : Pt → Array Value → Prop} {Post : Pt → Array Value → Option Value → Pt → Prop} {PostX : Pt → Array Value → Addr → Pt → Prop} (hK : vx_Back l R p e below s args y 3 W9 Pre Post PostX)
    {b : Addr} {cellB : Cell} (hcell : T.heap[b]? = some cellB) (hobj : cellB.vm.isStatics = false) (hcls : s.vm.findClass C = some cellB.cls)
    {g : JFrame} (hg : g.method = m) (hsize : g.locals.size = c.maxLocals) {argsL rest : List Value} (hlen : ∀ sig, parseMethodDescriptor y.desc = some sig → argsL.length = sig.parameters.length)
    (hstack : g.stack = argsL.reverse ++ .ref b :: rest) (hW : 2 * g.monitorRoom + (rest.map fun v => v.category).sum ≤ W9) (hdg : decode c.code g.pc = .ok (.invokevirtual index, 3))
    (hpre : ∀ vm₁, s.WarmedH vm₁ → Pre ⟨T.setVm vm₁, locs, cells, slots⟩ (Value.ref b :: argsL).toArray) :
    (∃ (v : Option Value) (vm₁ : Vm) (B : Pt), s.WarmedH vm₁ ∧ Stand p l e R s m args below meth c B.U B.locs B.cells B.slots ∧ Post ⟨T.setVm vm₁, locs, cells, slots⟩ (Value.ref b :: argsL).toArray v B ∧
      ∀ target, Steps p.tables e below (B.U.setTop { g with pc := g.pc + 3, stack := v.toList ++ rest }) target → Steps p.tables e below (T.setTop g) target) ∨
    (∃ (q : Addr) (vm₁ : Vm) (B : Pt), s.WarmedH vm₁ ∧ Stand p l e R s m args below meth c B.U B.locs B.cells B.slots ∧ PostX ⟨T.setVm vm₁, locs, cells, slots⟩ (Value.ref b :: argsL).toArray q B ∧
      Steps p.tables e below (T.setTop g) ((B.U.setTop { g with stack := rest }).pushFrame (.throwing q))) := by
  obtain ⟨mk, methM, hnamed, hmethM, hstM, habM⟩ := Cond.instanceMethod_spec hinst
  obtain ⟨methM', cM, hmethM', -, -, -, -, -, -, hsigM⟩ := Cond.code_spec hnamed hcode
  cases hmethM.symm.trans hmethM'
  obtain ⟨c2, r2, m2, q1, q2, q3, q4, kP, hkP, hkPi⟩ := Cond.selects_spec hsel
  cases hcls.symm.trans q1
  cases (State.methodFound?_of_named hnamed hy).symm.trans q2
  cases hnamed.symm.trans q3
  have hselP : selectMethod e.platform s.vm cellB.cls mk = .method mk := by rw [Launch.admits_selectMethod X.admits]; exact q4
  obtain ⟨vm₁, X₁, hstep₁⟩ := X.invokevirtual hexec hown hlink hnamed hmethM hstM hkP hkPi hy (a := b) (cell := cellB) hcell
    (fun z h => by rw [h] at hobj; cases hobj) hselP hmethM habM hkP hkPi (g := g) hg (argsL := argsL) (rest := rest) (hlen _ hsigM) hstack hdg
  rcases hK m meth c ⟨T.setVm vm₁, locs, cells, slots⟩ { g with stack := rest } (.invokevirtual index) mk (Value.ref b :: argsL).toArray X₁ hg hsize hdg hW (X₁.named hnamed) (hpre vm₁ X₁.warmed) with ⟨v, B, X', hpost, hsteps⟩ | ⟨q, B, X', hpost, hsteps⟩
  · exact Or.inl ⟨v, vm₁, B, X₁.warmed, X', hpost, fun target h => hstep₁ _ fun acts => by rw [doInvoke_state]; exact hsteps.trans h⟩
  · exact Or.inr ⟨q, vm₁, B, X₁.warmed, X', hpost, hstep₁ _ fun acts => by rw [doInvoke_state]; exact hsteps⟩
theorem vx_callS (X : Stand p l e R s m args below meth c T locs cells slots) (hexec : p.tables.exec = Jvm.exec) {own : String} {index : Nat} {y : MethodName} {bytes : ByteArray} {maxL : Nat} {ret : Option FieldType}
    (hown : s.vm.findClass own = some m.cls) (hlink : (Cond.methodLink own index y).before args s = true) (hstat : (Cond.static y).before args s = true) (hinit : (Cond.initialized y.cls).before args s = true)
    (hcode : (Cond.code y bytes maxL ret).before args s = true) (hy : y.cls ≠ "java/lang/invoke/MethodHandle" ∧ y.cls ≠ "java/lang/invoke/VarHandle")
    {W9 : Nat} {Pre : Pt → Array Value → Prop} {Post : Pt → Array Value → Option Value → Pt → Prop} {PostX : Pt → Array Value → Addr → Pt → Prop} (hK : vx_Back l R p e below s args y 3 W9 Pre Post PostX)
    {g : JFrame} (hg : g.method = m) (hsize : g.locals.size = c.maxLocals) {argsL rest : List Value} (hlen : ∀ sig, parseMethodDescriptor y.desc = some sig → argsL.length = sig.parameters.length)
    (hstack : g.stack = argsL.reverse ++ rest) (hW : 2 * g.monitorRoom + (rest.map fun v => v.category).sum ≤ W9) (hdg : decode c.code g.pc = .ok (.invokestatic index, 3))
    (hpre : ∀ vm₁, s.WarmedH vm₁ → Pre ⟨T.setVm vm₁, locs, cells, slots⟩ argsL.toArray) :
    (∃ (v : Option Value) (vm₁ : Vm) (B : Pt), s.WarmedH vm₁ ∧ Stand p l e R s m args below meth c B.U B.locs B.cells B.slots ∧ Post ⟨T.setVm vm₁, locs, cells, slots⟩ argsL.toArray v B ∧
      ∀ target, Steps p.tables e below (B.U.setTop { g with pc := g.pc + 3, stack := v.toList ++ rest }) target → Steps p.tables e below (T.setTop g) target) ∨
    (∃ (q : Addr) (vm₁ : Vm) (B : Pt), s.WarmedH vm₁ ∧ Stand p l e R s m args below meth c B.U B.locs B.cells B.slots ∧ PostX ⟨T.setVm vm₁, locs, cells, slots⟩ argsL.toArray q B ∧
      Steps p.tables e below (T.setTop g) ((B.U.setTop { g with stack := rest }).pushFrame (.throwing q))) := by
  obtain ⟨mk, hnamed⟩ := Cond.code_named hcode
  obtain ⟨methM, cM, hmethM, -, -, -, -, -, -, hsigM⟩ := Cond.code_spec hnamed hcode
  have hstatic : methM.isStatic = true := Cond.static_spec hnamed hmethM hstat
  obtain ⟨kP, hkP, -⟩ := className_of_methodNamed hnamed
  have hinitP : kP.init = .initialized := Cond.initialized_spec (findClass_of_methodNamed hnamed) hkP hinit
  obtain ⟨vm₁, X₁, hstep₁⟩ := X.invokestatic hexec hown hlink hnamed hmethM hstatic hkP hinitP hy (g := g) hg (argsL := argsL) (rest := rest) (hlen _ hsigM) hstack hdg
  rcases hK m meth c ⟨T.setVm vm₁, locs, cells, slots⟩ { g with stack := rest } (.invokestatic index) mk argsL.toArray X₁ hg hsize hdg hW (X₁.named hnamed) (hpre vm₁ X₁.warmed) with ⟨v, B, X', hpost, hsteps⟩ | ⟨q, B, X', hpost, hsteps⟩
  · exact Or.inl ⟨v, vm₁, B, X₁.warmed, X', hpost, fun target h => hstep₁ _ fun acts => by rw [doInvoke_state]; exact hsteps.trans h⟩
  · exact Or.inr ⟨q, vm₁, B, X₁.warmed, X', hpost, hstep₁ _ fun acts => by rw [doInvoke_state]; exact hsteps⟩
end Calls
theorem vx_cls {s : State} {T : State} {vm₁ : Vm} {E : String} {k : ClassId} (hW : s.WarmedH vm₁) (h : (T.setVm vm₁).vm.findClass E = some k) : s.vm.findClass E = some k := by
  have h1 : vm₁.findClass E = some k := h
  rw [hW.alike.findClass] at h1
  exact h1
/-- the method's frame g, with q thrown over it -/
def vx_W (p : Program) (l : Launch) (e : Env) (R : Room) (s : State) (m : MethodId) (args : Array Value) (below : List Frame) (meth : Method) (c : Code) (H : Heap) (locs : List Loc) (cells slots : Nat) (Q : State → Prop) (g : JFrame) (q : Addr) : Prop :=
  ∀ T : State, T.heap = H → Stand p l e R s m args below meth c T locs cells slots → ∃ t, Steps p.tables e below ((T.setTop g).pushFrame (.throwing q)) t ∧ Q t
def vx_Run (p : Program) (l : Launch) (e : Env) (R : Room) (s : State) (m : MethodId) (args : Array Value) (below : List Frame) (meth : Method) (c : Code) (H : Heap) (locs : List Loc) (cells slots mc ms : Nat) (g : JFrame) (rest : List Value) (Qa : State → Outcome → State → Prop) (XC : String → State → State → Prop) (free : Addr → Prop) : Prop :=
  ∀ T : State, T.heap = H → Stand p l e R s m args below meth c T locs cells slots →
    (∃ (v : Option Value) (st₀ t T' : State) (L : List Loc), st₀.heap = H ∧ Stand p l e R s m args below meth c T' (locs ++ L) (cells + mc) (slots + ms) ∧ (∀ q ∈ L, free q.base) ∧ T'.heap = t.heap ∧ T'.vm = t.vm ∧ Qa st₀ (.returned v) t ∧
      Goes p e below T g T' { g with pc := g.pc + 3, stack := v.toList ++ rest }) ∨
    (∃ (q : Addr) (st₀ t T' : State) (L : List Loc) (E : String) (ce : Cell), st₀.heap = H ∧ Stand p l e R s m args below meth c T' (locs ++ L) (cells + mc) (slots + ms) ∧ (∀ z ∈ L, free z.base) ∧ T'.heap = t.heap ∧ T'.vm = t.vm ∧ XC E st₀ t ∧ t.heap[q]? = some ce ∧ ce.vm = .none ∧ s.vm.findClass E = some ce.cls ∧
      Steps p.tables e below (T.setTop g) ((T'.setTop { g with stack := rest }).pushFrame (.throwing q)))
section Runs
variable {p : Program} {l : Launch} {e : Env} {R : Room} {s : State} {m : MethodId} {args : Array Value} {below : List Frame} {meth : Method} {c : Code} {H : Heap} {locs : List Loc} {cells slots : Nat}
variable {y : MethodName} {bytes cc : ByteArray} {maxL nL mc ms n index : Nat} {ret : Option FieldType} {ws : List Cond} {rm : Room} {Pc : Array Value → State → Prop} {Qc : Array Value → State → Outcome → State → Prop} {XC : String → State → State → Prop} {free : Addr → Prop} {Ts : List Cond} {own C : String} {b : Addr} {As rest : List Value} {g : JFrame}
theorem vx_callBack (cb : CallB R s args own index y bytes maxL ret ws rm mc ms n) (hM : vx_Met l y ws rm Pc Qc XC mc ms free) (hbl : FrameBlind Pc) : vx_Back l R p e below s args y 3 8 (PreOf R mc ms Pc) (PostOf Qc mc ms free) (vx_Post XC mc ms free) := by
  obtain ⟨hrc, hrs, hfr, hlo, hws, hcw, -, hini, -⟩ := cb
  exact vx_back (bytes := bytes) (maxL := maxL) (ret := ret) hM hbl hrc hrs hfr hlo hws hcw (fun a' U hW => word_at hW (Or.inl (by first | rfl | simp [Cond.onTables, Cond.keeps, Cond.steady])) hini)
theorem vx_runV (S : CallFix p m c cc nL s args Ts own) (hM : vx_Met l y ws rm Pc Qc XC mc ms free) (cw : CallW R s args own C index y bytes maxL ret ws rm mc ms n) (hp : PreV s H C b Pc As)
    (hg : g.method = m) (hn : As.length = n) (hsize : g.locals.size = nL) (hstack : g.stack = As.reverse ++ .ref b :: rest) (hW : 2 * g.monitorRoom + (rest.map fun v => v.category).sum ≤ 8) (hdg : decode cc g.pc = .ok (.invokevirtual index, 3)) (hf : cells + mc ≤ R.cells ∧ slots + ms ≤ R.slots) :
    vx_Run p l e R s m args below meth c H locs cells slots mc ms g rest (Qc (Value.ref b :: As).toArray) XC free := by
  have hK : vx_Back l R p e below s args y 3 8 (PreOf R mc ms Pc) (PostOf Qc mc ms free) (vx_Post XC mc ms free) := vx_callBack cw.1 hM hp.1
  obtain ⟨⟨-, -, -, -, -, -, hcode, -, hy, hlen, hl⟩, hin, hse⟩ := cw
  obtain ⟨hx, hb, hml, ho, -⟩ := S
  obtain ⟨-, ⟨cellB, hcB, hoB, hclB⟩, hPc⟩ := hp
  intro T hT X
  rcases vx_callV X hx (C := C) (bytes := bytes) (maxL := maxL) (ret := ret) ho hl hin hse hcode hy hK (by rw [hT]; exact hcB) hoB hclB hg (hsize.trans hml.symm) (argsL := As) (rest := rest) (fun sig h => hn.trans (hlen sig h)) hstack hW (by rw [hb]; exact hdg)
    (fun vm₁ hW₁ => ⟨hf.1, hf.2, hPc (T.setVm vm₁) hT hW₁⟩) with ⟨v, vm₁, ⟨U', l2, c2, s2⟩, hW₁, X', ⟨g', mk, t, L, e1, e2, hq, h1, hL, h2, h3⟩, st⟩ | ⟨q, vm₁, ⟨U', l2, c2, s2⟩, hW₁, X', ⟨g', mk, t, L, E, ce, e1, e2, hq, hce, hcv, hcl, h1, hL, h2, h3⟩, st⟩
  · dsimp only [Pt.U, Pt.locs, Pt.cells, Pt.slots] at X' e1 e2 h1 h2 h3 st
    subst h1; subst h2; subst h3
    exact Or.inl ⟨v, (T.setVm vm₁).calling g' mk (Value.ref b :: As).toArray, t, U', L, hT, X', hL, e1, e2, hq, st⟩
  · dsimp only [Pt.U, Pt.locs, Pt.cells, Pt.slots] at X' e1 e2 h1 h2 h3 st hcl
    subst h1; subst h2; subst h3
    exact Or.inr ⟨q, (T.setVm vm₁).calling g' mk (Value.ref b :: As).toArray, t, U', L, E, ce, hT, X', hL, e1, e2, hq, hce, hcv, vx_cls hW₁ hcl, st⟩
theorem vx_runS (S : CallFix p m c cc nL s args Ts own) (hM : vx_Met l y ws rm Pc Qc XC mc ms free) (cw : CallB R s args own index y bytes maxL ret ws rm mc ms n ∧ (Cond.static y).before args s = true) (hp : PreS s H Pc As)
    (hg : g.method = m) (hn : As.length = n) (hsize : g.locals.size = nL) (hstack : g.stack = As.reverse ++ rest) (hW : 2 * g.monitorRoom + (rest.map fun v => v.category).sum ≤ 8) (hdg : decode cc g.pc = .ok (.invokestatic index, 3)) (hf : cells + mc ≤ R.cells ∧ slots + ms ≤ R.slots) :
    vx_Run p l e R s m args below meth c H locs cells slots mc ms g rest (Qc As.toArray) XC free := by
  have hK : vx_Back l R p e below s args y 3 8 (PreOf R mc ms Pc) (PostOf Qc mc ms free) (vx_Post XC mc ms free) := vx_callBack cw.1 hM hp.1
  obtain ⟨⟨-, -, -, -, -, -, hcode, hini, hy, hlen, hl⟩, hstt⟩ := cw
  obtain ⟨hx, hb, hml, ho, -⟩ := S
  intro T hT X
  rcases vx_callS X hx (bytes := bytes) (maxL := maxL) (ret := ret) ho hl hstt hini hcode hy hK hg (hsize.trans hml.symm) (argsL := As) (rest := rest) (fun sig h => hn.trans (hlen sig h)) hstack hW (by rw [hb]; exact hdg)
    (fun vm₁ hW₁ => ⟨hf.1, hf.2, hp.2 (T.setVm vm₁) hT hW₁⟩) with ⟨v, vm₁, ⟨U', l2, c2, s2⟩, hW₁, X', ⟨g', mk, t, L, e1, e2, hq, h1, hL, h2, h3⟩, st⟩ | ⟨q, vm₁, ⟨U', l2, c2, s2⟩, hW₁, X', ⟨g', mk, t, L, E, ce, e1, e2, hq, hce, hcv, hcl, h1, hL, h2, h3⟩, st⟩
  · dsimp only [Pt.U, Pt.locs, Pt.cells, Pt.slots] at X' e1 e2 h1 h2 h3 st
    subst h1; subst h2; subst h3
    exact Or.inl ⟨v, (T.setVm vm₁).calling g' mk As.toArray, t, U', L, hT, X', hL, e1, e2, hq, st⟩
  · dsimp only [Pt.U, Pt.locs, Pt.cells, Pt.slots] at X' e1 e2 h1 h2 h3 st hcl
    subst h1; subst h2; subst h3
    exact Or.inr ⟨q, (T.setVm vm₁).calling g' mk As.toArray, t, U', L, E, ce, hT, X', hL, e1, e2, hq, hce, hcv, vx_cls hW₁ hcl, st⟩
end Runs
section Rows
variable {p : Program} {l : Launch} {e : Env} {R : Room} {s : State} {m : MethodId} {args : Array Value} {below : List Frame} {meth : Method} {c : Code} {H : Heap} {locs : List Loc} {cells slots : Nat} {Q : State → Prop}
variable {mc ms : Nat} {free : Addr → Prop} {A0 A1 : Nat → Prop} {H0 : Heap} {a : Array Value} {pc : Nat} {ls : Array Slot} {st0 rest : List Value}
theorem vx_keep {st₀ t T' : State} {L : List Loc} (h0 : st₀.heap = H) (e1 : T'.heap = t.heap) (hS : va_S A0 H0 H locs) (hA : ∀ q, q < H.size → A1 q → A0 q) (hf : ∀ q, free q → A0 q) (hL : ∀ q ∈ L, free q.base) (hF : va_F A1 st₀ t) :
    H.size ≤ T'.heap.size ∧ (∀ q : Nat, q < H.size → ¬ A1 q → T'.heap[q]? = H[q]?) ∧ va_S A0 H0 T'.heap (locs ++ L) := by
  obtain ⟨hz, hk⟩ := hF
  rw [h0] at hz hk
  exact ⟨by rw [e1]; exact hz, fun q h1 h2 => by rw [e1]; exact hk q h1 h2,
    ⟨Nat.le_trans hS.1 (by rw [e1]; exact hz), fun q h1 h2 => by rw [e1, hk q (Nat.lt_of_lt_of_le h1 hS.1) (fun z => h2 (hA q (Nat.lt_of_lt_of_le h1 hS.1) z))]; exact hS.2.1 q h1 h2, fun q hq => by
      rcases List.mem_append.mp hq with h | h
      · exact hS.2.2 q h
      · exact hf _ (hL q h)⟩⟩
/-- caught by the row x of this method's table; the rows ahead don't take it -/
theorem vx_catch {own name : String} {E : String} {ce : Cell} {q : Addr} (hown : s.vm.findClass own = some m.cls) (pre : List ExceptionTableEntry) (x : ExceptionTableEntry) (suf : List ExceptionTableEntry) (hsplit : c.exceptionTable.toList = pre ++ x :: suf)
    (hpass : ∀ z ∈ pre, covers z pc = false ∨ (z.catchType ≠ 0 ∧ ∃ nm : String, (Cond.classLink own z.catchType nm).before args s = true ∧ va_Nc E nm s)) (hx : covers x pc = true) (h0 : x.catchType ≠ 0)
    (hlink : (Cond.classLink own x.catchType name).before args s = true) (hcast : (Cond.castable E name).before args s = true) (hcell : H[q]? = some ce) (hv : ce.vm = .none) (hcl : s.vm.findClass E = some ce.cls)
    (kk : W p l e R s m args below meth c H locs cells slots Q (F0 m x.handlerPc ls [.ref q])) : vx_W p l e R s m args below meth c H locs cells slots Q (F0 m pc ls rest) q := by
  intro T hT X
  have hpl : e.platform.magicAccessors = ({} : Platform).magicAccessors := by rw [X.admits.platform]
  obtain ⟨c3, c4, hc3, hc4, hasg⟩ := Cond.castable_spec hcast
  cases Option.some.inj (hc3.symm.trans hcl)
  obtain ⟨c5, hc5, hcl5⟩ := Cond.classLink_spec hown hlink e.platform hpl
  cases Option.some.inj (hc4.symm.trans hc5)
  obtain ⟨vm', X', st⟩ := X.thenCaughtThrough q (g := F0 m pc ls rest) rfl (Steps.refl _) (by rw [hT]; exact hcell) (by rw [hv]; rfl) (by obtain ⟨k9, h9, -⟩ := Vm.findClass_spec hcl; exact ⟨k9, h9⟩) pre x suf hsplit
    (fun z hz => by
      rcases hpass z hz with h | ⟨hz0, nm, hl1, hn1⟩
      · exact Or.inl h
      · obtain ⟨c6, hc6, hcl6⟩ := Cond.classLink_spec hown hl1 e.platform hpl
        obtain ⟨a8, b8, h1, h2, h3⟩ := hn1
        cases Option.some.inj (h1.symm.trans hcl)
        cases Option.some.inj (h2.symm.trans hc6)
        exact Or.inr ⟨hz0, _, hcl6, h3⟩) hx (Or.inr ⟨h0, c4, hcl5, hasg⟩)
  obtain ⟨t, a1, b1⟩ := kk (T.setVm vm') hT X'
  exact ⟨t, st.trans a1, b1⟩
end Rows
section Ends
variable {p : Program} {l : Launch} {e : Env} {R : Room} {s : State} {m : MethodId} {args : Array Value} {below : List Frame} {meth : Method} {c : Code} {H : Heap} {locs : List Loc} {cells slots : Nat} {Q : State → Prop}
variable {mc ms : Nat} {free : Addr → Prop} {A0 A1 : Nat → Prop} {H0 : Heap} {a : Array Value} {ls : Array Slot} {st0 rest : List Value}
variable {Qc : Array Value → State → Outcome → State → Prop} {XC : String → State → State → Prop}
/-- what a body that may throw owes at its end -/
def vx_MQ (below : List Frame) (Qc : Array Value → State → Outcome → State → Prop) (XC : String → State → State → Prop) (a : Array Value) (s : State) (mc ms : Nat) (free : Addr → Prop) : State → Prop := fun t =>
  ∃ o, t.status = .running ∧ Ended t below o ∧ vx_Q Qc XC mc ms free a s o t
theorem vx_ret {g : JFrame} {mc ms : Nat} (k : W p l e R s m args below meth c H locs cells slots (MQ below Qc args s mc ms free) g) : W p l e R s m args below meth c H locs cells slots (vx_MQ below Qc XC args s mc ms free) g := by
  intro T hT X
  obtain ⟨t, a1, o, b1, b2, b3, b4⟩ := k T hT X
  exact ⟨t, a1, o, b1, b2, Or.inl ⟨b3, b4⟩⟩
theorem vx_out {pc : Nat} {E : String} {ce : Cell} {q : Addr} {mc ms : Nat} (hout : ∀ x ∈ c.exceptionTable.toList, covers x pc = false) (hlocks : meth.locks = false) (hcell : H[q]? = some ce) (hv : ce.vm = .none) (hcl : s.vm.findClass E = some ce.cls)
    (hx : ∀ t : State, t.heap = H → s.vm.Alike t.vm → XC E s t) (hf : ∀ z ∈ locs, free z.base) (hc : cells ≤ mc) (hs : slots ≤ ms) :
    vx_W p l e R s m args below meth c H locs cells slots (vx_MQ below Qc XC args s mc ms free) (F0 m pc ls rest) q := by
  intro T hT X
  obtain ⟨st1, hrun, hend, hW, hsm⟩ := X.leaveThrown q (g := F0 m pc ls rest) rfl rfl rfl hout hlocks
  have hcell9 : (T.setFrames (.throwing q :: below)).heap[q]? = some ce := by
    show T.heap[q]? = some ce
    rw [hT]; exact hcell
  exact ⟨_, st1, .threw q, hrun, hend, Or.inr ⟨q, rfl, E, ce, locs, hx _ hT hW.alike, hcell9, hv, hcl, hW, hsm.mono hc hs, hf⟩⟩
theorem vx_frame {U : State} {k n : Nat} (h : s.sameButNew ({ U with vm := s.vm } : State) locs k n) : s.heap.size ≤ U.heap.size ∧ ∀ q : Nat, q < s.heap.size → (∀ z ∈ locs, z.base ≠ q) → U.heap[q]? = s.heap[q]? := by
  obtain ⟨-, h2, -, -, -, h6⟩ := h
  refine ⟨h2, fun q hq hz => ?_⟩
  obtain ⟨c9, e1, e2, e3, e4⟩ := h6 q _ (Array.getElem?_eq_getElem hq)
  have hs : c9.slots = (s.heap[q]).slots := Array.ext_getElem? fun i => e4 i fun hm => hz _ hm rfl
  have h9 : c9 = s.heap[q] := by
    rw [hs] at e2
    exact e2
  have e5 : U.heap[q]? = some c9 := e1
  rw [e5, h9, Array.getElem?_eq_getElem hq]
/-- the words of a throw but the four that speak of the heap -/
def vx_no (w : Cond) : Bool := decide (w ≠ .isRef (.static Bundle.tN "UNASSIGNED_STACK" Bundle.steD)) && decide (w ≠ .isRef (.static Bundle.tN "SUPPRESSED_SENTINEL" Bundle.listD)) && decide (w ≠ .laysStatic Bundle.tN "UNASSIGNED_STACK" Bundle.steD) && decide (w ≠ .laysStatic Bundle.tN "SUPPRESSED_SENTINEL" Bundle.listD)
def vx_at0 (own : String) (ic : Nat) (X : String) (names : List String) : List Cond := (Bundle.ownAtoms0 own ic X names).filter vx_no
def vx_atS (own : String) (ic : Nat) (X : String) (names : List String) : List Cond := (Bundle.ownAtoms own ic X names).filter vx_no
/-- a word that the tables alone decide, or a good one -/
def vx_ot (w : Cond) : Bool := w.onTables || goodWord w
theorem vx_ot_at {args a' : Array Value} {s U : State} {w : Cond} (hW : s.WarmedH U.vm) (hvm : s.vm = U.vm) (hg : vx_ot w = true) (h : w.before args s = true) : w.before a' U = true := by
  simp only [vx_ot, Bool.or_eq_true] at hg
  rcases hg with hg | hg
  · exact va_tabs hg hvm h
  · exact word_at hW (good_of_word hg) h
theorem vx_own {args : Array Value} {s : State} {L : List Cond} (h1 : ∀ w ∈ L.filter vx_no, w.before args s = true)
    (hU : (Cond.isRef (.static Bundle.tN "UNASSIGNED_STACK" Bundle.steD)).before args s = true) (hN : (Cond.isRef (.static Bundle.tN "SUPPRESSED_SENTINEL" Bundle.listD)).before args s = true)
    (lU : (Cond.laysStatic Bundle.tN "UNASSIGNED_STACK" Bundle.steD).before args s = true) (lN : (Cond.laysStatic Bundle.tN "SUPPRESSED_SENTINEL" Bundle.listD).before args s = true) : ∀ w ∈ L, w.before args s = true := by
  intro w hw
  by_cases e1 : w = .isRef (.static Bundle.tN "UNASSIGNED_STACK" Bundle.steD)
  · rw [e1]; exact hU
  · by_cases e2 : w = .isRef (.static Bundle.tN "SUPPRESSED_SENTINEL" Bundle.listD)
    · rw [e2]; exact hN
    · by_cases e3 : w = .laysStatic Bundle.tN "UNASSIGNED_STACK" Bundle.steD
      · rw [e3]; exact lU
      · by_cases e4 : w = .laysStatic Bundle.tN "SUPPRESSED_SENTINEL" Bundle.listD
        · rw [e4]; exact lN
        · exact h1 w (List.mem_filter.mpr ⟨hw, by unfold vx_no; rw [decide_eq_true e1, decide_eq_true e2, decide_eq_true e3, decide_eq_true e4]; rfl⟩)
/-- where a static field lies, its class's statics cell in H -/
def vx_L (C n d : String) (A : Nat → Prop) (U : State) (H : Heap) : Prop := ∃ (c : ClassId) (k : Class) (i : Nat) (f : Field) (a : Nat) (cell : Cell), U.vm.findClass C = some c ∧ U.fieldFound? C n d = some (c, k, i, f) ∧ f.isStatic = true ∧ k.statics = some a ∧ H[a]? = some cell ∧ cell.vm.isStatics = true ∧ cell.cls = c ∧ f.slot < cell.slots.size ∧ k.staticTypes[f.slot]? = some f.type ∧ ¬ A a
theorem vx_L.moved {C n d : String} {A : Nat → Prop} {u U : State} {H : Heap} (hvm : u.vm.Alike U.vm) (h : vx_L C n d A u H) : vx_L C n d A U H := by
  obtain ⟨c, k, i, f, a, cell, h1, h2, h3, h4, h5, h6, h7, h8, h9, h10⟩ := h
  obtain ⟨k', hi', he⟩ := State.fieldFound?_setVm hvm h2
  exact ⟨c, k', i, f, a, cell, by rw [hvm.findClass]; exact h1, hi', h3, by rw [he]; exact h4, h5, h6, h7, h8, by rw [he]; exact h9, h10⟩
theorem vx_L.kept {C n d : String} {A : Nat → Prop} {U : State} {H H1 : Heap} (h : vx_L C n d A U H) (hq : ∀ a : Nat, a < H.size → ¬ A a → H1[a]? = H[a]?) : vx_L C n d A U H1 := by
  obtain ⟨c, k, i, f, a, cell, h1, h2, h3, h4, h5, h6, h7, h8, h9, h10⟩ := h
  exact ⟨c, k, i, f, a, cell, h1, h2, h3, h4, by rw [hq a (Array.getElem?_eq_some_iff.mp h5).1 h10]; exact h5, h6, h7, h8, h9, h10⟩
theorem vx_L.narrow {C n d : String} {A B : Nat → Prop} {U : State} {H : Heap} (h : vx_L C n d A U H) (hAB : ∀ q, B q → A q) : vx_L C n d B U H := by
  obtain ⟨c, k, i, f, a, cell, h1, h2, h3, h4, h5, h6, h7, h8, h9, h10⟩ := h
  exact ⟨c, k, i, f, a, cell, h1, h2, h3, h4, h5, h6, h7, h8, h9, fun z => h10 (hAB _ z)⟩
theorem vx_L.word {C n d : String} {A : Nat → Prop} {s : State} {args : Array Value} (h : vx_L C n d A s s.heap) : (Cond.laysStatic C n d).before args s = true := by
  obtain ⟨c, k, i, f, a, cell, h1, h2, h3, h4, h5, h6, h7, h8, h9, -⟩ := h
  show (Cond.laysStatic C n d).holds args s none s [] = true
  exact Cond.laysStatic_of h1 h2 h3 h4 h5 h6 h7 h8 h9
/-- .. and what it holds: null or some reference -/
def vx_Zq (C n d : String) (A : Nat → Prop) (U : State) (H : Heap) : Prop := va_Zq C n d A U H ∧ vx_L C n d A U H
theorem vx_Zq.moved {C n d : String} {A : Nat → Prop} {u U : State} {H : Heap} (hvm : u.vm.Alike U.vm) (h : vx_Zq C n d A u H) : vx_Zq C n d A U H := ⟨va_Zq.moved hvm h.1, vx_L.moved hvm h.2⟩
theorem vx_Zq.kept {C n d : String} {A : Nat → Prop} {U : State} {H H1 : Heap} (h : vx_Zq C n d A U H) (hq : ∀ a : Nat, a < H.size → ¬ A a → H1[a]? = H[a]?) : vx_Zq C n d A U H1 := ⟨va_Zq.kept h.1 hq, vx_L.kept h.2 hq⟩
theorem vx_Zq.narrow {C n d : String} {A B : Nat → Prop} {U : State} {H : Heap} (h : vx_Zq C n d A U H) (hAB : ∀ q, B q → A q) : vx_Zq C n d B U H := ⟨va_Zq.narrow h.1 hAB, vx_L.narrow h.2 hAB⟩
theorem vx_Zqof {args : Array Value} {s : State} {C n d : String} {A : Nat → Prop} (hl : (Cond.laysStatic C n d).before args s = true) (hini : (Cond.initialized C).before args s = true) (h : (Cond.isRef (.static C n d)).before args s = true) (hA : ∀ a : Nat, a < s.heap.size → ¬ A a) : vx_Zq C n d A s s.heap := by
  refine ⟨va_Zqof hl hini h hA, ?_⟩
  obtain ⟨c, k, i, f, a, cell, h1, h2, h3, h4, h5, h6, h7, h8, h9⟩ := Cond.laysStatic_spec hl
  exact ⟨c, k, i, f, a, cell, h1, h2, h3, h4, h5, h6, h7, h8, h9, hA a (Array.getElem?_eq_some_iff.mp h5).1⟩
theorem vx_isRef {C n d : String} {v : Value} {A : Nat → Prop} {s : State} {args : Array Value} (h : va_Z C n d v A s s.heap) (hv : v.isRef = true) : (Cond.isRef (.static C n d)).before args s = true := by
  obtain ⟨cf, kf, fi, f, a, cell, h1, h2, h3, h4, h5, h6, h7, -⟩ := h
  have he : (Term.static C n d).eval args s none [] s = some v := by
    simp [Term.eval, State.fieldNamed?, h1, h2, h4, h5, h6, h7]
  simp only [Cond.before, Cond.holds, Cond.value, he]
  cases v <;> simp_all [Value.isRef]
theorem vx_isRefq {C n d : String} {A : Nat → Prop} {s : State} {args : Array Value} (h : va_Zq C n d A s s.heap) : (Cond.isRef (.static C n d)).before args s = true := by
  rcases h with h | ⟨t, h⟩
  · exact vx_isRef h rfl
  · exact vx_isRef h rfl
/-- the same frame, seen from here: as if the method were called anew in this heap -/
theorem vx_rebase {T : State} (X : Stand p l e R s m args below meth c T locs cells slots) {R' : Room} (hf : R'.frames ≤ R.frames) (hl : R'.locals ≤ R.locals) (hc : cells + R'.cells ≤ R.cells) (hs : slots + R'.slots ≤ R.slots) :
    Stand p l e R' ((T.setVm s.vm).setFrames (.invoking m args :: below)) m args below meth c T [] 0 0 := by
  have htop : (T.setVm s.vm).topJava?.isSome := X.here.top
  have hF : ((T.setVm s.vm).setFrames (.invoking m args :: below)).frames = .invoking m args :: below := State.frames_setFrames _ (State.cur_lt_of_top htop)
  obtain ⟨g₀, hg0⟩ := Option.isSome_iff_exists.mp htop
  obtain ⟨r, hr⟩ := State.topJava?_eq_some.mp hg0
  have hl9 : e.platform.stackLimits (T.setVm s.vm).me = e.platform.stackLimits s.me := X.limits
  have hb9 : (T.setVm s.vm).me.stackBytes = s.me.stackBytes := X.bytes
  refine ⟨X.admits, X.cas, X.clock, hF, ?_, X.hears, X.method, X.code, X.here, X.tail, X.warmed, ?_, ?_, ?_⟩
  · have h := X.room
    have hU : ((T.setVm s.vm).setFrames (.invoking m args :: below)).localsInUse = s.localsInUse := by
      rw [State.localsInUse_invoking hF (meth := meth) (c := c) X.method X.code, State.localsInUse_invoking X.frames X.method X.code]
    simp only [State.hasRoom, Bool.and_eq_true, decide_eq_true_eq] at h ⊢
    obtain ⟨⟨⟨⟨h1, h2, h3, h4, h5, h6⟩, h7⟩, h8⟩, h9⟩ := h
    rw [X.frames, List.length_cons] at h2 h3
    have q1 := X.heapSize
    have q2 := X.used
    simp only [hF, hU, List.length_cons, State.stackLimits_setFrames, State.stackBytes_setFrames, hl9, hb9]
    refine ⟨⟨⟨⟨by omega, by omega, by omega, by omega, by omega, h6⟩, ?_⟩, ?_⟩, X.book⟩
    · show T.heap.size + R'.cells ≤ e.platform.maxCells
      omega
    · show T.slotsUsed + R'.slots ≤ e.platform.maxSlots
      omega
  · rw [State.stackLimits_setFrames]; rfl
  · rw [State.stackBytes_setFrames]; rfl
  · refine ⟨?_, Nat.le_refl _, Nat.le_refl _, ?_, ?_, fun a c9 h9 => ⟨c9, h9, rfl, rfl, fun _ _ => rfl⟩⟩
    · obtain ⟨t, ht, -⟩ := State.frames_cons hr
      show T.setVm s.vm = { ((T.setVm s.vm).setFrames (.invoking m args :: below)).setFrames (T.setVm s.vm).frames with heap := T.heap, slotsUsed := T.slotsUsed }
      rw [State.setFrames_setFrames, State.setFrames_self ht]
      rfl
    · show T.slotsUsed = T.slotsUsed + ((T.heap.toList.drop T.heap.size).map (·.slots.size)).sum
      rw [List.drop_eq_nil_of_le (Nat.le_of_eq Array.length_toList)]
      rfl
    · show ((T.heap.toList.drop T.heap.size).map (·.slots.size)).sum ≤ 0
      rw [List.drop_eq_nil_of_le (Nat.le_of_eq Array.length_toList)]
      exact Nat.le_refl _
/-- 'throw new E()': new; dup; invokespecial; athrow -/
theorem vx_throw0 {cc : ByteArray} {pc : Nat} (hexec : p.tables.exec = Jvm.exec) (hb : c.code = cc) (hl : l.stackTraces = false) {own cls : String} {names : List String} {ik ic mc ms : Nat} {A : Nat → Prop}
    (hown : s.vm.findClass own = some m.cls) (hcls : Bundle.fit cls = true) (hnames : ∀ n ∈ names, Bundle.fit n = true)
    (hk : (Cond.classLink own ik cls).before args s = true) (hini : (Cond.initialized cls).before args s = true) (hat : ∀ w ∈ vx_at0 own ic cls names, w.before args s = true)
    (hgood : ∀ w ∈ Cond.classLink own ik cls :: Cond.initialized cls :: vx_at0 own ic cls names, vx_ot w = true)
    (hU : vx_Zq Bundle.tN "UNASSIGNED_STACK" Bundle.steD A s s.heap) (hN : vx_Zq Bundle.tN "SUPPRESSED_SENTINEL" Bundle.listD A s s.heap) (hS : va_S A s.heap H locs) (hsize : ls.size = c.maxLocals)
    (d0 : decode cc pc = .ok (.new ik, 3)) (d3 : decode cc (pc + 3) = .ok (.dup, 1)) (d4 : decode cc (pc + 4) = .ok (.invokespecial ic, 3)) (d7 : decode cc (pc + 7) = .ok (.athrow, 1))
    (hout : ∀ x ∈ c.exceptionTable.toList, covers x (pc + 7) = false)
    (hRframes : names.length + 3 < R.frames) (hRlocals : (rest.map fun v => v.category).sum + (13 * (names.length + 1) + 42) ≤ R.locals) (hRcells : cells + 1 ≤ R.cells) (hRslots : slots + 6 ≤ R.slots) (hlocks : meth.locks = false)
    (hx : ∀ t : State, s.vm.Alike t.vm → H.size ≤ t.heap.size → (∀ q : Nat, q < H.size → t.heap[q]? = H[q]?) → XC cls s t)
    (hf : ∀ z ∈ locs, free z.base) (hc : cells + 1 ≤ mc) (hs : slots + 6 ≤ ms) :
    W p l e R s m args below meth c H locs cells slots (vx_MQ below Qc XC args s mc ms free) (F0 m pc ls rest) := by
  intro T hT X
  have htr : e.platform.stackTraces = false := (show e.platform.stackTraces = l.stackTraces by rw [X.admits.platform]).trans hl
  have Y := vx_rebase X (R' := { frames := R.frames, locals := R.locals, cells := 1, slots := 6 }) (Nat.le_refl _) (Nat.le_refl _) hRcells hRslots
  obtain ⟨s', hA⟩ : ∃ z, z = (T.setVm s.vm).setFrames (.invoking m args :: below) := ⟨_, rfl⟩
  rw [← hA] at Y
  have hvm : s'.vm = s.vm := by rw [hA]; rfl
  have hhp : s'.heap = H := by rw [hA]; exact hT
  have hW0 : s.WarmedH s'.vm := by rw [hvm]; exact State.WarmedH.refl s
  have hat' : ∀ w ∈ vx_at0 own ic cls names, w.before args s' = true := fun w hw => vx_ot_at hW0 hvm.symm (hgood w (List.mem_cons_of_mem _ (List.mem_cons_of_mem _ hw))) (hat w hw)
  have hk' : (Cond.classLink own ik cls).before args s' = true := vx_ot_at hW0 hvm.symm (hgood _ List.mem_cons_self) hk
  have hini' : (Cond.initialized cls).before args s' = true := vx_ot_at hW0 hvm.symm (hgood _ (List.mem_cons_of_mem _ List.mem_cons_self)) hini
  have hU' : vx_Zq Bundle.tN "UNASSIGNED_STACK" Bundle.steD A s' s'.heap := by rw [hhp]; exact vx_Zq.moved hW0.alike (hU.kept hS.2.1)
  have hN' : vx_Zq Bundle.tN "SUPPRESSED_SENTINEL" Bundle.listD A s' s'.heap := by rw [hhp]; exact vx_Zq.moved hW0.alike (hN.kept hS.2.1)
  have h : ∀ w ∈ Bundle.ownAtoms0 own ic cls names, w.before args s' = true := vx_own hat' (vx_isRefq hU'.1) (vx_isRefq hN'.1) hU'.2.word hN'.2.word
  have hown' : s'.vm.findClass own = some m.cls := by rw [hvm]; exact hown
  have hins : (Cond.instantiable cls 6).before args s' = true := h _ (by simp [Bundle.ownAtoms0])
  obtain ⟨vm₁, cX, kX, hfX, hkX, -, -, X₁, st1⟩ := Y.newCold hexec (own := own) (C := cls) (index := ik) (n := 6) hown' hk' hins hini'
    (g := F0 m pc ls rest) rfl (by rw [hb]; exact d0) (Nat.le_refl _) (Nat.le_refl _)
  generalize hT1 : (T.setVm vm₁).pushCell { cls := cX, slots := kX.instanceTypes.map defaultValue, vm := .none } = T1 at X₁ st1
  have hcat : (Value.ref T.heap.size).category = 1 := rfl
  have hcellA : T1.heap[T.heap.size]? = some (freshCell cX kX) := by rw [← hT1]; exact State.heap_pushCell_size _ _
  have d3' : decode c.code (pc + 3) = .ok (.dup, 1) := by rw [hb]; exact d3
  obtain ⟨U, hsteps, hrun, hend, hW, hsame, ce, hce, hO⟩ := X₁.ctorThrow0 hexec htr (own := own) (cls := cls) (names := names) (ic := ic) hown' hcls hnames h (fun x hx => nomatch hx) hfX hkX hcellA (by rw [hhp, hT]; exact Nat.le_refl _)
    (g := { method := m, pc := pc + 4, locals := ls, stack := .ref T.heap.size :: .ref T.heap.size :: rest, locked := none }) rfl hsize rfl rfl (rest := rest) rfl
    (by rw [hb]; exact d4) (by rw [hb]; exact d7) hout hRframes (by simp only [List.map_cons, List.sum_cons, hcat]; omega) hlocks
  obtain ⟨f1, f2⟩ := vx_frame hsame
  rw [hhp] at f1 f2
  have hWs : s.WarmedH U.vm := State.WarmedH.trans hW0 hW
  have hcl : s.vm.findClass cls = some ce.cls := by
    have h9 := hO.cls
    rw [hvm] at h9
    exact h9
  have hall : s.sameButNew ({ U with vm := s.vm } : State) locs mc ms := by
    subst hA
    obtain ⟨e1, e2⟩ := hsame
    rw [State.setFrames_setFrames] at e1
    have h2 : (T.setVm s.vm).sameButNew ({ U with vm := s.vm } : State) [] (0 + 1) (0 + 6) := ⟨e1, e2⟩
    have h3 := X.same.trans h2
    rw [List.append_nil] at h3
    exact h3.mono hc hs
  refine ⟨U, ?_, .threw T.heap.size, hrun, hend, Or.inr ⟨T.heap.size, rfl, cls, ce, locs, hx U hWs.alike f1 (fun q hq => f2 q hq (fun z hz => nomatch hz)), hce, hO.vm, hcl, hWs, hall, hf⟩⟩
  refine st1 _ ?_
  show Steps p.tables e below (T1.setTop { method := m, pc := pc + 3, locals := ls, stack := .ref T.heap.size :: rest, locked := none }) _
  jvm_step X₁.here [X₁.here.top, hexec, d3', Value.category]
  exact hsteps
/-- 'throw new E("text")': new; dup; ldc; invokespecial; athrow -/
theorem vx_throwS {cc : ByteArray} {pc : Nat} (hexec : p.tables.exec = Jvm.exec) (hb : c.code = cc) (hl : l.stackTraces = false) {own cls text : String} {names : List String} {ik is ic mc ms sa : Nat} {A : Nat → Prop}
    (hown : s.vm.findClass own = some m.cls) (hcls : Bundle.fit cls = true) (hnames : ∀ n ∈ names, Bundle.fit n = true)
    (hk : (Cond.classLink own ik cls).before args s = true) (hini : (Cond.initialized cls).before args s = true) (hstr : vk_R own is text sa s) (hat : ∀ w ∈ vx_atS own ic cls names, w.before args s = true)
    (hgood : ∀ w ∈ Cond.classLink own ik cls :: Cond.initialized cls :: vx_atS own ic cls names, vx_ot w = true)
    (hU : vx_Zq Bundle.tN "UNASSIGNED_STACK" Bundle.steD A s s.heap) (hN : vx_Zq Bundle.tN "SUPPRESSED_SENTINEL" Bundle.listD A s s.heap) (hS : va_S A s.heap H locs) (hsize : ls.size = c.maxLocals)
    (d0 : decode cc pc = .ok (.new ik, 3)) (d3 : decode cc (pc + 3) = .ok (.dup, 1)) (d4 : decode cc (pc + 4) = .ok (.ldc is, 2)) (d6 : decode cc (pc + 6) = .ok (.invokespecial ic, 3)) (d9 : decode cc (pc + 9) = .ok (.athrow, 1))
    (hout : ∀ x ∈ c.exceptionTable.toList, covers x (pc + 9) = false)
    (hRframes : names.length + 3 < R.frames) (hRlocals : (rest.map fun v => v.category).sum + (13 * (names.length + 1) + 43) ≤ R.locals) (hRcells : cells + 1 ≤ R.cells) (hRslots : slots + 6 ≤ R.slots) (hlocks : meth.locks = false)
    (hx : ∀ t : State, s.vm.Alike t.vm → H.size ≤ t.heap.size → (∀ q : Nat, q < H.size → t.heap[q]? = H[q]?) → XC cls s t)
    (hf : ∀ z ∈ locs, free z.base) (hc : cells + 1 ≤ mc) (hs : slots + 6 ≤ ms) :
    W p l e R s m args below meth c H locs cells slots (vx_MQ below Qc XC args s mc ms free) (F0 m pc ls rest) := by
  intro T hT X
  have htr : e.platform.stackTraces = false := (show e.platform.stackTraces = l.stackTraces by rw [X.admits.platform]).trans hl
  have Y := vx_rebase X (R' := { frames := R.frames, locals := R.locals, cells := 1, slots := 6 }) (Nat.le_refl _) (Nat.le_refl _) hRcells hRslots
  obtain ⟨s', hA⟩ : ∃ z, z = (T.setVm s.vm).setFrames (.invoking m args :: below) := ⟨_, rfl⟩
  rw [← hA] at Y
  have hvm : s'.vm = s.vm := by rw [hA]; rfl
  have hhp : s'.heap = H := by rw [hA]; exact hT
  have hW0 : s.WarmedH s'.vm := by rw [hvm]; exact State.WarmedH.refl s
  have hat' : ∀ w ∈ vx_atS own ic cls names, w.before args s' = true := fun w hw => vx_ot_at hW0 hvm.symm (hgood w (List.mem_cons_of_mem _ (List.mem_cons_of_mem _ hw))) (hat w hw)
  have hk' : (Cond.classLink own ik cls).before args s' = true := vx_ot_at hW0 hvm.symm (hgood _ List.mem_cons_self) hk
  have hini' : (Cond.initialized cls).before args s' = true := vx_ot_at hW0 hvm.symm (hgood _ (List.mem_cons_of_mem _ List.mem_cons_self)) hini
  have hU' : vx_Zq Bundle.tN "UNASSIGNED_STACK" Bundle.steD A s' s'.heap := by rw [hhp]; exact vx_Zq.moved hW0.alike (hU.kept hS.2.1)
  have hN' : vx_Zq Bundle.tN "SUPPRESSED_SENTINEL" Bundle.listD A s' s'.heap := by rw [hhp]; exact vx_Zq.moved hW0.alike (hN.kept hS.2.1)
  have h : ∀ w ∈ Bundle.ownAtoms own ic cls names, w.before args s' = true := vx_own hat' (vx_isRefq hU'.1) (vx_isRefq hN'.1) hU'.2.word hN'.2.word
  have hown' : s'.vm.findClass own = some m.cls := by rw [hvm]; exact hown
  have hins : (Cond.instantiable cls 6).before args s' = true := h _ (by simp [Bundle.ownAtoms])
  obtain ⟨vm₁, cX, kX, hfX, hkX, -, -, X₁, st1⟩ := Y.newCold hexec (own := own) (C := cls) (index := ik) (n := 6) hown' hk' hins hini'
    (g := F0 m pc ls rest) rfl (by rw [hb]; exact d0) (Nat.le_refl _) (Nat.le_refl _)
  generalize hT1 : (T.setVm vm₁).pushCell { cls := cX, slots := kX.instanceTypes.map defaultValue, vm := .none } = T1 at X₁ st1
  have hcat : (Value.ref T.heap.size).category = 1 := rfl
  have hcellA : T1.heap[T.heap.size]? = some (freshCell cX kX) := by rw [← hT1]; exact State.heap_pushCell_size _ _
  have d3' : decode c.code (pc + 3) = .ok (.dup, 1) := by rw [hb]; exact d3
  have d4' : decode c.code (pc + 4) = .ok (.ldc is, 2) := by rw [hb]; exact d4
  have hstr' : vk_R own is text sa s' := vk_R.warm hW0 hstr
  obtain ⟨U, hsteps, hrun, hend, hW, hsame, ce, hce, hO⟩ := X₁.ctorThrowS hexec htr (own := own) (cls := cls) (names := names) (ic := ic) hown' hcls hnames h (fun x hx => nomatch hx) hfX hkX hcellA (by rw [hhp, hT]; exact Nat.le_refl _) (msg := .ref sa) rfl
    (g := { method := m, pc := pc + 6, locals := ls, stack := .ref sa :: .ref T.heap.size :: .ref T.heap.size :: rest, locked := none }) rfl hsize rfl rfl (rest := rest) rfl
    (by rw [hb]; exact d6) (by rw [hb]; exact d9) hout hRframes (by simp only [List.map_cons, List.sum_cons, hcat]; omega) hlocks
  obtain ⟨f1, f2⟩ := vx_frame hsame
  rw [hhp] at f1 f2
  have hWs : s.WarmedH U.vm := State.WarmedH.trans hW0 hW
  have hcl : s.vm.findClass cls = some ce.cls := by
    have h9 := hO.cls
    rw [hvm] at h9
    exact h9
  have hall : s.sameButNew ({ U with vm := s.vm } : State) locs mc ms := by
    subst hA
    obtain ⟨e1, e2⟩ := hsame
    rw [State.setFrames_setFrames] at e1
    have h2 : (T.setVm s.vm).sameButNew ({ U with vm := s.vm } : State) [] (0 + 1) (0 + 6) := ⟨e1, e2⟩
    have h3 := X.same.trans h2
    rw [List.append_nil] at h3
    exact h3.mono hc hs
  refine ⟨U, ?_, .threw T.heap.size, hrun, hend, Or.inr ⟨T.heap.size, rfl, cls, ce, locs, hx U hWs.alike f1 (fun q hq => f2 q hq (fun z hz => nomatch hz)), hce, hO.vm, hcl, hWs, hall, hf⟩⟩
  refine st1 _ ?_
  show Steps p.tables e below (T1.setTop { method := m, pc := pc + 3, locals := ls, stack := .ref T.heap.size :: rest, locked := none }) _
  jvm_step X₁.here [X₁.here.top, hexec, d3', Value.category]
  exact X₁.ldcString hexec (own := own) (text := text) (index := is) (a := sa) hown' hstr'.1 hstr'.2
    (g := { method := m, pc := pc + 4, locals := ls, stack := .ref T.heap.size :: .ref T.heap.size :: rest, locked := none }) rfl d4' _ hsteps
/-- 'throw new E("text")', the text by a wide index -/
theorem vx_throwSW {cc : ByteArray} {pc : Nat} (hexec : p.tables.exec = Jvm.exec) (hb : c.code = cc) (hl : l.stackTraces = false) {own cls text : String} {names : List String} {ik is ic mc ms sa : Nat} {A : Nat → Prop}
    (hown : s.vm.findClass own = some m.cls) (hcls : Bundle.fit cls = true) (hnames : ∀ n ∈ names, Bundle.fit n = true)
    (hk : (Cond.classLink own ik cls).before args s = true) (hini : (Cond.initialized cls).before args s = true) (hstr : vk_R own is text sa s) (hat : ∀ w ∈ vx_atS own ic cls names, w.before args s = true)
    (hgood : ∀ w ∈ Cond.classLink own ik cls :: Cond.initialized cls :: vx_atS own ic cls names, vx_ot w = true)
    (hU : vx_Zq Bundle.tN "UNASSIGNED_STACK" Bundle.steD A s s.heap) (hN : vx_Zq Bundle.tN "SUPPRESSED_SENTINEL" Bundle.listD A s s.heap) (hS : va_S A s.heap H locs) (hsize : ls.size = c.maxLocals)
    (d0 : decode cc pc = .ok (.new ik, 3)) (d3 : decode cc (pc + 3) = .ok (.dup, 1)) (d4 : decode cc (pc + 4) = .ok (.ldc_w is, 3)) (d7 : decode cc (pc + 7) = .ok (.invokespecial ic, 3)) (d10 : decode cc (pc + 10) = .ok (.athrow, 1))
    (hout : ∀ x ∈ c.exceptionTable.toList, covers x (pc + 10) = false)
    (hRframes : names.length + 3 < R.frames) (hRlocals : (rest.map fun v => v.category).sum + (13 * (names.length + 1) + 43) ≤ R.locals) (hRcells : cells + 1 ≤ R.cells) (hRslots : slots + 6 ≤ R.slots) (hlocks : meth.locks = false)
    (hx : ∀ t : State, s.vm.Alike t.vm → H.size ≤ t.heap.size → (∀ q : Nat, q < H.size → t.heap[q]? = H[q]?) → XC cls s t)
    (hf : ∀ z ∈ locs, free z.base) (hc : cells + 1 ≤ mc) (hs : slots + 6 ≤ ms) :
    W p l e R s m args below meth c H locs cells slots (vx_MQ below Qc XC args s mc ms free) (F0 m pc ls rest) := by
  intro T hT X
  have htr : e.platform.stackTraces = false := (show e.platform.stackTraces = l.stackTraces by rw [X.admits.platform]).trans hl
  have Y := vx_rebase X (R' := { frames := R.frames, locals := R.locals, cells := 1, slots := 6 }) (Nat.le_refl _) (Nat.le_refl _) hRcells hRslots
  obtain ⟨s', hA⟩ : ∃ z, z = (T.setVm s.vm).setFrames (.invoking m args :: below) := ⟨_, rfl⟩
  rw [← hA] at Y
  have hvm : s'.vm = s.vm := by rw [hA]; rfl
  have hhp : s'.heap = H := by rw [hA]; exact hT
  have hW0 : s.WarmedH s'.vm := by rw [hvm]; exact State.WarmedH.refl s
  have hat' : ∀ w ∈ vx_atS own ic cls names, w.before args s' = true := fun w hw => vx_ot_at hW0 hvm.symm (hgood w (List.mem_cons_of_mem _ (List.mem_cons_of_mem _ hw))) (hat w hw)
  have hk' : (Cond.classLink own ik cls).before args s' = true := vx_ot_at hW0 hvm.symm (hgood _ List.mem_cons_self) hk
  have hini' : (Cond.initialized cls).before args s' = true := vx_ot_at hW0 hvm.symm (hgood _ (List.mem_cons_of_mem _ List.mem_cons_self)) hini
  have hU' : vx_Zq Bundle.tN "UNASSIGNED_STACK" Bundle.steD A s' s'.heap := by rw [hhp]; exact vx_Zq.moved hW0.alike (hU.kept hS.2.1)
  have hN' : vx_Zq Bundle.tN "SUPPRESSED_SENTINEL" Bundle.listD A s' s'.heap := by rw [hhp]; exact vx_Zq.moved hW0.alike (hN.kept hS.2.1)
  have h : ∀ w ∈ Bundle.ownAtoms own ic cls names, w.before args s' = true := vx_own hat' (vx_isRefq hU'.1) (vx_isRefq hN'.1) hU'.2.word hN'.2.word
  have hown' : s'.vm.findClass own = some m.cls := by rw [hvm]; exact hown
  have hins : (Cond.instantiable cls 6).before args s' = true := h _ (by simp [Bundle.ownAtoms])
  obtain ⟨vm₁, cX, kX, hfX, hkX, -, -, X₁, st1⟩ := Y.newCold hexec (own := own) (C := cls) (index := ik) (n := 6) hown' hk' hins hini'
    (g := F0 m pc ls rest) rfl (by rw [hb]; exact d0) (Nat.le_refl _) (Nat.le_refl _)
  generalize hT1 : (T.setVm vm₁).pushCell { cls := cX, slots := kX.instanceTypes.map defaultValue, vm := .none } = T1 at X₁ st1
  have hcat : (Value.ref T.heap.size).category = 1 := rfl
  have hcellA : T1.heap[T.heap.size]? = some (freshCell cX kX) := by rw [← hT1]; exact State.heap_pushCell_size _ _
  have d3' : decode c.code (pc + 3) = .ok (.dup, 1) := by rw [hb]; exact d3
  have d4' : decode c.code (pc + 4) = .ok (.ldc_w is, 3) := by rw [hb]; exact d4
  have hstr' : vk_R own is text sa s' := vk_R.warm hW0 hstr
  obtain ⟨U, hsteps, hrun, hend, hW, hsame, ce, hce, hO⟩ := X₁.ctorThrowS hexec htr (own := own) (cls := cls) (names := names) (ic := ic) hown' hcls hnames h (fun x hx => nomatch hx) hfX hkX hcellA (by rw [hhp, hT]; exact Nat.le_refl _) (msg := .ref sa) rfl
    (g := { method := m, pc := pc + 7, locals := ls, stack := .ref sa :: .ref T.heap.size :: .ref T.heap.size :: rest, locked := none }) rfl hsize rfl rfl (rest := rest) rfl
    (by rw [hb]; exact d7) (by rw [hb]; exact d10) hout hRframes (by simp only [List.map_cons, List.sum_cons, hcat]; omega) hlocks
  obtain ⟨f1, f2⟩ := vx_frame hsame
  rw [hhp] at f1 f2
  have hWs : s.WarmedH U.vm := State.WarmedH.trans hW0 hW
  have hcl : s.vm.findClass cls = some ce.cls := by
    have h9 := hO.cls
    rw [hvm] at h9
    exact h9
  have hall : s.sameButNew ({ U with vm := s.vm } : State) locs mc ms := by
    subst hA
    obtain ⟨e1, e2⟩ := hsame
    rw [State.setFrames_setFrames] at e1
    have h2 : (T.setVm s.vm).sameButNew ({ U with vm := s.vm } : State) [] (0 + 1) (0 + 6) := ⟨e1, e2⟩
    have h3 := X.same.trans h2
    rw [List.append_nil] at h3
    exact h3.mono hc hs
  refine ⟨U, ?_, .threw T.heap.size, hrun, hend, Or.inr ⟨T.heap.size, rfl, cls, ce, locs, hx U hWs.alike f1 (fun q hq => f2 q hq (fun z hz => nomatch hz)), hce, hO.vm, hcl, hWs, hall, hf⟩⟩
  refine st1 _ ?_
  show Steps p.tables e below (T1.setTop { method := m, pc := pc + 3, locals := ls, stack := .ref T.heap.size :: rest, locked := none }) _
  jvm_step X₁.here [X₁.here.top, hexec, d3', Value.category]
  exact X₁.ldcStringW hexec (own := own) (text := text) (index := is) (a := sa) hown' hstr'.1 hstr'.2
    (g := { method := m, pc := pc + 4, locals := ls, stack := .ref T.heap.size :: .ref T.heap.size :: rest, locked := none }) rfl d4' _ hsteps
end Ends
section Bodies
variable {l : Launch}
theorem vx_ofW {y : MethodName} {ws ws' : List Cond} {rm : Room} {Pc : Array Value → State → Prop} {Qc : Array Value → State → Outcome → State → Prop} {XC : String → State → State → Prop} {mc ms : Nat} {free : Addr → Prop} {cc : ByteArray} {maxL : Nat} {ret : Option FieldType}
    (hy : plainName y.cls = true) (hw : ws = Cond.code y cc maxL ret :: ws')
    (body : ∀ p e s m args below meth c s₁, BodyLoose p l y (headSpec ws rm) cc maxL ret e s m args below meth c s₁ → c.maxLocals = maxL → (∀ x ∈ c.exceptionTable.toList, False) → Pc args s →
      W p l e (headSpec ws rm).room s m args below meth c s.heap [] 0 0 (vx_MQ below Qc XC args s mc ms free) (entryFrame m args maxL)) : vx_Met l y ws rm Pc Qc XC mc ms free := by
  refine MetFree.of_bodyS (code := cc) (maxLocals := maxL) (ret := ret) hy ?_ ?_
  · intro args s m h hn
    obtain ⟨meth, c, h1, h2, h3, h4, h5, h6, -, -⟩ := Cond.code_spec hn (atoms_spec (ws := ws) h _ (by rw [hw]; exact List.mem_cons_self))
    exact ⟨meth, c, h1, h2, h3, h4, h5, h6⟩
  · intro p e s m args below meth c s₁ B hml hP _
    have hh0 : s₁.heap = s.heap := by rw [B.state]; rfl
    have ht : ∀ x ∈ c.exceptionTable.toList, False := by
      obtain ⟨meth9, c9, h1, h2, -, -, -, -, h7, -⟩ := Cond.code_spec B.named (atoms_spec (ws := ws) B.pre _ (by rw [hw]; exact List.mem_cons_self))
      cases Option.some.inj (h1.symm.trans B.method)
      cases Option.some.inj (h2.symm.trans (Stand.of_body B).code)
      intro x hx
      rw [Array.isEmpty_iff.mp h7] at hx
      cases hx
    obtain ⟨t, a1, o, b1, b2, b3⟩ := body p e s m args below meth c s₁ B hml ht hP s₁ hh0 (Stand.of_body B)
    exact ⟨t, o, a1, b1, b2, b3⟩
/-- the table of a body with handlers -/
theorem vx_table {p : Program} {x y : MethodName} {S : Spec} {cc bytes : ByteArray} {maxL maxL' : Nat} {ret ret' : Option FieldType} {e : Env} {s s₁ : State} {m : MethodId} {args : Array Value} {below : List Frame} {meth : Method} {c : Code} {hh : List (Nat × Nat × Nat × Nat)}
    (B : BodyLoose p l y S cc maxL ret e s m args below meth c s₁) (h : (Cond.codeWith y bytes maxL' ret' hh).before args s = true) : c.exceptionTable.toList = tableOf hh := by
  obtain ⟨m9, meth9, c9, hn9, h1, h2, -, -, h6, -⟩ := Cond.codeWith_spec h
  cases Option.some.inj (hn9.symm.trans B.named)
  cases Option.some.inj (h1.symm.trans B.method)
  cases Option.some.inj (h2.symm.trans (Stand.of_body B).code)
  rw [← h6, table_eq]
end Bodies
end VXA
/-! ===== END ===== -/
/-! ===== BEGIN a static call of a method with an exception table ===== -/
section VXS
variable {p : Program} {l : Launch} {e : Env} {R : Room} {s : State} {m : MethodId} {args : Array Value} {below : List Frame} {meth : Method} {c : Code} {T : State} {H : Heap} {locs : List Loc} {cells slots : Nat}
abbrev vx_CSW (R : Room) (s : State) (args : Array Value) (own : String) (index : Nat) (y : MethodName) (bytes : ByteArray) (maxL : Nat) (ret : Option FieldType) (hh : List (Nat × Nat × Nat × Nat)) (ws : List Cond) (rm : Room) (mc ms n : Nat) : Prop :=
  (rm.cells = mc ∧ rm.slots = ms ∧ rm.frames + 1 ≤ R.frames ∧ 8 + (maxL + 11) + rm.locals ≤ R.locals ∧ (∀ w ∈ ws, ∀ (a' : Array Value) (U : State), s.WarmedH U.vm → w.before a' U = true) ∧ Cond.codeWith y bytes maxL ret hh ∈ ws) ∧
  (Cond.codeWith y bytes maxL ret hh).before args s = true ∧ (Cond.initialized y.cls).before args s = true ∧ (y.cls ≠ "java/lang/invoke/MethodHandle" ∧ y.cls ≠ "java/lang/invoke/VarHandle") ∧
  (∀ sig, parseMethodDescriptor y.desc = some sig → n = sig.parameters.length) ∧ (Cond.methodLink own index y).before args s = true ∧ (Cond.static y).before args s = true
theorem vx_cwSW {own : String} {index maxL mc ms : Nat} {y : MethodName} {bytes : ByteArray} {ret : Option FieldType} {hh : List (Nat × Nat × Nat × Nat)} {Ts ws ws' : List Cond} {rm : Room} (n : Nat) (ht : ∀ w ∈ Ts, w.before args s = true) (hT : GoodIn Ts (va_wsS own index y ws)) (hw : ws = Cond.codeWith y bytes maxL ret hh :: ws') (hrc : rm.cells = mc) (hrs : rm.slots = ms)
    (hd : y.cls ≠ "java/lang/invoke/MethodHandle" ∧ y.cls ≠ "java/lang/invoke/VarHandle" ∧ (parseMethodDescriptor y.desc).map (fun d => d.parameters.length) = some n) (hR : rm.frames + 1 ≤ R.frames ∧ 8 + (maxL + 11) + rm.locals ≤ R.locals) :
    vx_CSW R s args own index y bytes maxL ret hh ws rm mc ms n := by
  have ok : ∀ w ∈ va_wsS own index y ws, w.before args s = true := fun w h => ht w (hT w h).1
  have hG : GoodIn Ts ws := fun w h => hT w (by unfold va_wsS; exact List.mem_append_right _ h)
  have hc : Cond.codeWith y bytes maxL ret hh ∈ ws := by rw [hw]; exact List.mem_cons_self
  refine ⟨⟨hrc, hrs, hR.1, hR.2, pay_in ht hG, hc⟩, ht _ (hG _ hc).1, ok _ (by simp [va_wsS]), ⟨hd.1, hd.2.1⟩, fun sig h => ?_, ok _ (by simp [va_wsS]), ok _ (by simp [va_wsS])⟩
  have h2 := hd.2.2
  rw [h] at h2
  exact (Option.some.inj h2).symm
theorem vx_callSW (X : Stand p l e R s m args below meth c T locs cells slots) (hexec : p.tables.exec = Jvm.exec) {own : String} {index : Nat} {y : MethodName} {bytes : ByteArray} {maxL : Nat} {ret : Option FieldType} {hh : List (Nat × Nat × Nat × Nat)}
    (hown : s.vm.findClass own = some m.cls) (hlink : (Cond.methodLink own index y).before args s = true) (hstat : (Cond.static y).before args s = true) (hinit : (Cond.initialized y.cls).before args s = true)
    (hcode : (Cond.codeWith y bytes maxL ret hh).before args s = true) (hy : y.cls ≠ "java/lang/invoke/MethodHandle" ∧ y.cls ≠ "java/lang/invoke/VarHandle")
    {W9 : Nat} {Pre : Pt → Array Value → Prop} {Post : Pt → Array Value → Option Value → Pt → Prop} (hK : Back l R p e below s args y 3 W9 Pre Post)
    {g : JFrame} (hg : g.method = m) (hsize : g.locals.size = c.maxLocals) {argsL rest : List Value} (hlen : ∀ sig, parseMethodDescriptor y.desc = some sig → argsL.length = sig.parameters.length)
    (hstack : g.stack = argsL.reverse ++ rest) (hW : 2 * g.monitorRoom + (rest.map fun v => v.category).sum ≤ W9) (hdg : decode c.code g.pc = .ok (.invokestatic index, 3))
    (hpre : ∀ vm₁, s.WarmedH vm₁ → Pre ⟨T.setVm vm₁, locs, cells, slots⟩ argsL.toArray) :
    ∃ (v : Option Value) (vm₁ : Vm) (B : Pt), s.WarmedH vm₁ ∧ Stand p l e R s m args below meth c B.U B.locs B.cells B.slots ∧ Post ⟨T.setVm vm₁, locs, cells, slots⟩ argsL.toArray v B ∧
      ∀ target, Steps p.tables e below (B.U.setTop { g with pc := g.pc + 3, stack := v.toList ++ rest }) target → Steps p.tables e below (T.setTop g) target := by
  obtain ⟨mk, methM, cM, hnamed, hmethM, -, -, -, -, -, -, hsigM⟩ := Cond.codeWith_spec hcode
  have hstatic : methM.isStatic = true := Cond.static_spec hnamed hmethM hstat
  obtain ⟨kP, hkP, -⟩ := className_of_methodNamed hnamed
  have hinitP : kP.init = .initialized := Cond.initialized_spec (findClass_of_methodNamed hnamed) hkP hinit
  obtain ⟨vm₁, X₁, hstep₁⟩ := X.invokestatic hexec hown hlink hnamed hmethM hstatic hkP hinitP hy (g := g) hg (argsL := argsL) (rest := rest) (hlen _ hsigM) hstack hdg
  obtain ⟨v, B, X', hpost, hsteps⟩ := hK m meth c ⟨T.setVm vm₁, locs, cells, slots⟩ { g with stack := rest } (.invokestatic index) mk argsL.toArray X₁ hg hsize hdg hW (X₁.named hnamed) (hpre vm₁ X₁.warmed)
  exact ⟨v, vm₁, B, X₁.warmed, X', hpost, fun target h => hstep₁ _ fun acts => by rw [doInvoke_state]; exact hsteps.trans h⟩
/-- not caught here, past rows that name other classes: it goes on to the caller -/
theorem vx_outP {p : Program} {l : Launch} {e : Env} {R : Room} {s : State} {m : MethodId} {args : Array Value} {below : List Frame} {meth : Method} {c : Code} {H : Heap} {locs : List Loc} {cells slots : Nat} {free : Addr → Prop} {ls : Array Slot} {rest : List Value} {Qc : Array Value → State → Outcome → State → Prop} {XC : String → State → State → Prop}
    {pc : Nat} {own E : String} {ce : Cell} {q : Addr} {mc ms : Nat} (hown : s.vm.findClass own = some m.cls) (hlocks : meth.locks = false)
    (hpass : ∀ z ∈ c.exceptionTable.toList, covers z pc = false ∨ (z.catchType ≠ 0 ∧ ∃ nm : String, (Cond.classLink own z.catchType nm).before args s = true ∧ va_Nc E nm s)) (hcell : H[q]? = some ce) (hv : ce.vm = .none) (hcl : s.vm.findClass E = some ce.cls)
    (hx : ∀ t : State, t.heap = H → s.vm.Alike t.vm → XC E s t) (hf : ∀ z ∈ locs, free z.base) (hc : cells ≤ mc) (hs : slots ≤ ms) :
    vx_W p l e R s m args below meth c H locs cells slots (vx_MQ below Qc XC args s mc ms free) (F0 m pc ls rest) q := by
  intro T hT X
  have hpl : e.platform.magicAccessors = ({} : Platform).magicAccessors := by rw [X.admits.platform]
  obtain ⟨vm', hW', X', st⟩ := X.outThrough hlocks q (g := F0 m pc ls rest) rfl rfl rfl (cell := ce) (by rw [hT]; exact hcell) (by rw [hv]; rfl)
    (by obtain ⟨k9, h9, -⟩ := Vm.findClass_spec hcl; exact ⟨k9, h9⟩) (fun z hz => by
      rcases hpass z hz with h | ⟨hz0, nm, hl1, hn1⟩
      · exact Or.inl h
      · obtain ⟨c6, hc6, hcl6⟩ := Cond.classLink_spec hown hl1 e.platform hpl
        obtain ⟨a8, b8, h1, h2, h3⟩ := hn1
        cases Option.some.inj (h1.symm.trans hcl)
        cases Option.some.inj (h2.symm.trans hc6)
        exact Or.inr ⟨hz0, _, hcl6, h3⟩)
  obtain ⟨g₀, hfr⟩ := X'.frames_eq
  have hcell9 : ((T.setVm vm').setFrames (.throwing q :: below)).heap[q]? = some ce := by
    show T.heap[q]? = some ce
    rw [hT]; exact hcell
  have hend : Ended ((T.setVm vm').setFrames (.throwing q :: below)) below (.threw q) := State.frames_setFrames _ (State.cur_lt_of_frames hfr)
  refine ⟨(T.setVm vm').setFrames (.throwing q :: below), ?_, .threw q, X'.here.running, hend, Or.inr ⟨q, rfl, E, ce, locs, hx _ hT (X'.ends _).1.alike, hcell9, hv, hcl, (X'.ends _).1, (X'.ends _).2.mono hc hs, hf⟩⟩
  rw [X.pushThrowing_eq]
  exact st
end VXS
/-! ===== END ===== -/
/-! ===== BEGIN methods with a table of their own: called by a name, returning or throwing ===== -/
section VXH
/-! vx_backW, vx_callVX, vx_callSX, vx_callVW, vx_runVW, vx_runVX, vx_runSX, vx_ofWH follow the same proofs as their sisters above (Free/Laws.lean, Shelf42/LK1.lean); vx_outP calls Shelf42/NT130.lean (outThrough). -/
section
variable {l : Launch} {R : Room} {p : Program} {e : Env} {below : List Frame} {s : State} {sargs : Array Value} {y : MethodName} {len W9 : Nat}
theorem vx_backW {ws : List Cond} {rm : Room} {Pc : Array Value → State → Prop} {Qc : Array Value → State → Outcome → State → Prop} {XC : String → State → State → Prop} {mc ms : Nat} {free : Addr → Prop} {bytes : ByteArray} {maxL : Nat} {ret : Option FieldType} {hh : List (Nat × Nat × Nat × Nat)}
    (hM : vx_Met l y ws rm Pc Qc XC mc ms free) (hblind : FrameBlind Pc) (hrc : rm.cells = mc) (hrs : rm.slots = ms)
    (hframes : rm.frames + 1 ≤ R.frames) (hlocals : W9 + (maxL + 11) + rm.locals ≤ R.locals)
    (hws : ∀ w ∈ ws, ∀ a' U, s.WarmedH U.vm → w.before a' U = true) (hcode : Cond.codeWith y bytes maxL ret hh ∈ ws) (hinit : ∀ a' U, s.WarmedH U.vm → (Cond.initialized y.cls).before a' U = true) :
    vx_Back l R p e below s sargs y len W9 (PreOf R mc ms Pc) (PostOf Qc mc ms free) (vx_Post XC mc ms free) := by
  intro m meth c A g ig mk a X hg hsize hdg hW hn hp
  have h1 : (headSpec ws rm).pre.before a A.U = true := atoms_intro fun w hw => hws w hw _ _ X.warmed
  have h2 : (Cond.codeWith y bytes maxL ret hh).before a A.U = true := hws _ hcode _ _ X.warmed
  have h3 : (Cond.initialized y.cls).before a A.U = true := hinit _ _ X.warmed
  have h4 : A.cells + (headSpec ws rm).room.cells ≤ R.cells := by rw [show (headSpec ws rm).room.cells = mc from hrc]; exact hp.1
  have h5 : A.slots + (headSpec ws rm).room.slots ≤ R.slots := by rw [show (headSpec ws rm).room.slots = ms from hrs]; exact hp.2.1
  have hPc : Pc a (A.U.calling g mk a) := hblind _ _ _ _ hp.2.2
  obtain ⟨U, Ls, c0, s0⟩ := A
  dsimp only [Pt.U, Pt.locs, Pt.cells, Pt.slots] at h1 h2 h3 h4 h5 X hn hPc ⊢
  obtain ⟨m9, methY, cY, hn9, hmY, hcY, -, hlY, -⟩ := Cond.codeWith_spec h2
  cases Option.some.inj (hn9.symm.trans hn)
  obtain ⟨kY, hkY, -⟩ := className_of_methodNamed hn
  have hinitY : kY.init = .initialized := Cond.initialized_spec (findClass_of_methodNamed hn) hkY h3
  have h : At U g.method c below := by rw [hg]; exact X.here
  have hlocals9 : W9 + (maxL + 11) + (headSpec ws rm).room.locals ≤ R.locals := hlocals
  have happ : (headSpec ws rm).appliesLoose y e.platform (U.calling g mk a) = true :=
    Spec.appliesLoose_calling (g := g) h hdg hn hkY hinitY
      (X.room_calling (g := g) (R' := (headSpec ws rm).room) hsize hmY hcY hframes (by rw [hlY]; omega) h4 h5) h1
  obtain ⟨mid, hmid⟩ := h.above
  have hfr : (U.setTop g).frames = (.java g :: mid) ++ below := by rw [State.frames_setTop' g h.top, hmid]; rfl
  obtain ⟨o, s₂, hsteps, -, hend, hq⟩ := Steps.callFree hM p X.admits X.cas X.clock (acts := []) hfr happ hPc trivial
  have hq' : vx_Q Qc XC mc ms free a (U.calling g mk a) o s₂ := hq
  rw [State.frames_setTop' g h.top] at hend
  obtain ⟨g₀, hg0⟩ := Option.isSome_iff_exists.mp h.top
  obtain ⟨r, hr⟩ := State.topJava?_eq_some.mp hg0
  have hr' : (({ U with heap := s₂.heap, slotsUsed := s₂.slotsUsed } : State).setVm s₂.vm).frames = .java g₀ :: r := hr
  rcases hq' with ⟨hqc, L, hfe, hL⟩ | ⟨q, rfl, E, ce, L, hx, hce, hcv, hcl, hW₂, hsm, hL⟩
  · obtain ⟨⟨v, rfl⟩, hW₂, e2, q2, q3, q4, q5, q6⟩ := id hfe
    have e3 : s₂ = ({ (U.calling g mk a).setFrames s₂.frames with heap := s₂.heap, slotsUsed := s₂.slotsUsed } : State).setVm s₂.vm := by
      have : s₂ = ({ s₂ with vm := (U.calling g mk a).vm } : State).setVm s₂.vm := rfl
      rw [e2] at this
      exact this
    obtain ⟨c₂, i₂, len₂, hc₂, hd₂, hf₂⟩ := hend
    have hW' : U.WarmedH s₂.vm := hW₂
    have hcc : c₂ = c := by
      have h1 : s₂.code? g.method = U.code? g.method := by
        rw [State.code?_eq, State.code?_eq, hW'.alike.method?]
      exact Option.some.inj (hc₂.symm.trans (h1.trans h.code))
    subst hcc
    have hlen : len₂ = len := by rw [hdg] at hd₂; cases hd₂; rfl
    subst hlen
    have hs₂ : s₂ = (({ U with heap := s₂.heap, slotsUsed := s₂.slotsUsed } : State).setVm s₂.vm).setTop { g with pc := g.pc + len₂, stack := v.toList ++ g.stack } := by
      refine e3.trans ?_
      rw [hf₂, State.calling_eq h.top, State.setFrames_setFrames, State.setTop_of_frames _ hr', hr]
      rfl
    have hsame : U.sameButNew ({ U with heap := s₂.heap, slotsUsed := s₂.slotsUsed } : State) L mc ms := by
      refine ⟨?_, q2, q3, q4, q5, q6⟩
      obtain ⟨t, ht, -⟩ := State.frames_cons hr
      show ({ U with heap := s₂.heap, slotsUsed := s₂.slotsUsed } : State) = { U.setFrames U.frames with heap := s₂.heap, slotsUsed := s₂.slotsUsed }
      rw [State.setFrames_self ht]
    subst hg
    refine Or.inl ⟨v, ⟨(({ U with heap := s₂.heap, slotsUsed := s₂.slotsUsed } : State).setVm s₂.vm), Ls ++ L, c0 + mc, s0 + ms⟩,
      ⟨X.admits, X.cas, X.clock, X.frames, X.room, X.hears, X.method, X.code, (X.here.setHeapUsed s₂.heap s₂.slotsUsed).setVm hW'.alike, X.tail, State.WarmedH.trans X.warmed hW', X.limits, X.bytes, X.same.trans (hsame.setVm s.vm)⟩,
      ⟨g, mk, s₂, L, rfl, rfl, hqc, rfl, hL, rfl, rfl⟩, ?_⟩
    show Steps p.tables e below _ ((({ U with heap := s₂.heap, slotsUsed := s₂.slotsUsed } : State).setVm s₂.vm).setTop { g with pc := g.pc + len₂, stack := v.toList ++ g.stack })
    rw [← hs₂]
    exact hsteps
  · obtain ⟨e2, q2, q3, q4, q5, q6⟩ := id hsm
    have e3 : s₂ = ({ (U.calling g mk a).setFrames s₂.frames with heap := s₂.heap, slotsUsed := s₂.slotsUsed } : State).setVm s₂.vm := by
      have : s₂ = ({ s₂ with vm := (U.calling g mk a).vm } : State).setVm s₂.vm := rfl
      rw [e2] at this
      exact this
    have hf₂ : s₂.frames = .throwing q :: .java g :: U.frames.tail := hend
    have hW' : U.WarmedH s₂.vm := hW₂
    have hs₂ : s₂ = ((({ U with heap := s₂.heap, slotsUsed := s₂.slotsUsed } : State).setVm s₂.vm).setTop g).pushFrame (.throwing q) := by
      refine e3.trans ?_
      rw [hf₂, State.calling_eq h.top, State.setFrames_setFrames, State.pushFrame, State.frames_setTop _ hr', State.setTop_of_frames _ hr', State.setFrames_setFrames, hr]
      rfl
    have hsame : U.sameButNew ({ U with heap := s₂.heap, slotsUsed := s₂.slotsUsed } : State) L mc ms := by
      refine ⟨?_, q2, q3, q4, q5, q6⟩
      obtain ⟨t, ht, -⟩ := State.frames_cons hr
      show ({ U with heap := s₂.heap, slotsUsed := s₂.slotsUsed } : State) = { U.setFrames U.frames with heap := s₂.heap, slotsUsed := s₂.slotsUsed }
      rw [State.setFrames_self ht]
    subst hg
    refine Or.inr ⟨q, ⟨(({ U with heap := s₂.heap, slotsUsed := s₂.slotsUsed } : State).setVm s₂.vm), Ls ++ L, c0 + mc, s0 + ms⟩,
      ⟨X.admits, X.cas, X.clock, X.frames, X.room, X.hears, X.method, X.code, (X.here.setHeapUsed s₂.heap s₂.slotsUsed).setVm hW'.alike, X.tail, State.WarmedH.trans X.warmed hW', X.limits, X.bytes, X.same.trans (hsame.setVm s.vm)⟩,
      ⟨g, mk, s₂, L, E, ce, rfl, rfl, hx, hce, hcv, hcl, rfl, hL, rfl, rfl⟩, ?_⟩
    show Steps p.tables e below _ (((({ U with heap := s₂.heap, slotsUsed := s₂.slotsUsed } : State).setVm s₂.vm).setTop g).pushFrame (.throwing q))
    rw [← hs₂]
    exact hsteps
end
variable {p : Program} {l : Launch} {e : Env} {R : Room} {s : State} {m : MethodId} {args : Array Value} {below : List Frame} {meth : Method} {c : Code} {T : State} {H : Heap} {locs : List Loc} {cells slots : Nat}
theorem vx_callVX (X : Stand p l e R s m args below meth c T locs cells slots) (hexec : p.tables.exec = Jvm.exec) {own C : String} {index : Nat} {y : MethodName} {bytes : ByteArray} {maxL : Nat} {ret : Option FieldType} {hh : List (Nat × Nat × Nat × Nat)}
    (hown : s.vm.findClass own = some m.cls) (hlink : (Cond.methodLink own index y).before args s = true) (hinst : (Cond.instanceMethod y).before args s = true) (hsel : (Cond.selects C y y).before args s = true)
    (hcode : (Cond.codeWith y bytes maxL ret hh).before args s = true) (hy : y.cls ≠ "java/lang/invoke/MethodHandle" ∧ y.cls ≠ "java/lang/invoke/VarHandle")
    {W9 : Nat} {Pre : Pt → Array Value → Prop} {Post : Pt → Array Value → Option Value → Pt → Prop} {PostX : Pt → Array Value → Addr → Pt → Prop} (hK : vx_Back l R p e below s args y 3 W9 Pre Post PostX)
    {b : Addr} {cellB : Cell} (hcell : T.heap[b]? = some cellB) (hobj : cellB.vm.isStatics = false) (hcls : s.vm.findClass C = some cellB.cls)
    {g : JFrame} (hg : g.method = m) (hsize : g.locals.size = c.maxLocals) {argsL rest : List Value} (hlen : ∀ sig, parseMethodDescriptor y.desc = some sig → argsL.length = sig.parameters.length)
    (hstack : g.stack = argsL.reverse ++ .ref b :: rest) (hW : 2 * g.monitorRoom + (rest.map fun v => v.category).sum ≤ W9) (hdg : decode c.code g.pc = .ok (.invokevirtual index, 3))
    (hpre : ∀ vm₁, s.WarmedH vm₁ → Pre ⟨T.setVm vm₁, locs, cells, slots⟩ (Value.ref b :: argsL).toArray) :
    (∃ (v : Option Value) (vm₁ : Vm) (B : Pt), s.WarmedH vm₁ ∧ Stand p l e R s m args below meth c B.U B.locs B.cells B.slots ∧ Post ⟨T.setVm vm₁, locs, cells, slots⟩ (Value.ref b :: argsL).toArray v B ∧
      ∀ target, Steps p.tables e below (B.U.setTop { g with pc := g.pc + 3, stack := v.toList ++ rest }) target → Steps p.tables e below (T.setTop g) target) ∨
    (∃ (q : Addr) (vm₁ : Vm) (B : Pt), s.WarmedH vm₁ ∧ Stand p l e R s m args below meth c B.U B.locs B.cells B.slots ∧ PostX ⟨T.setVm vm₁, locs, cells, slots⟩ (Value.ref b :: argsL).toArray q B ∧
      Steps p.tables e below (T.setTop g) ((B.U.setTop { g with stack := rest }).pushFrame (.throwing q))) := by
  obtain ⟨mk, methM, hnamed, hmethM, hstM, habM⟩ := Cond.instanceMethod_spec hinst
  obtain ⟨m8, methM', cM, hn8, hmethM', -, -, -, -, -, -, hsigM⟩ := Cond.codeWith_spec hcode
  cases Option.some.inj (hn8.symm.trans hnamed)
  cases hmethM.symm.trans hmethM'
  obtain ⟨c2, r2, m2, q1, q2, q3, q4, kP, hkP, hkPi⟩ := Cond.selects_spec hsel
  cases hcls.symm.trans q1
  cases (State.methodFound?_of_named hnamed hy).symm.trans q2
  cases hnamed.symm.trans q3
  have hselP : selectMethod e.platform s.vm cellB.cls mk = .method mk := by rw [Launch.admits_selectMethod X.admits]; exact q4
  obtain ⟨vm₁, X₁, hstep₁⟩ := X.invokevirtual hexec hown hlink hnamed hmethM hstM hkP hkPi hy (a := b) (cell := cellB) hcell
    (fun z h => by rw [h] at hobj; cases hobj) hselP hmethM habM hkP hkPi (g := g) hg (argsL := argsL) (rest := rest) (hlen _ hsigM) hstack hdg
  rcases hK m meth c ⟨T.setVm vm₁, locs, cells, slots⟩ { g with stack := rest } (.invokevirtual index) mk (Value.ref b :: argsL).toArray X₁ hg hsize hdg hW (X₁.named hnamed) (hpre vm₁ X₁.warmed) with ⟨v, B, X', hpost, hsteps⟩ | ⟨q, B, X', hpost, hsteps⟩
  · exact Or.inl ⟨v, vm₁, B, X₁.warmed, X', hpost, fun target h => hstep₁ _ fun acts => by rw [doInvoke_state]; exact hsteps.trans h⟩
  · exact Or.inr ⟨q, vm₁, B, X₁.warmed, X', hpost, hstep₁ _ fun acts => by rw [doInvoke_state]; exact hsteps⟩
theorem vx_callSX (X : Stand p l e R s m args below meth c T locs cells slots) (hexec : p.tables.exec = Jvm.exec) {own : String} {index : Nat} {y : MethodName} {bytes : ByteArray} {maxL : Nat} {ret : Option FieldType} {hh : List (Nat × Nat × Nat × Nat)}
    (hown : s.vm.findClass own = some m.cls) (hlink : (Cond.methodLink own index y).before args s = true) (hstat : (Cond.static y).before args s = true) (hinit : (Cond.initialized y.cls).before args s = true)
    (hcode : (Cond.codeWith y bytes maxL ret hh).before args s = true) (hy : y.cls ≠ "java/lang/invoke/MethodHandle" ∧ y.cls ≠ "java/lang/invoke/VarHandle")
    {W9 : Nat} {Pre : Pt → Array Value → Prop} {Post : Pt → Array Value → Option Value → Pt → Prop} {PostX : Pt → Array Value → Addr → Pt → Prop} (hK : vx_Back l R p e below s args y 3 W9 Pre Post PostX)
    {g : JFrame} (hg : g.method = m) (hsize : g.locals.size = c.maxLocals) {argsL rest : List Value} (hlen : ∀ sig, parseMethodDescriptor y.desc = some sig → argsL.length = sig.parameters.length)
    (hstack : g.stack = argsL.reverse ++ rest) (hW : 2 * g.monitorRoom + (rest.map fun v => v.category).sum ≤ W9) (hdg : decode c.code g.pc = .ok (.invokestatic index, 3))
    (hpre : ∀ vm₁, s.WarmedH vm₁ → Pre ⟨T.setVm vm₁, locs, cells, slots⟩ argsL.toArray) :
    (∃ (v : Option Value) (vm₁ : Vm) (B : Pt), s.WarmedH vm₁ ∧ Stand p l e R s m args below meth c B.U B.locs B.cells B.slots ∧ Post ⟨T.setVm vm₁, locs, cells, slots⟩ argsL.toArray v B ∧
      ∀ target, Steps p.tables e below (B.U.setTop { g with pc := g.pc + 3, stack := v.toList ++ rest }) target → Steps p.tables e below (T.setTop g) target) ∨
    (∃ (q : Addr) (vm₁ : Vm) (B : Pt), s.WarmedH vm₁ ∧ Stand p l e R s m args below meth c B.U B.locs B.cells B.slots ∧ PostX ⟨T.setVm vm₁, locs, cells, slots⟩ argsL.toArray q B ∧
      Steps p.tables e below (T.setTop g) ((B.U.setTop { g with stack := rest }).pushFrame (.throwing q))) := by
  obtain ⟨mk, methM, cM, hnamed, hmethM, -, -, -, -, -, -, hsigM⟩ := Cond.codeWith_spec hcode
  have hstatic : methM.isStatic = true := Cond.static_spec hnamed hmethM hstat
  obtain ⟨kP, hkP, -⟩ := className_of_methodNamed hnamed
  have hinitP : kP.init = .initialized := Cond.initialized_spec (findClass_of_methodNamed hnamed) hkP hinit
  obtain ⟨vm₁, X₁, hstep₁⟩ := X.invokestatic hexec hown hlink hnamed hmethM hstatic hkP hinitP hy (g := g) hg (argsL := argsL) (rest := rest) (hlen _ hsigM) hstack hdg
  rcases hK m meth c ⟨T.setVm vm₁, locs, cells, slots⟩ { g with stack := rest } (.invokestatic index) mk argsL.toArray X₁ hg hsize hdg hW (X₁.named hnamed) (hpre vm₁ X₁.warmed) with ⟨v, B, X', hpost, hsteps⟩ | ⟨q, B, X', hpost, hsteps⟩
  · exact Or.inl ⟨v, vm₁, B, X₁.warmed, X', hpost, fun target h => hstep₁ _ fun acts => by rw [doInvoke_state]; exact hsteps.trans h⟩
  · exact Or.inr ⟨q, vm₁, B, X₁.warmed, X', hpost, hstep₁ _ fun acts => by rw [doInvoke_state]; exact hsteps⟩
theorem vx_callVW (X : Stand p l e R s m args below meth c T locs cells slots) (hexec : p.tables.exec = Jvm.exec) {own C : String} {index : Nat} {y : MethodName} {bytes : ByteArray} {maxL : Nat} {ret : Option FieldType} {hh : List (Nat × Nat × Nat × Nat)}
    (hown : s.vm.findClass own = some m.cls) (hlink : (Cond.methodLink own index y).before args s = true) (hinst : (Cond.instanceMethod y).before args s = true) (hsel : (Cond.selects C y y).before args s = true)
    (hcode : (Cond.codeWith y bytes maxL ret hh).before args s = true) (hy : y.cls ≠ "java/lang/invoke/MethodHandle" ∧ y.cls ≠ "java/lang/invoke/VarHandle")
    {W9 : Nat} {Pre : Pt → Array Value → Prop} {Post : Pt → Array Value → Option Value → Pt → Prop} (hK : Back l R p e below s args y 3 W9 Pre Post)
    {b : Addr} {cellB : Cell} (hcell : T.heap[b]? = some cellB) (hobj : cellB.vm.isStatics = false) (hcls : s.vm.findClass C = some cellB.cls)
    {g : JFrame} (hg : g.method = m) (hsize : g.locals.size = c.maxLocals) {argsL rest : List Value} (hlen : ∀ sig, parseMethodDescriptor y.desc = some sig → argsL.length = sig.parameters.length)
    (hstack : g.stack = argsL.reverse ++ .ref b :: rest) (hW : 2 * g.monitorRoom + (rest.map fun v => v.category).sum ≤ W9) (hdg : decode c.code g.pc = .ok (.invokevirtual index, 3))
    (hpre : ∀ vm₁, s.WarmedH vm₁ → Pre ⟨T.setVm vm₁, locs, cells, slots⟩ (Value.ref b :: argsL).toArray) :
    ∃ (v : Option Value) (vm₁ : Vm) (B : Pt), s.WarmedH vm₁ ∧ Stand p l e R s m args below meth c B.U B.locs B.cells B.slots ∧ Post ⟨T.setVm vm₁, locs, cells, slots⟩ (Value.ref b :: argsL).toArray v B ∧
      ∀ target, Steps p.tables e below (B.U.setTop { g with pc := g.pc + 3, stack := v.toList ++ rest }) target → Steps p.tables e below (T.setTop g) target := by
  obtain ⟨mk, methM, hnamed, hmethM, hstM, habM⟩ := Cond.instanceMethod_spec hinst
  obtain ⟨m8, methM', cM, hn8, hmethM', -, -, -, -, -, -, hsigM⟩ := Cond.codeWith_spec hcode
  cases Option.some.inj (hn8.symm.trans hnamed)
  cases hmethM.symm.trans hmethM'
  obtain ⟨c2, r2, m2, q1, q2, q3, q4, kP, hkP, hkPi⟩ := Cond.selects_spec hsel
  cases hcls.symm.trans q1
  cases (State.methodFound?_of_named hnamed hy).symm.trans q2
  cases hnamed.symm.trans q3
  have hselP : selectMethod e.platform s.vm cellB.cls mk = .method mk := by rw [Launch.admits_selectMethod X.admits]; exact q4
  obtain ⟨vm₁, X₁, hstep₁⟩ := X.invokevirtual hexec hown hlink hnamed hmethM hstM hkP hkPi hy (a := b) (cell := cellB) hcell
    (fun z h => by rw [h] at hobj; cases hobj) hselP hmethM habM hkP hkPi (g := g) hg (argsL := argsL) (rest := rest) (hlen _ hsigM) hstack hdg
  obtain ⟨v, B, X', hpost, hsteps⟩ := hK m meth c ⟨T.setVm vm₁, locs, cells, slots⟩ { g with stack := rest } (.invokevirtual index) mk (Value.ref b :: argsL).toArray X₁ hg hsize hdg hW (X₁.named hnamed) (hpre vm₁ X₁.warmed)
  exact ⟨v, vm₁, B, X₁.warmed, X', hpost, fun target h => hstep₁ _ fun acts => by rw [doInvoke_state]; exact hsteps.trans h⟩
abbrev vx_CVW (R : Room) (s : State) (args : Array Value) (own C : String) (index : Nat) (y : MethodName) (bytes : ByteArray) (maxL : Nat) (ret : Option FieldType) (hh : List (Nat × Nat × Nat × Nat)) (ws : List Cond) (rm : Room) (mc ms n : Nat) : Prop :=
  (rm.cells = mc ∧ rm.slots = ms ∧ rm.frames + 1 ≤ R.frames ∧ 8 + (maxL + 11) + rm.locals ≤ R.locals ∧ (∀ w ∈ ws, ∀ (a' : Array Value) (U : State), s.WarmedH U.vm → w.before a' U = true) ∧ Cond.codeWith y bytes maxL ret hh ∈ ws) ∧
  (Cond.codeWith y bytes maxL ret hh).before args s = true ∧ (Cond.initialized y.cls).before args s = true ∧ (y.cls ≠ "java/lang/invoke/MethodHandle" ∧ y.cls ≠ "java/lang/invoke/VarHandle") ∧
  (∀ sig, parseMethodDescriptor y.desc = some sig → n = sig.parameters.length) ∧ (Cond.methodLink own index y).before args s = true ∧ (Cond.instanceMethod y).before args s = true ∧ (Cond.selects C y y).before args s = true
theorem vx_runVW {y : MethodName} {bytes cc : ByteArray} {maxL nL mc ms n index : Nat} {ret : Option FieldType} {hh : List (Nat × Nat × Nat × Nat)} {ws : List Cond} {rm : Room} {Pc : Array Value → State → Prop} {Qc : Array Value → State → Outcome → State → Prop} {free : Addr → Prop} {Ts : List Cond} {own C : String} {b : Addr} {As rest : List Value} {g : JFrame}
    (S : CallFix p m c cc nL s args Ts own) (hM : Met l y ws rm Pc Qc mc ms free) (cw : vx_CVW R s args own C index y bytes maxL ret hh ws rm mc ms n) (hp : PreV s H C b Pc As)
    (hg : g.method = m) (hn : As.length = n) (hsize : g.locals.size = nL) (hstack : g.stack = As.reverse ++ .ref b :: rest) (hW : 2 * g.monitorRoom + (rest.map fun v => v.category).sum ≤ 8) (hdg : decode cc g.pc = .ok (.invokevirtual index, 3)) (hf : cells + mc ≤ R.cells ∧ slots + ms ≤ R.slots) :
    va_Run p l e R s m args below meth c H locs cells slots mc ms g rest (Qc (Value.ref b :: As).toArray) free := by
  obtain ⟨⟨hrc, hrs, hfr, hlo, hws, hcw⟩, hcode, hini, hy, hlen, hl, hin, hse⟩ := cw
  have hK : Back l R p e below s args y 3 8 (PreOf R mc ms Pc) (PostOf Qc mc ms free) := va_backW (hh := hh) (bytes := bytes) (maxL := maxL) (ret := ret) hM hp.1 hrc hrs hfr hlo hws hcw (fun a' U hW => word_at hW (Or.inl (by first | rfl | simp [Cond.onTables, Cond.keeps, Cond.steady])) hini)
  obtain ⟨hx, hb, hml, ho, -⟩ := S
  obtain ⟨-, ⟨cellB, hcB, hoB, hclB⟩, hPc⟩ := hp
  intro T hT X
  obtain ⟨v, vm₁, ⟨U', l2, c2, s2⟩, hW₁, X', ⟨g', mk, t, L, e1, e2, hq, h1, hL, h2, h3⟩, st⟩ := vx_callVW X hx (C := C) (hh := hh) (bytes := bytes) (maxL := maxL) (ret := ret) ho hl hin hse hcode hy hK (by rw [hT]; exact hcB) hoB hclB hg (hsize.trans hml.symm) (argsL := As) (rest := rest) (fun sig h => hn.trans (hlen sig h)) hstack hW (by rw [hb]; exact hdg)
    (fun vm₁ hW₁ => ⟨hf.1, hf.2, hPc (T.setVm vm₁) hT hW₁⟩)
  dsimp only [Pt.U, Pt.locs, Pt.cells, Pt.slots] at X' e1 e2 h1 h2 h3 st
  subst h1; subst h2; subst h3
  exact ⟨v, (T.setVm vm₁).calling g' mk (Value.ref b :: As).toArray, t, U', L, hT, X', hL, e1, e2, hq, st⟩
section
variable {y : MethodName} {bytes cc : ByteArray} {maxL nL mc ms n index : Nat} {ret : Option FieldType} {ws : List Cond} {rm : Room} {Pc : Array Value → State → Prop} {Qc : Array Value → State → Outcome → State → Prop} {XC : String → State → State → Prop} {free : Addr → Prop} {Ts : List Cond} {own C : String} {b : Addr} {As rest : List Value} {g : JFrame}
theorem vx_runVX {hh : List (Nat × Nat × Nat × Nat)} (S : CallFix p m c cc nL s args Ts own) (hM : vx_Met l y ws rm Pc Qc XC mc ms free) (cw : vx_CVW R s args own C index y bytes maxL ret hh ws rm mc ms n) (hp : PreV s H C b Pc As)
    (hg : g.method = m) (hn : As.length = n) (hsize : g.locals.size = nL) (hstack : g.stack = As.reverse ++ .ref b :: rest) (hW : 2 * g.monitorRoom + (rest.map fun v => v.category).sum ≤ 8) (hdg : decode cc g.pc = .ok (.invokevirtual index, 3)) (hf : cells + mc ≤ R.cells ∧ slots + ms ≤ R.slots) :
    vx_Run p l e R s m args below meth c H locs cells slots mc ms g rest (Qc (Value.ref b :: As).toArray) XC free := by
  obtain ⟨⟨hrc, hrs, hfr, hlo, hws, hcw⟩, hcode, hini, hy, hlen, hl, hin, hse⟩ := cw
  have hK : vx_Back l R p e below s args y 3 8 (PreOf R mc ms Pc) (PostOf Qc mc ms free) (vx_Post XC mc ms free) := vx_backW (hh := hh) (bytes := bytes) (maxL := maxL) (ret := ret) hM hp.1 hrc hrs hfr hlo hws hcw (fun a' U hW => word_at hW (Or.inl (by first | rfl | simp [Cond.onTables, Cond.keeps, Cond.steady])) hini)
  obtain ⟨hx, hb, hml, ho, -⟩ := S
  obtain ⟨-, ⟨cellB, hcB, hoB, hclB⟩, hPc⟩ := hp
  intro T hT X
  rcases vx_callVX X hx (C := C) (hh := hh) (bytes := bytes) (maxL := maxL) (ret := ret) ho hl hin hse hcode hy hK (by rw [hT]; exact hcB) hoB hclB hg (hsize.trans hml.symm) (argsL := As) (rest := rest) (fun sig h => hn.trans (hlen sig h)) hstack hW (by rw [hb]; exact hdg)
    (fun vm₁ hW₁ => ⟨hf.1, hf.2, hPc (T.setVm vm₁) hT hW₁⟩) with ⟨v, vm₁, ⟨U', l2, c2, s2⟩, hW₁, X', ⟨g', mk, t, L, e1, e2, hq, h1, hL, h2, h3⟩, st⟩ | ⟨q, vm₁, ⟨U', l2, c2, s2⟩, hW₁, X', ⟨g', mk, t, L, E, ce, e1, e2, hq, hce, hcv, hcl, h1, hL, h2, h3⟩, st⟩
  · dsimp only [Pt.U, Pt.locs, Pt.cells, Pt.slots] at X' e1 e2 h1 h2 h3 st
    subst h1; subst h2; subst h3
    exact Or.inl ⟨v, (T.setVm vm₁).calling g' mk (Value.ref b :: As).toArray, t, U', L, hT, X', hL, e1, e2, hq, st⟩
  · dsimp only [Pt.U, Pt.locs, Pt.cells, Pt.slots] at X' e1 e2 h1 h2 h3 st hcl
    subst h1; subst h2; subst h3
    exact Or.inr ⟨q, (T.setVm vm₁).calling g' mk (Value.ref b :: As).toArray, t, U', L, E, ce, hT, X', hL, e1, e2, hq, hce, hcv, vx_cls hW₁ hcl, st⟩
theorem vx_runSX {hh : List (Nat × Nat × Nat × Nat)} (S : CallFix p m c cc nL s args Ts own) (hM : vx_Met l y ws rm Pc Qc XC mc ms free) (cw : vx_CSW R s args own index y bytes maxL ret hh ws rm mc ms n) (hp : PreS s H Pc As)
    (hg : g.method = m) (hn : As.length = n) (hsize : g.locals.size = nL) (hstack : g.stack = As.reverse ++ rest) (hW : 2 * g.monitorRoom + (rest.map fun v => v.category).sum ≤ 8) (hdg : decode cc g.pc = .ok (.invokestatic index, 3)) (hf : cells + mc ≤ R.cells ∧ slots + ms ≤ R.slots) :
    vx_Run p l e R s m args below meth c H locs cells slots mc ms g rest (Qc As.toArray) XC free := by
  obtain ⟨⟨hrc, hrs, hfr, hlo, hws, hcw⟩, hcode, hini, hy, hlen, hl, hstt⟩ := cw
  have hK : vx_Back l R p e below s args y 3 8 (PreOf R mc ms Pc) (PostOf Qc mc ms free) (vx_Post XC mc ms free) := vx_backW (hh := hh) (bytes := bytes) (maxL := maxL) (ret := ret) hM hp.1 hrc hrs hfr hlo hws hcw (fun a' U hW => word_at hW (Or.inl (by first | rfl | simp [Cond.onTables, Cond.keeps, Cond.steady])) hini)
  obtain ⟨hx, hb, hml, ho, -⟩ := S
  intro T hT X
  rcases vx_callSX X hx (hh := hh) (bytes := bytes) (maxL := maxL) (ret := ret) ho hl hstt hini hcode hy hK hg (hsize.trans hml.symm) (argsL := As) (rest := rest) (fun sig h => hn.trans (hlen sig h)) hstack hW (by rw [hb]; exact hdg)
    (fun vm₁ hW₁ => ⟨hf.1, hf.2, hp.2 (T.setVm vm₁) hT hW₁⟩) with ⟨v, vm₁, ⟨U', l2, c2, s2⟩, hW₁, X', ⟨g', mk, t, L, e1, e2, hq, h1, hL, h2, h3⟩, st⟩ | ⟨q, vm₁, ⟨U', l2, c2, s2⟩, hW₁, X', ⟨g', mk, t, L, E, ce, e1, e2, hq, hce, hcv, hcl, h1, hL, h2, h3⟩, st⟩
  · dsimp only [Pt.U, Pt.locs, Pt.cells, Pt.slots] at X' e1 e2 h1 h2 h3 st
    subst h1; subst h2; subst h3
    exact Or.inl ⟨v, (T.setVm vm₁).calling g' mk As.toArray, t, U', L, hT, X', hL, e1, e2, hq, st⟩
  · dsimp only [Pt.U, Pt.locs, Pt.cells, Pt.slots] at X' e1 e2 h1 h2 h3 st hcl
    subst h1; subst h2; subst h3
    exact Or.inr ⟨q, (T.setVm vm₁).calling g' mk As.toArray, t, U', L, E, ce, hT, X', hL, e1, e2, hq, hce, hcv, vx_cls hW₁ hcl, st⟩
end
end VXH
theorem vx_ofWH {l : Launch} {y : MethodName} {ws ws' : List Cond} {rm : Room} {Pc : Array Value → State → Prop} {Qc : Array Value → State → Outcome → State → Prop} {XC : String → State → State → Prop} {mc ms : Nat} {free : Addr → Prop} {cc : ByteArray} {maxL : Nat} {ret : Option FieldType} {hh : List (Nat × Nat × Nat × Nat)}
    (hy : plainName y.cls = true) (hw : ws = Cond.codeWith y cc maxL ret hh :: ws')
    (body : ∀ p e s m args below meth c s₁, BodyLoose p l y (headSpec ws rm) cc maxL ret e s m args below meth c s₁ → c.maxLocals = maxL → Pc args s →
      W p l e (headSpec ws rm).room s m args below meth c s.heap [] 0 0 (vx_MQ below Qc XC args s mc ms free) (entryFrame m args maxL)) : vx_Met l y ws rm Pc Qc XC mc ms free := by
  refine MetFree.of_bodyS (code := cc) (maxLocals := maxL) (ret := ret) hy ?_ ?_
  · intro args s m h hn
    obtain ⟨m9, meth, c, hn9, h1, h2, h3, h4, -, h5, h6, -⟩ := Cond.codeWith_spec (atoms_spec (ws := ws) h _ (by rw [hw]; exact List.mem_cons_self))
    cases hn.symm.trans hn9
    exact ⟨meth, c, h1, h2, h3, h4, h5, h6⟩
  · intro p e s m args below meth c s₁ B hml hP _
    have hh0 : s₁.heap = s.heap := by rw [B.state]; rfl
    obtain ⟨t, a1, o, b1, b2, b3⟩ := body p e s m args below meth c s₁ B hml hP s₁ hh0 (Stand.of_body B)
    exact ⟨t, o, a1, b1, b2, b3⟩
/-! ===== END ===== -/
end
section
-- 02.names.lean.txt
def RX0 : String := "SnowRecorder$Guesses"
def TX0 : u_T := fun k => match k with
  | 0 => ("SnowRecorder$Guesses", "many", "I", false)
  | 1 => ("SnowRecorder$Guesses", "first", "I", false)
  | 2 => ("SnowRecorder$Guesses", "unlike", "[I", true)
  | _ => ("SnowRecorder$Guesses", "depths", "[[I", true)
def tyX0 : Nat → FieldType := fun k => match k with
  | 0 => .int
  | 1 => .int
  | 2 => .array .int
  | _ => .array (.array .int)
theorem nmX0 : ∀ a, a < 4 → ∀ b, b < 4 → a ≠ b → (TX0 a).2.1 ≠ (TX0 b).2.1 := by decide +kernel
theorem tyX0_ok : ∀ k, k < 4 → parseFieldDescriptor (TX0 k).2.2.1 = some (tyX0 k) := by decide +kernel
abbrev cX0_init : ByteArray := prog_2_method_1_code
def yX0_init : MethodName := ⟨RX0, "<init>", "()V"⟩
abbrev cX0_clear : ByteArray := prog_2_method_2_code
def yX0_clear : MethodName := ⟨RX0, "clear", "()V"⟩
abbrev cX0_add : ByteArray := prog_2_method_3_code
def yX0_add : MethodName := ⟨RX0, "add", "(I)V"⟩
abbrev cX0_see : ByteArray := prog_2_method_4_code
def yX0_see : MethodName := ⟨RX0, "see", "(II)V"⟩
def RX1 : String := "SnowRecorder$Likeness"
def TX1 : u_T := fun k => match k with
  | _ => ("SnowRecorder$Likeness", "row", "[I", true)
def tyX1 : Nat → FieldType := fun k => match k with
  | _ => .array .int
theorem nmX1 : ∀ a, a < 1 → ∀ b, b < 1 → a ≠ b → (TX1 a).2.1 ≠ (TX1 b).2.1 := by decide +kernel
theorem tyX1_ok : ∀ k, k < 1 → parseFieldDescriptor (TX1 k).2.2.1 = some (tyX1 k) := by decide +kernel
abbrev cX1_init : ByteArray := prog_3_method_1_code
def yX1_init : MethodName := ⟨RX1, "<init>", "()V"⟩
abbrev cX1_longestRow : ByteArray := prog_3_method_2_code
def yX1_longestRow : MethodName := ⟨RX1, "longestRow", "(LSnowRecorder$Pack;LSnowRecorder$Pack;)I"⟩
abbrev cX1_fewestSteps : ByteArray := prog_3_method_3_code
def yX1_fewestSteps : MethodName := ⟨RX1, "fewestSteps", "(LSnowRecorder$Pack;LSnowRecorder$Pack;)I"⟩
def RX2 : String := "SnowRecorder$Notes"
def TX2 : u_T := fun k => match k with
  | 0 => ("SnowRecorder$Notes", "size", "I", false)
  | 1 => ("SnowRecorder$Notes", "slope", "[I", true)
  | 2 => ("SnowRecorder$Notes", "hours", "[I", true)
  | _ => ("SnowRecorder$Notes", "depth", "[I", true)
def tyX2 : Nat → FieldType := fun k => match k with
  | 0 => .int
  | 1 => .array .int
  | 2 => .array .int
  | _ => .array .int
theorem nmX2 : ∀ a, a < 4 → ∀ b, b < 4 → a ≠ b → (TX2 a).2.1 ≠ (TX2 b).2.1 := by decide +kernel
theorem tyX2_ok : ∀ k, k < 4 → parseFieldDescriptor (TX2 k).2.2.1 = some (tyX2 k) := by decide +kernel
abbrev cX2_init : ByteArray := prog_4_method_1_code
def yX2_init : MethodName := ⟨RX2, "<init>", "()V"⟩
abbrev cX2_copyFrom : ByteArray := prog_4_method_2_code
def yX2_copyFrom : MethodName := ⟨RX2, "copyFrom", "(LSnowRecorder$Notes;)V"⟩
abbrev cX2_add : ByteArray := prog_4_method_3_code
def yX2_add : MethodName := ⟨RX2, "add", "(III)V"⟩
abbrev cX2_slopes : ByteArray := prog_4_method_4_code
def yX2_slopes : MethodName := ⟨RX2, "slopes", "()I"⟩
abbrev cX2_lastHour : ByteArray := prog_4_method_5_code
def yX2_lastHour : MethodName := ⟨RX2, "lastHour", "()I"⟩
def RX3 : String := "SnowRecorder$Pack"
def TX3 : u_T := fun k => match k with
  | 0 => ("SnowRecorder$Pack", "size", "I", false)
  | 1 => ("SnowRecorder$Pack", "runoff", "I", false)
  | _ => ("SnowRecorder$Pack", "cells", "[I", true)
def tyX3 : Nat → FieldType := fun k => match k with
  | 0 => .int
  | 1 => .int
  | _ => .array .int
theorem nmX3 : ∀ a, a < 3 → ∀ b, b < 3 → a ≠ b → (TX3 a).2.1 ≠ (TX3 b).2.1 := by decide +kernel
theorem tyX3_ok : ∀ k, k < 3 → parseFieldDescriptor (TX3 k).2.2.1 = some (tyX3 k) := by decide +kernel
abbrev cX3_init : ByteArray := prog_5_method_1_code
def yX3_init : MethodName := ⟨RX3, "<init>", "()V"⟩
abbrev cX3_clear : ByteArray := prog_5_method_2_code
def yX3_clear : MethodName := ⟨RX3, "clear", "()V"⟩
abbrev cX3_copyFrom : ByteArray := prog_5_method_3_code
def yX3_copyFrom : MethodName := ⟨RX3, "copyFrom", "(LSnowRecorder$Pack;)V"⟩
abbrev cX3_sum : ByteArray := prog_5_method_4_code
def yX3_sum : MethodName := ⟨RX3, "sum", "(I)I"⟩
abbrev cX3_mass : ByteArray := prog_5_method_5_code
def yX3_mass : MethodName := ⟨RX3, "mass", "(I)I"⟩
abbrev cX3_massAbove : ByteArray := prog_5_method_6_code
def yX3_massAbove : MethodName := ⟨RX3, "massAbove", "(I)I"⟩
abbrev cX3_nameOf : ByteArray := prog_5_method_7_code
def yX3_nameOf : MethodName := ⟨RX3, "nameOf", "(I)I"⟩
abbrev cX3_has : ByteArray := prog_5_method_8_code
def yX3_has : MethodName := ⟨RX3, "has", "(I)Z"⟩
abbrev cX3_namesIn : ByteArray := prog_5_method_9_code
def yX3_namesIn : MethodName := ⟨RX3, "namesIn", "(LSnowRecorder$Pack;)I"⟩
abbrev cX3_add : ByteArray := prog_5_method_10_code
def yX3_add : MethodName := ⟨RX3, "add", "(IIIIII)V"⟩
abbrev cX3_joinLowest : ByteArray := prog_5_method_11_code
def yX3_joinLowest : MethodName := ⟨RX3, "joinLowest", "()V"⟩
abbrev cX3_wet : ByteArray := prog_5_method_12_code
def yX3_wet : MethodName := ⟨RX3, "wet", "(II)V"⟩
abbrev cX3_melt : ByteArray := prog_5_method_13_code
def yX3_melt : MethodName := ⟨RX3, "melt", "(I)V"⟩
abbrev cX3_cool : ByteArray := prog_5_method_14_code
def yX3_cool : MethodName := ⟨RX3, "cool", "(I)V"⟩
abbrev cX3_evenTemps : ByteArray := prog_5_method_15_code
def yX3_evenTemps : MethodName := ⟨RX3, "evenTemps", "()V"⟩
abbrev cX3_freezeAndSink : ByteArray := prog_5_method_16_code
def yX3_freezeAndSink : MethodName := ⟨RX3, "freezeAndSink", "(LSnowRecorder$Plan;)V"⟩
abbrev cX3_freeze : ByteArray := prog_5_method_17_code
def yX3_freeze : MethodName := ⟨RX3, "freeze", "(I)V"⟩
abbrev cX3_press : ByteArray := prog_5_method_18_code
def yX3_press : MethodName := ⟨RX3, "press", "(LSnowRecorder$Plan;)V"⟩
abbrev cX3_turnAndAge : ByteArray := prog_5_method_19_code
def yX3_turnAndAge : MethodName := ⟨RX3, "turnAndAge", "(I)V"⟩
abbrev cX3_nextKind : ByteArray := prog_5_method_20_code
def yX3_nextKind : MethodName := ⟨RX3, "nextKind", "(II)I"⟩
abbrev cX3_grade : ByteArray := prog_5_method_21_code
def yX3_grade : MethodName := ⟨RX3, "grade", "(II)I"⟩
abbrev cX3_strength : ByteArray := prog_5_method_22_code
def yX3_strength : MethodName := ⟨RX3, "strength", "(ILSnowRecorder$Plan;)I"⟩
abbrev cX3_ratio : ByteArray := prog_5_method_23_code
def yX3_ratio : MethodName := ⟨RX3, "ratio", "(IILSnowRecorder$Plan;)I"⟩
abbrev cX3_weakest : ByteArray := prog_5_method_24_code
def yX3_weakest : MethodName := ⟨RX3, "weakest", "(ILSnowRecorder$Plan;)I"⟩
abbrev cX3_leastRatio : ByteArray := prog_5_method_25_code
def yX3_leastRatio : MethodName := ⟨RX3, "leastRatio", "(ILSnowRecorder$Plan;)I"⟩
abbrev cX3_lowestUnstable : ByteArray := prog_5_method_26_code
def yX3_lowestUnstable : MethodName := ⟨RX3, "lowestUnstable", "(IILSnowRecorder$Plan;)I"⟩
def RX4 : String := "SnowRecorder$Pit"
def TX4 : u_T := fun k => match k with
  | 0 => ("SnowRecorder$Pit", "slope", "I", false)
  | 1 => ("SnowRecorder$Pit", "time", "I", false)
  | _ => ("SnowRecorder$Pit", "pack", "LSnowRecorder$Pack;", true)
def tyX4 : Nat → FieldType := fun k => match k with
  | 0 => .int
  | 1 => .int
  | _ => .object "SnowRecorder$Pack"
theorem nmX4 : ∀ a, a < 3 → ∀ b, b < 3 → a ≠ b → (TX4 a).2.1 ≠ (TX4 b).2.1 := by decide +kernel
theorem tyX4_ok : ∀ k, k < 3 → parseFieldDescriptor (TX4 k).2.2.1 = some (tyX4 k) := by decide +kernel
abbrev cX4_init : ByteArray := prog_6_method_1_code
def yX4_init : MethodName := ⟨RX4, "<init>", "()V"⟩
abbrev cX4_copyFrom : ByteArray := prog_6_method_2_code
def yX4_copyFrom : MethodName := ⟨RX4, "copyFrom", "(LSnowRecorder$Pit;)V"⟩
def RX5 : String := "SnowRecorder$Plan"
def TX5 : u_T := fun k => match k with
  | 0 => ("SnowRecorder$Plan", "slopes", "I", false)
  | 1 => ("SnowRecorder$Plan", "hours", "I", false)
  | 2 => ("SnowRecorder$Plan", "untoldAir", "I", false)
  | 3 => ("SnowRecorder$Plan", "steep", "[I", true)
  | 4 => ("SnowRecorder$Plan", "open", "[I", true)
  | 5 => ("SnowRecorder$Plan", "air", "[I", true)
  | 6 => ("SnowRecorder$Plan", "fall", "[I", true)
  | 7 => ("SnowRecorder$Plan", "much", "[I", true)
  | _ => ("SnowRecorder$Plan", "table", "[I", true)
def tyX5 : Nat → FieldType := fun k => match k with
  | 0 => .int
  | 1 => .int
  | 2 => .int
  | 3 => .array .int
  | 4 => .array .int
  | 5 => .array .int
  | 6 => .array .int
  | 7 => .array .int
  | _ => .array .int
theorem nmX5 : ∀ a, a < 9 → ∀ b, b < 9 → a ≠ b → (TX5 a).2.1 ≠ (TX5 b).2.1 := by decide +kernel
theorem tyX5_ok : ∀ k, k < 9 → parseFieldDescriptor (TX5 k).2.2.1 = some (tyX5 k) := by decide +kernel
abbrev cX5_init : ByteArray := prog_7_method_1_code
def yX5_init : MethodName := ⟨RX5, "<init>", "()V"⟩
abbrev cX5_clear : ByteArray := prog_7_method_2_code
def yX5_clear : MethodName := ⟨RX5, "clear", "()V"⟩
abbrev cX5_copyFrom : ByteArray := prog_7_method_3_code
def yX5_copyFrom : MethodName := ⟨RX5, "copyFrom", "(LSnowRecorder$Plan;)V"⟩
abbrev cX5_warm : ByteArray := prog_7_method_4_code
def yX5_warm : MethodName := ⟨RX5, "warm", "(I)V"⟩
abbrev cX5_allSlopes : ByteArray := prog_7_method_5_code
def yX5_allSlopes : MethodName := ⟨RX5, "allSlopes", "()I"⟩
abbrev cX5_airAt : ByteArray := prog_7_method_6_code
def yX5_airAt : MethodName := ⟨RX5, "airAt", "(I)I"⟩
abbrev cX5_fallAt : ByteArray := prog_7_method_7_code
def yX5_fallAt : MethodName := ⟨RX5, "fallAt", "(I)I"⟩
abbrev cX5_muchAt : ByteArray := prog_7_method_8_code
def yX5_muchAt : MethodName := ⟨RX5, "muchAt", "(I)I"⟩
abbrev cX5_of : ByteArray := prog_7_method_9_code
def yX5_of : MethodName := ⟨RX5, "of", "(II)I"⟩
def RX6 : String := "SnowRecorder$State"
def TX6 : u_T := fun k => match k with
  | 0 => ("SnowRecorder$State", "now", "LSnowRecorder$World;", true)
  | 1 => ("SnowRecorder$State", "before", "[LSnowRecorder$World;", true)
  | 2 => ("SnowRecorder$State", "acts", "I", false)
  | 3 => ("SnowRecorder$State", "pits", "[LSnowRecorder$Pit;", true)
  | 4 => ("SnowRecorder$State", "notes", "LSnowRecorder$Notes;", true)
  | _ => ("SnowRecorder$State", "refused", "[I", true)
def tyX6 : Nat → FieldType := fun k => match k with
  | 0 => .object "SnowRecorder$World"
  | 1 => .array (.object "SnowRecorder$World")
  | 2 => .int
  | 3 => .array (.object "SnowRecorder$Pit")
  | 4 => .object "SnowRecorder$Notes"
  | _ => .array .int
theorem nmX6 : ∀ a, a < 6 → ∀ b, b < 6 → a ≠ b → (TX6 a).2.1 ≠ (TX6 b).2.1 := by decide +kernel
theorem tyX6_ok : ∀ k, k < 6 → parseFieldDescriptor (TX6 k).2.2.1 = some (tyX6 k) := by decide +kernel
abbrev cX6_init : ByteArray := prog_8_method_1_code
def yX6_init : MethodName := ⟨RX6, "<init>", "()V"⟩
abbrev cX6_beginWith : ByteArray := prog_8_method_2_code
def yX6_beginWith : MethodName := ⟨RX6, "beginWith", "(LSnowRecorder$World;)V"⟩
abbrev cX6_copyFrom : ByteArray := prog_8_method_3_code
def yX6_copyFrom : MethodName := ⟨RX6, "copyFrom", "(LSnowRecorder$State;)V"⟩
abbrev cX6_keepAct : ByteArray := prog_8_method_4_code
def yX6_keepAct : MethodName := ⟨RX6, "keepAct", "()V"⟩
abbrev cX6_forgetOldest : ByteArray := prog_8_method_5_code
def yX6_forgetOldest : MethodName := ⟨RX6, "forgetOldest", "()V"⟩
abbrev cX6_takeBack : ByteArray := prog_8_method_6_code
def yX6_takeBack : MethodName := ⟨RX6, "takeBack", "()V"⟩
abbrev cX6_keepPit : ByteArray := prog_8_method_7_code
def yX6_keepPit : MethodName := ⟨RX6, "keepPit", "(I)V"⟩
def RX7 : String := "SnowRecorder$TextReader"
def TX7 : u_T := fun k => match k with
  | 0 => ("SnowRecorder$TextReader", "place", "I", false)
  | 1 => ("SnowRecorder$TextReader", "code", "I", false)
  | 2 => ("SnowRecorder$TextReader", "text", "[B", false)
  | 3 => ("SnowRecorder$TextReader", "end", "I", false)
  | 4 => ("SnowRecorder$TextReader", "type", "I", false)
  | 5 => ("SnowRecorder$TextReader", "at", "I", false)
  | 6 => ("SnowRecorder$TextReader", "behind", "I", false)
  | 7 => ("SnowRecorder$TextReader", "taken", "I", false)
  | _ => ("SnowRecorder$TextReader", "toldTable", "I", false)
def tyX7 : Nat → FieldType := fun k => match k with
  | 0 => .int
  | 1 => .int
  | 2 => .array .byte
  | 3 => .int
  | 4 => .int
  | 5 => .int
  | 6 => .int
  | 7 => .int
  | _ => .int
theorem nmX7 : ∀ a, a < 9 → ∀ b, b < 9 → a ≠ b → (TX7 a).2.1 ≠ (TX7 b).2.1 := by decide +kernel
theorem tyX7_ok : ∀ k, k < 9 → parseFieldDescriptor (TX7 k).2.2.1 = some (tyX7 k) := by decide +kernel
abbrev cX7_init : ByteArray := prog_9_method_1_code
def yX7_init : MethodName := ⟨RX7, "<init>", "()V"⟩
abbrev cX7_read : ByteArray := prog_9_method_2_code
def yX7_read : MethodName := ⟨RX7, "read", "([BILSnowRecorder$Plan;LSnowRecorder$World;)I"⟩
abbrev cX7_readClause : ByteArray := prog_9_method_3_code
def yX7_readClause : MethodName := ⟨RX7, "readClause", "(LSnowRecorder$Plan;LSnowRecorder$World;)V"⟩
abbrev cX7_readSlope : ByteArray := prog_9_method_4_code
def yX7_readSlope : MethodName := ⟨RX7, "readSlope", "(LSnowRecorder$Plan;)V"⟩
abbrev cX7_readLayer : ByteArray := prog_9_method_5_code
def yX7_readLayer : MethodName := ⟨RX7, "readLayer", "(LSnowRecorder$Plan;LSnowRecorder$World;)V"⟩
abbrev cX7_readHour : ByteArray := prog_9_method_6_code
def yX7_readHour : MethodName := ⟨RX7, "readHour", "(LSnowRecorder$Plan;)V"⟩
abbrev cX7_readFall : ByteArray := prog_9_method_7_code
def yX7_readFall : MethodName := ⟨RX7, "readFall", "()I"⟩
abbrev cX7_readTable : ByteArray := prog_9_method_8_code
def yX7_readTable : MethodName := ⟨RX7, "readTable", "(LSnowRecorder$Plan;III)V"⟩
abbrev cX7_kind : ByteArray := prog_9_method_9_code
def yX7_kind : MethodName := ⟨RX7, "kind", "()I"⟩
abbrev cX7_number : ByteArray := prog_9_method_10_code
def yX7_number : MethodName := ⟨RX7, "number", "(II)I"⟩
abbrev cX7_close : ByteArray := prog_9_method_11_code
def yX7_close : MethodName := ⟨RX7, "close", "()V"⟩
abbrev cX7_fail : ByteArray := prog_9_method_12_code
def yX7_fail : MethodName := ⟨RX7, "fail", "(II)V"⟩
abbrev cX7_is : ByteArray := prog_9_method_13_code
def yX7_is : MethodName := ⟨RX7, "is", "(Ljava/lang/String;)Z"⟩
abbrev cX7_take : ByteArray := prog_9_method_14_code
def yX7_take : MethodName := ⟨RX7, "take", "()V"⟩
abbrev cX7_peek : ByteArray := prog_9_method_15_code
def yX7_peek : MethodName := ⟨RX7, "peek", "()V"⟩
abbrev cX7_typeOf : ByteArray := prog_9_method_16_code
def yX7_typeOf : MethodName := ⟨RX7, "typeOf", "(I)I"⟩
def RX8 : String := "SnowRecorder$World"
def TX8 : u_T := fun k => match k with
  | 0 => ("SnowRecorder$World", "time", "I", false)
  | 1 => ("SnowRecorder$World", "names", "I", false)
  | 2 => ("SnowRecorder$World", "taken", "I", false)
  | 3 => ("SnowRecorder$World", "slid", "I", false)
  | 4 => ("SnowRecorder$World", "slides", "I", false)
  | 5 => ("SnowRecorder$World", "pits", "I", false)
  | _ => ("SnowRecorder$World", "packs", "[LSnowRecorder$Pack;", true)
def tyX8 : Nat → FieldType := fun k => match k with
  | 0 => .int
  | 1 => .int
  | 2 => .int
  | 3 => .int
  | 4 => .int
  | 5 => .int
  | _ => .array (.object "SnowRecorder$Pack")
theorem nmX8 : ∀ a, a < 7 → ∀ b, b < 7 → a ≠ b → (TX8 a).2.1 ≠ (TX8 b).2.1 := by decide +kernel
theorem tyX8_ok : ∀ k, k < 7 → parseFieldDescriptor (TX8 k).2.2.1 = some (tyX8 k) := by decide +kernel
abbrev cX8_init : ByteArray := prog_10_method_1_code
def yX8_init : MethodName := ⟨RX8, "<init>", "()V"⟩
abbrev cX8_clear : ByteArray := prog_10_method_2_code
def yX8_clear : MethodName := ⟨RX8, "clear", "()V"⟩
abbrev cX8_copyFrom : ByteArray := prog_10_method_3_code
def yX8_copyFrom : MethodName := ⟨RX8, "copyFrom", "(LSnowRecorder$World;)V"⟩
abbrev cX8_layers : ByteArray := prog_10_method_4_code
def yX8_layers : MethodName := ⟨RX8, "layers", "()I"⟩
abbrev cX8_runoff : ByteArray := prog_10_method_5_code
def yX8_runoff : MethodName := ⟨RX8, "runoff", "()I"⟩
abbrev cX8_sum : ByteArray := prog_10_method_6_code
def yX8_sum : MethodName := ⟨RX8, "sum", "(I)I"⟩
abbrev cX8_has : ByteArray := prog_10_method_7_code
def yX8_has : MethodName := ⟨RX8, "has", "(I)Z"⟩
abbrev cX8_hour : ByteArray := prog_10_method_8_code
def yX8_hour : MethodName := ⟨RX8, "hour", "(LSnowRecorder$Plan;IZ)V"⟩
abbrev cX8_fallOn : ByteArray := prog_10_method_9_code
def yX8_fallOn : MethodName := ⟨RX8, "fallOn", "(IIII)V"⟩
abbrev cX8_digOn : ByteArray := prog_10_method_10_code
def yX8_digOn : MethodName := ⟨RX8, "digOn", "(I)I"⟩
abbrev cX8_slideOn : ByteArray := prog_10_method_11_code
def yX8_slideOn : MethodName := ⟨RX8, "slideOn", "(ILSnowRecorder$Plan;)I"⟩
def RX9 : String := "SnowRecorder"
def TX9 : u_T := fun k => match k with
  | 0 => ("SnowRecorder", "tape", "[B", true)
  | 1 => ("SnowRecorder", "tapeSize", "I", false)
  | 2 => ("SnowRecorder", "faultPlace", "I", false)
  | 3 => ("SnowRecorder", "reader", "LSnowRecorder$TextReader;", true)
  | 4 => ("SnowRecorder", "plan", "LSnowRecorder$Plan;", true)
  | 5 => ("SnowRecorder", "state", "LSnowRecorder$State;", true)
  | 6 => ("SnowRecorder", "kept", "LSnowRecorder$State;", true)
  | 7 => ("SnowRecorder", "imaged", "Z", false)
  | 8 => ("SnowRecorder", "otherPlan", "LSnowRecorder$Plan;", true)
  | 9 => ("SnowRecorder", "trial", "LSnowRecorder$World;", true)
  | 10 => ("SnowRecorder", "lead", "LSnowRecorder$World;", true)
  | 11 => ("SnowRecorder", "guesses", "LSnowRecorder$Guesses;", true)
  | 12 => ("SnowRecorder", "likeness", "LSnowRecorder$Likeness;", true)
  | _ => ("SnowRecorder", "line", "Ljava/lang/StringBuilder;", true)
def tyX9 : Nat → FieldType := fun k => match k with
  | 0 => .array .byte
  | 1 => .int
  | 2 => .int
  | 3 => .object "SnowRecorder$TextReader"
  | 4 => .object "SnowRecorder$Plan"
  | 5 => .object "SnowRecorder$State"
  | 6 => .object "SnowRecorder$State"
  | 7 => .boolean
  | 8 => .object "SnowRecorder$Plan"
  | 9 => .object "SnowRecorder$World"
  | 10 => .object "SnowRecorder$World"
  | 11 => .object "SnowRecorder$Guesses"
  | 12 => .object "SnowRecorder$Likeness"
  | _ => .object "java/lang/StringBuilder"
theorem nmX9 : ∀ a, a < 14 → ∀ b, b < 14 → a ≠ b → (TX9 a).2.1 ≠ (TX9 b).2.1 := by decide +kernel
theorem tyX9_ok : ∀ k, k < 14 → parseFieldDescriptor (TX9 k).2.2.1 = some (tyX9 k) := by decide +kernel
abbrev cX9_init : ByteArray := prog_1_method_1_code
def yX9_init : MethodName := ⟨RX9, "<init>", "()V"⟩
abbrev cX9_feed : ByteArray := prog_1_method_2_code
def yX9_feed : MethodName := ⟨RX9, "feed", "(IIIII)I"⟩
abbrev cX9_snow : ByteArray := prog_1_method_3_code
def yX9_snow : MethodName := ⟨RX9, "snow", "(I)I"⟩
abbrev cX9_fault : ByteArray := prog_1_method_4_code
def yX9_fault : MethodName := ⟨RX9, "fault", "()I"⟩
abbrev cX9_count : ByteArray := prog_1_method_5_code
def yX9_count : MethodName := ⟨RX9, "count", "(I)I"⟩
abbrev cX9_forecast : ByteArray := prog_1_method_6_code
def yX9_forecast : MethodName := ⟨RX9, "forecast", "(II)I"⟩
abbrev cX9_slope : ByteArray := prog_1_method_7_code
def yX9_slope : MethodName := ⟨RX9, "slope", "(II)I"⟩
abbrev cX9_layer : ByteArray := prog_1_method_8_code
def yX9_layer : MethodName := ⟨RX9, "layer", "(III)I"⟩
abbrev cX9_told : ByteArray := prog_1_method_9_code
def yX9_told : MethodName := ⟨RX9, "told", "(III)I"⟩
abbrev cX9_hours : ByteArray := prog_1_method_10_code
def yX9_hours : MethodName := ⟨RX9, "hours", "(I)I"⟩
abbrev cX9_fall : ByteArray := prog_1_method_11_code
def yX9_fall : MethodName := ⟨RX9, "fall", "(III)I"⟩
abbrev cX9_dig : ByteArray := prog_1_method_12_code
def yX9_dig : MethodName := ⟨RX9, "dig", "(I)I"⟩
abbrev cX9_slide : ByteArray := prog_1_method_13_code
def yX9_slide : MethodName := ⟨RX9, "slide", "(I)I"⟩
abbrev cX9_pit : ByteArray := prog_1_method_14_code
def yX9_pit : MethodName := ⟨RX9, "pit", "(I)I"⟩
abbrev cX9_undo : ByteArray := prog_1_method_15_code
def yX9_undo : MethodName := ⟨RX9, "undo", "()I"⟩
abbrev cX9_then : ByteArray := prog_1_method_16_code
def yX9_then : MethodName := ⟨RX9, "then", "(III)I"⟩
abbrev cX9_once : ByteArray := prog_1_method_17_code
def yX9_once : MethodName := ⟨RX9, "once", "(II)I"⟩
abbrev cX9_gone : ByteArray := prog_1_method_18_code
def yX9_gone : MethodName := ⟨RX9, "gone", "(I)I"⟩
abbrev cX9_stands : ByteArray := prog_1_method_19_code
def yX9_stands : MethodName := ⟨RX9, "stands", "(II)I"⟩
abbrev cX9_toLoad : ByteArray := prog_1_method_20_code
def yX9_toLoad : MethodName := ⟨RX9, "toLoad", "(I)I"⟩
abbrev cX9_steepest : ByteArray := prog_1_method_21_code
def yX9_steepest : MethodName := ⟨RX9, "steepest", "(I)I"⟩
abbrev cX9_toWarm : ByteArray := prog_1_method_22_code
def yX9_toWarm : MethodName := ⟨RX9, "toWarm", "(II)I"⟩
abbrev cX9_matters : ByteArray := prog_1_method_23_code
def yX9_matters : MethodName := ⟨RX9, "matters", "(III)I"⟩
abbrev cX9_pitOf : ByteArray := prog_1_method_24_code
def yX9_pitOf : MethodName := ⟨RX9, "pitOf", "(II)I"⟩
abbrev cX9_compare : ByteArray := prog_1_method_25_code
def yX9_compare : MethodName := ⟨RX9, "compare", "(III)I"⟩
abbrev cX9_nearest : ByteArray := prog_1_method_26_code
def yX9_nearest : MethodName := ⟨RX9, "nearest", "(I)I"⟩
abbrev cX9_note : ByteArray := prog_1_method_27_code
def yX9_note : MethodName := ⟨RX9, "note", "(III)I"⟩
abbrev cX9_falls : ByteArray := prog_1_method_28_code
def yX9_falls : MethodName := ⟨RX9, "falls", "(I)I"⟩
abbrev cX9_look : ByteArray := prog_1_method_29_code
def yX9_look : MethodName := ⟨RX9, "look", "(I)I"⟩
abbrev cX9_forget : ByteArray := prog_1_method_30_code
def yX9_forget : MethodName := ⟨RX9, "forget", "()V"⟩
abbrev cX9_odds : ByteArray := prog_1_method_31_code
def yX9_odds : MethodName := ⟨RX9, "odds", "(III)I"⟩
abbrev cX9_years : ByteArray := prog_1_method_32_code
def yX9_years : MethodName := ⟨RX9, "years", "(III)I"⟩
abbrev cX9_image : ByteArray := prog_1_method_33_code
def yX9_image : MethodName := ⟨RX9, "image", "()V"⟩
abbrev cX9_restore : ByteArray := prog_1_method_34_code
def yX9_restore : MethodName := ⟨RX9, "restore", "()Z"⟩
abbrev cX9_putBytes : ByteArray := prog_1_method_35_code
def yX9_putBytes : MethodName := ⟨RX9, "putBytes", "(I)V"⟩
abbrev cX9_refuse : ByteArray := prog_1_method_36_code
def yX9_refuse : MethodName := ⟨RX9, "refuse", "(I)I"⟩
abbrev cX9_isSlope : ByteArray := prog_1_method_37_code
def yX9_isSlope : MethodName := ⟨RX9, "isSlope", "(I)Z"⟩
abbrev cX9_needSlope : ByteArray := prog_1_method_38_code
def yX9_needSlope : MethodName := ⟨RX9, "needSlope", "(I)V"⟩
abbrev cX9_packOf : ByteArray := prog_1_method_39_code
def yX9_packOf : MethodName := ⟨RX9, "packOf", "(I)LSnowRecorder$Pack;"⟩
abbrev cX9_needLayer : ByteArray := prog_1_method_40_code
def yX9_needLayer : MethodName := ⟨RX9, "needLayer", "(LSnowRecorder$Pack;I)V"⟩
abbrev cX9_needPit : ByteArray := prog_1_method_41_code
def yX9_needPit : MethodName := ⟨RX9, "needPit", "(I)V"⟩
abbrev cX9_needWhat : ByteArray := prog_1_method_42_code
def yX9_needWhat : MethodName := ⟨RX9, "needWhat", "(II)V"⟩
abbrev cX9_needHours : ByteArray := prog_1_method_43_code
def yX9_needHours : MethodName := ⟨RX9, "needHours", "(III)V"⟩
abbrev cX9_worst : ByteArray := prog_1_method_44_code
def yX9_worst : MethodName := ⟨RX9, "worst", "()I"⟩
abbrev cX9_comesByHand : ByteArray := prog_1_method_45_code
def yX9_comesByHand : MethodName := ⟨RX9, "comesByHand", "(II)Z"⟩
abbrev cX9_isUnstable : ByteArray := prog_1_method_46_code
def yX9_isUnstable : MethodName := ⟨RX9, "isUnstable", "(LSnowRecorder$World;I)Z"⟩
abbrev cX9_extraOf : ByteArray := prog_1_method_47_code
def yX9_extraOf : MethodName := ⟨RX9, "extraOf", "(I)I"⟩
abbrev cX9_isOnceUnstable : ByteArray := prog_1_method_48_code
def yX9_isOnceUnstable : MethodName := ⟨RX9, "isOnceUnstable", "(II)Z"⟩
abbrev cX9_otherRatio : ByteArray := prog_1_method_49_code
def yX9_otherRatio : MethodName := ⟨RX9, "otherRatio", "(II)I"⟩
abbrev cX9_isSameWeakest : ByteArray := prog_1_method_50_code
def yX9_isSameWeakest : MethodName := ⟨RX9, "isSameWeakest", "(LSnowRecorder$Pit;LSnowRecorder$Pit;)Z"⟩
abbrev cX9_isNotedSo : ByteArray := prog_1_method_51_code
def yX9_isNotedSo : MethodName := ⟨RX9, "isNotedSo", "(LSnowRecorder$World;LSnowRecorder$Plan;III)Z"⟩
abbrev cX9_guessFalls : ByteArray := prog_1_method_52_code
def yX9_guessFalls : MethodName := ⟨RX9, "guessFalls", "(Z)V"⟩
abbrev cX9_guessMuch : ByteArray := prog_1_method_53_code
def yX9_guessMuch : MethodName := ⟨RX9, "guessMuch", "(IIZ)V"⟩
abbrev cX9_lookFrom : ByteArray := prog_1_method_54_code
def yX9_lookFrom : MethodName := ⟨RX9, "lookFrom", "(I)V"⟩
abbrev cX9_weightOf : ByteArray := prog_1_method_55_code
def yX9_weightOf : MethodName := ⟨RX9, "weightOf", "(III)I"⟩
abbrev cX9_isUnstableWithout : ByteArray := prog_1_method_56_code
def yX9_isUnstableWithout : MethodName := ⟨RX9, "isUnstableWithout", "(III)Z"⟩
abbrev cX9_yearGoesBy : ByteArray := prog_1_method_57_code
def yX9_yearGoesBy : MethodName := ⟨RX9, "yearGoesBy", "(I)I"⟩
abbrev cX9_slideAll : ByteArray := prog_1_method_58_code
def yX9_slideAll : MethodName := ⟨RX9, "slideAll", "()V"⟩
abbrev cX9_nextSeed : ByteArray := prog_1_method_59_code
def yX9_nextSeed : MethodName := ⟨RX9, "nextSeed", "(I)I"⟩
abbrev cX9_drawOf : ByteArray := prog_1_method_60_code
def yX9_drawOf : MethodName := ⟨RX9, "drawOf", "(II)I"⟩
abbrev cX9_writeLine : ByteArray := prog_1_method_61_code
def yX9_writeLine : MethodName := ⟨RX9, "writeLine", "(LSnowRecorder$Pack;I)V"⟩
abbrev cX9_kindWord : ByteArray := prog_1_method_62_code
def yX9_kindWord : MethodName := ⟨RX9, "kindWord", "(I)Ljava/lang/String;"⟩
abbrev cX9_part : ByteArray := prog_1_method_63_code
def yX9_part : MethodName := ⟨RX9, "part", "(JJ)I"⟩
abbrev cX9_burden : ByteArray := prog_1_method_64_code
def yX9_burden : MethodName := ⟨RX9, "burden", "(II)I"⟩
def RX10 : String := "SnowRecorderModel"
def TX10 : u_T := fun k => match k with
  | 0 => ("SnowRecorderModel", "rows", "[I", true)
  | 1 => ("SnowRecorderModel", "steep", "[I", true)
  | 2 => ("SnowRecorderModel", "open", "[I", true)
  | 3 => ("SnowRecorderModel", "air", "[I", true)
  | 4 => ("SnowRecorderModel", "falling", "[I", true)
  | 5 => ("SnowRecorderModel", "much", "[I", true)
  | 6 => ("SnowRecorderModel", "table", "[I", true)
  | 7 => ("SnowRecorderModel", "noteSlope", "[I", true)
  | 8 => ("SnowRecorderModel", "noteHours", "[I", true)
  | 9 => ("SnowRecorderModel", "noteDepth", "[I", true)
  | 10 => ("SnowRecorderModel", "refused", "[I", true)
  | 11 => ("SnowRecorderModel", "pits", "[I", true)
  | 12 => ("SnowRecorderModel", "thrown", "I", false)
  | 13 => ("SnowRecorderModel", "slopes", "I", false)
  | 14 => ("SnowRecorderModel", "hourMany", "I", false)
  | 15 => ("SnowRecorderModel", "acts", "I", false)
  | 16 => ("SnowRecorderModel", "firstAct", "I", false)
  | 17 => ("SnowRecorderModel", "notes", "I", false)
  | 18 => ("SnowRecorderModel", "imageActs", "I", false)
  | 19 => ("SnowRecorderModel", "imageFirst", "I", false)
  | 20 => ("SnowRecorderModel", "imageNotes", "I", false)
  | 21 => ("SnowRecorderModel", "hasImage", "I", false)
  | 22 => ("SnowRecorderModel", "tape", "[I", true)
  | 23 => ("SnowRecorderModel", "taped", "I", false)
  | 24 => ("SnowRecorderModel", "faultPlace", "I", false)
  | 25 => ("SnowRecorderModel", "warmer", "I", false)
  | 26 => ("SnowRecorderModel", "without", "I", false)
  | 27 => ("SnowRecorderModel", "otherHour", "I", false)
  | 28 => ("SnowRecorderModel", "otherMuch", "I", false)
  | 29 => ("SnowRecorderModel", "isClear", "Z", false)
  | 30 => ("SnowRecorderModel", "temps", "[I", true)
  | 31 => ("SnowRecorderModel", "kinds", "[I", true)
  | 32 => ("SnowRecorderModel", "next", "I", false)
  | 33 => ("SnowRecorderModel", "place", "I", false)
  | 34 => ("SnowRecorderModel", "size", "I", false)
  | 35 => ("SnowRecorderModel", "sort", "I", false)
  | 36 => ("SnowRecorderModel", "value", "I", false)
  | 37 => ("SnowRecorderModel", "word", "I", false)
  | 38 => ("SnowRecorderModel", "bad", "I", false)
  | 39 => ("SnowRecorderModel", "steep1", "[I", true)
  | 40 => ("SnowRecorderModel", "open1", "[I", true)
  | 41 => ("SnowRecorderModel", "many1", "[I", true)
  | 42 => ("SnowRecorderModel", "air1", "[I", true)
  | 43 => ("SnowRecorderModel", "falling1", "[I", true)
  | 44 => ("SnowRecorderModel", "much1", "[I", true)
  | 45 => ("SnowRecorderModel", "table1", "[I", true)
  | 46 => ("SnowRecorderModel", "layer1", "[I", true)
  | 47 => ("SnowRecorderModel", "slopes1", "I", false)
  | 48 => ("SnowRecorderModel", "hours1", "I", false)
  | 49 => ("SnowRecorderModel", "names1", "I", false)
  | 50 => ("SnowRecorderModel", "line", "[I", true)
  | 51 => ("SnowRecorderModel", "lined", "I", false)
  | 52 => ("SnowRecorderModel", "oneKinds", "[I", true)
  | 53 => ("SnowRecorderModel", "otherKinds", "[I", true)
  | 54 => ("SnowRecorderModel", "folded", "[I", true)
  | 55 => ("SnowRecorderModel", "ones", "I", false)
  | 56 => ("SnowRecorderModel", "others", "I", false)
  | 57 => ("SnowRecorderModel", "dayDepth", "[I", true)
  | 58 => ("SnowRecorderModel", "depths", "[I", true)
  | _ => ("SnowRecorderModel", "its", "I", false)
def tyX10 : Nat → FieldType := fun k => match k with
  | 0 => .array .int
  | 1 => .array .int
  | 2 => .array .int
  | 3 => .array .int
  | 4 => .array .int
  | 5 => .array .int
  | 6 => .array .int
  | 7 => .array .int
  | 8 => .array .int
  | 9 => .array .int
  | 10 => .array .int
  | 11 => .array .int
  | 12 => .int
  | 13 => .int
  | 14 => .int
  | 15 => .int
  | 16 => .int
  | 17 => .int
  | 18 => .int
  | 19 => .int
  | 20 => .int
  | 21 => .int
  | 22 => .array .int
  | 23 => .int
  | 24 => .int
  | 25 => .int
  | 26 => .int
  | 27 => .int
  | 28 => .int
  | 29 => .boolean
  | 30 => .array .int
  | 31 => .array .int
  | 32 => .int
  | 33 => .int
  | 34 => .int
  | 35 => .int
  | 36 => .int
  | 37 => .int
  | 38 => .int
  | 39 => .array .int
  | 40 => .array .int
  | 41 => .array .int
  | 42 => .array .int
  | 43 => .array .int
  | 44 => .array .int
  | 45 => .array .int
  | 46 => .array .int
  | 47 => .int
  | 48 => .int
  | 49 => .int
  | 50 => .array .int
  | 51 => .int
  | 52 => .array .int
  | 53 => .array .int
  | 54 => .array .int
  | 55 => .int
  | 56 => .int
  | 57 => .array .int
  | 58 => .array .int
  | _ => .int
theorem nmX10 : ∀ a, a < 60 → ∀ b, b < 60 → a ≠ b → (TX10 a).2.1 ≠ (TX10 b).2.1 := by decide +kernel
theorem tyX10_ok : ∀ k, k < 60 → parseFieldDescriptor (TX10 k).2.2.1 = some (tyX10 k) := by decide +kernel
abbrev cX10_init : ByteArray := prog_12_method_1_code
def yX10_init : MethodName := ⟨RX10, "<init>", "()V"⟩
abbrev cX10_laysTable : ByteArray := prog_12_method_2_code
def yX10_laysTable : MethodName := ⟨RX10, "laysTable", "()V"⟩
abbrev cX10_right : ByteArray := prog_12_method_4_code
def yX10_right : MethodName := ⟨RX10, "right", "(ZI)Z"⟩
abbrev cX10_within : ByteArray := prog_12_method_5_code
def yX10_within : MethodName := ⟨RX10, "within", "(III)Z"⟩
abbrev cX10_lesser : ByteArray := prog_12_method_6_code
def yX10_lesser : MethodName := ⟨RX10, "lesser", "(II)I"⟩
abbrev cX10_greater : ByteArray := prog_12_method_7_code
def yX10_greater : MethodName := ⟨RX10, "greater", "(II)I"⟩
abbrev cX10_span : ByteArray := prog_12_method_8_code
def yX10_span : MethodName := ⟨RX10, "span", "(I)I"⟩
abbrev cX10_copies : ByteArray := prog_12_method_9_code
def yX10_copies : MethodName := ⟨RX10, "copies", "(III)V"⟩
abbrev cX10_at : ByteArray := prog_12_method_10_code
def yX10_at : MethodName := ⟨RX10, "at", "(III)I"⟩
abbrev cX10_many : ByteArray := prog_12_method_11_code
def yX10_many : MethodName := ⟨RX10, "many", "(II)I"⟩
abbrev cX10_setsMany : ByteArray := prog_12_method_12_code
def yX10_setsMany : MethodName := ⟨RX10, "setsMany", "(III)V"⟩
abbrev cX10_runsOff : ByteArray := prog_12_method_13_code
def yX10_runsOff : MethodName := ⟨RX10, "runsOff", "(III)V"⟩
abbrev cX10_of : ByteArray := prog_12_method_14_code
def yX10_of : MethodName := ⟨RX10, "of", "(IIII)I"⟩
abbrev cX10_sets : ByteArray := prog_12_method_15_code
def yX10_sets : MethodName := ⟨RX10, "sets", "(IIIII)V"⟩
abbrev cX10_weight : ByteArray := prog_12_method_16_code
def yX10_weight : MethodName := ⟨RX10, "weight", "(III)I"⟩
abbrev cX10_above : ByteArray := prog_12_method_17_code
def yX10_above : MethodName := ⟨RX10, "above", "(III)I"⟩
abbrev cX10_sum : ByteArray := prog_12_method_18_code
def yX10_sum : MethodName := ⟨RX10, "sum", "(III)I"⟩
abbrev cX10_joins : ByteArray := prog_12_method_19_code
def yX10_joins : MethodName := ⟨RX10, "joins", "(II)V"⟩
abbrev cX10_comes : ByteArray := prog_12_method_20_code
def yX10_comes : MethodName := ⟨RX10, "comes", "(IIIIII)V"⟩
abbrev cX10_drops : ByteArray := prog_12_method_21_code
def yX10_drops : MethodName := ⟨RX10, "drops", "(IIIII)V"⟩
abbrev cX10_hourOf : ByteArray := prog_12_method_22_code
def yX10_hourOf : MethodName := ⟨RX10, "hourOf", "(I)I"⟩
abbrev cX10_airOf : ByteArray := prog_12_method_23_code
def yX10_airOf : MethodName := ⟨RX10, "airOf", "(I)I"⟩
abbrev cX10_fallsNow : ByteArray := prog_12_method_24_code
def yX10_fallsNow : MethodName := ⟨RX10, "fallsNow", "(III)V"⟩
abbrev cX10_warms : ByteArray := prog_12_method_25_code
def yX10_warms : MethodName := ⟨RX10, "warms", "(III)V"⟩
abbrev cX10_topped : ByteArray := prog_12_method_26_code
def yX10_topped : MethodName := ⟨RX10, "topped", "(III)V"⟩
abbrev cX10_evens : ByteArray := prog_12_method_27_code
def yX10_evens : MethodName := ⟨RX10, "evens", "(II)V"⟩
abbrev cX10_freezes : ByteArray := prog_12_method_28_code
def yX10_freezes : MethodName := ⟨RX10, "freezes", "(I)V"⟩
abbrev cX10_sinks : ByteArray := prog_12_method_29_code
def yX10_sinks : MethodName := ⟨RX10, "sinks", "(II)V"⟩
abbrev cX10_load : ByteArray := prog_12_method_30_code
def yX10_load : MethodName := ⟨RX10, "load", "(III)I"⟩
abbrev cX10_presses : ByteArray := prog_12_method_31_code
def yX10_presses : MethodName := ⟨RX10, "presses", "(II)V"⟩
abbrev cX10_grade : ByteArray := prog_12_method_32_code
def yX10_grade : MethodName := ⟨RX10, "grade", "(IIII)I"⟩
abbrev cX10_kindThen : ByteArray := prog_12_method_33_code
def yX10_kindThen : MethodName := ⟨RX10, "kindThen", "(IIII)I"⟩
abbrev cX10_ages : ByteArray := prog_12_method_34_code
def yX10_ages : MethodName := ⟨RX10, "ages", "(III)V"⟩
abbrev cX10_hour : ByteArray := prog_12_method_35_code
def yX10_hour : MethodName := ⟨RX10, "hour", "(I)V"⟩
abbrev cX10_goes : ByteArray := prog_12_method_36_code
def yX10_goes : MethodName := ⟨RX10, "goes", "(II)V"⟩
abbrev cX10_strength : ByteArray := prog_12_method_37_code
def yX10_strength : MethodName := ⟨RX10, "strength", "(III)I"⟩
abbrev cX10_burden : ByteArray := prog_12_method_38_code
def yX10_burden : MethodName := ⟨RX10, "burden", "(IIIII)I"⟩
abbrev cX10_ratio : ByteArray := prog_12_method_39_code
def yX10_ratio : MethodName := ⟨RX10, "ratio", "(IIIII)I"⟩
abbrev cX10_weakestBy : ByteArray := prog_12_method_40_code
def yX10_weakestBy : MethodName := ⟨RX10, "weakestBy", "(IIII)I"⟩
abbrev cX10_weakest : ByteArray := prog_12_method_41_code
def yX10_weakest : MethodName := ⟨RX10, "weakest", "(II)I"⟩
abbrev cX10_leastRatioBy : ByteArray := prog_12_method_42_code
def yX10_leastRatioBy : MethodName := ⟨RX10, "leastRatioBy", "(IIII)I"⟩
abbrev cX10_leastRatio : ByteArray := prog_12_method_43_code
def yX10_leastRatio : MethodName := ⟨RX10, "leastRatio", "(II)I"⟩
abbrev cX10_isUnstable : ByteArray := prog_12_method_44_code
def yX10_isUnstable : MethodName := ⟨RX10, "isUnstable", "(II)Z"⟩
abbrev cX10_isLetter : ByteArray := prog_12_method_45_code
def yX10_isLetter : MethodName := ⟨RX10, "isLetter", "(I)Z"⟩
abbrev cX10_byteAt : ByteArray := prog_12_method_46_code
def yX10_byteAt : MethodName := ⟨RX10, "byteAt", "(I)I"⟩
abbrev cX10_wordFrom : ByteArray := prog_12_method_47_code
def yX10_wordFrom : MethodName := ⟨RX10, "wordFrom", "(II)I"⟩
abbrev cX10_go : ByteArray := prog_12_method_48_code
def yX10_go : MethodName := ⟨RX10, "go", "()V"⟩
abbrev cX10_wants : ByteArray := prog_12_method_49_code
def yX10_wants : MethodName := ⟨RX10, "wants", "(ZI)Z"⟩
abbrev cX10_number : ByteArray := prog_12_method_50_code
def yX10_number : MethodName := ⟨RX10, "number", "(II)I"⟩
abbrev cX10_is : ByteArray := prog_12_method_51_code
def yX10_is : MethodName := ⟨RX10, "is", "(I)Z"⟩
abbrev cX10_isKind : ByteArray := prog_12_method_52_code
def yX10_isKind : MethodName := ⟨RX10, "isKind", "()Z"⟩
abbrev cX10_kindHere : ByteArray := prog_12_method_53_code
def yX10_kindHere : MethodName := ⟨RX10, "kindHere", "()I"⟩
abbrev cX10_slope1 : ByteArray := prog_12_method_54_code
def yX10_slope1 : MethodName := ⟨RX10, "slope1", "()V"⟩
abbrev cX10_layer1 : ByteArray := prog_12_method_55_code
def yX10_layer1 : MethodName := ⟨RX10, "layer1", "()V"⟩
abbrev cX10_hour1 : ByteArray := prog_12_method_56_code
def yX10_hour1 : MethodName := ⟨RX10, "hour1", "()V"⟩
abbrev cX10_table1 : ByteArray := prog_12_method_57_code
def yX10_table1 : MethodName := ⟨RX10, "table1", "()V"⟩
abbrev cX10_clause1 : ByteArray := prog_12_method_58_code
def yX10_clause1 : MethodName := ⟨RX10, "clause1", "()V"⟩
abbrev cX10_feed : ByteArray := prog_12_method_59_code
def yX10_feed : MethodName := ⟨RX10, "feed", "(IIIII)I"⟩
abbrev cX10_snow : ByteArray := prog_12_method_60_code
def yX10_snow : MethodName := ⟨RX10, "snow", "(I)I"⟩
abbrev cX10_becomes : ByteArray := prog_12_method_61_code
def yX10_becomes : MethodName := ⟨RX10, "becomes", "()V"⟩
abbrev cX10_fault : ByteArray := prog_12_method_62_code
def yX10_fault : MethodName := ⟨RX10, "fault", "()I"⟩
abbrev cX10_allLayers : ByteArray := prog_12_method_63_code
def yX10_allLayers : MethodName := ⟨RX10, "allLayers", "()I"⟩
abbrev cX10_allRunoff : ByteArray := prog_12_method_64_code
def yX10_allRunoff : MethodName := ⟨RX10, "allRunoff", "()I"⟩
abbrev cX10_allWeight : ByteArray := prog_12_method_65_code
def yX10_allWeight : MethodName := ⟨RX10, "allWeight", "()I"⟩
abbrev cX10_worst : ByteArray := prog_12_method_66_code
def yX10_worst : MethodName := ⟨RX10, "worst", "()I"⟩
abbrev cX10_count : ByteArray := prog_12_method_67_code
def yX10_count : MethodName := ⟨RX10, "count", "(I)I"⟩
abbrev cX10_forecast : ByteArray := prog_12_method_68_code
def yX10_forecast : MethodName := ⟨RX10, "forecast", "(II)I"⟩
abbrev cX10_isSlope : ByteArray := prog_12_method_69_code
def yX10_isSlope : MethodName := ⟨RX10, "isSlope", "(I)Z"⟩
abbrev cX10_slope : ByteArray := prog_12_method_70_code
def yX10_slope : MethodName := ⟨RX10, "slope", "(II)I"⟩
abbrev cX10_isLayer : ByteArray := prog_12_method_71_code
def yX10_isLayer : MethodName := ⟨RX10, "isLayer", "(II)Z"⟩
abbrev cX10_layer : ByteArray := prog_12_method_72_code
def yX10_layer : MethodName := ⟨RX10, "layer", "(III)I"⟩
abbrev cX10_says : ByteArray := prog_12_method_73_code
def yX10_says : MethodName := ⟨RX10, "says", "(I)V"⟩
abbrev cX10_saysNumber : ByteArray := prog_12_method_74_code
def yX10_saysNumber : MethodName := ⟨RX10, "saysNumber", "(I)V"⟩
abbrev cX10_saysKind : ByteArray := prog_12_method_75_code
def yX10_saysKind : MethodName := ⟨RX10, "saysKind", "(I)V"⟩
abbrev cX10_saysWord : ByteArray := prog_12_method_76_code
def yX10_saysWord : MethodName := ⟨RX10, "saysWord", "(II)V"⟩
abbrev cX10_told : ByteArray := prog_12_method_77_code
def yX10_told : MethodName := ⟨RX10, "told", "(III)I"⟩
abbrev cX10_keptAt : ByteArray := prog_12_method_78_code
def yX10_keptAt : MethodName := ⟨RX10, "keptAt", "(II)I"⟩
abbrev cX10_refuses : ByteArray := prog_12_method_79_code
def yX10_refuses : MethodName := ⟨RX10, "refuses", "(I)I"⟩
abbrev cX10_keeps : ByteArray := prog_12_method_80_code
def yX10_keeps : MethodName := ⟨RX10, "keeps", "()V"⟩
abbrev cX10_hours : ByteArray := prog_12_method_81_code
def yX10_hours : MethodName := ⟨RX10, "hours", "(I)I"⟩
abbrev cX10_fall : ByteArray := prog_12_method_82_code
def yX10_fall : MethodName := ⟨RX10, "fall", "(III)I"⟩
abbrev cX10_digs : ByteArray := prog_12_method_83_code
def yX10_digs : MethodName := ⟨RX10, "digs", "(II)V"⟩
abbrev cX10_dig : ByteArray := prog_12_method_84_code
def yX10_dig : MethodName := ⟨RX10, "dig", "(I)I"⟩
abbrev cX10_slides : ByteArray := prog_12_method_85_code
def yX10_slides : MethodName := ⟨RX10, "slides", "(II)I"⟩
abbrev cX10_slide : ByteArray := prog_12_method_86_code
def yX10_slide : MethodName := ⟨RX10, "slide", "(I)I"⟩
abbrev cX10_pit : ByteArray := prog_12_method_87_code
def yX10_pit : MethodName := ⟨RX10, "pit", "(I)I"⟩
abbrev cX10_undo : ByteArray := prog_12_method_88_code
def yX10_undo : MethodName := ⟨RX10, "undo", "()I"⟩
abbrev cX10_tries : ByteArray := prog_12_method_89_code
def yX10_tries : MethodName := ⟨RX10, "tries", "()V"⟩
abbrev cX10_then : ByteArray := prog_12_method_90_code
def yX10_then : MethodName := ⟨RX10, "then", "(III)I"⟩
abbrev cX10_once : ByteArray := prog_12_method_91_code
def yX10_once : MethodName := ⟨RX10, "once", "(II)I"⟩
abbrev cX10_isNamed : ByteArray := prog_12_method_92_code
def yX10_isNamed : MethodName := ⟨RX10, "isNamed", "(II)Z"⟩
abbrev cX10_gone : ByteArray := prog_12_method_93_code
def yX10_gone : MethodName := ⟨RX10, "gone", "(I)I"⟩
abbrev cX10_extra : ByteArray := prog_12_method_94_code
def yX10_extra : MethodName := ⟨RX10, "extra", "(I)I"⟩
abbrev cX10_stands : ByteArray := prog_12_method_95_code
def yX10_stands : MethodName := ⟨RX10, "stands", "(II)I"⟩
abbrev cX10_toLoad : ByteArray := prog_12_method_96_code
def yX10_toLoad : MethodName := ⟨RX10, "toLoad", "(I)I"⟩
abbrev cX10_steepest : ByteArray := prog_12_method_97_code
def yX10_steepest : MethodName := ⟨RX10, "steepest", "(I)I"⟩
abbrev cX10_toWarm : ByteArray := prog_12_method_98_code
def yX10_toWarm : MethodName := ⟨RX10, "toWarm", "(II)I"⟩
abbrev cX10_ratioBehind : ByteArray := prog_12_method_99_code
def yX10_ratioBehind : MethodName := ⟨RX10, "ratioBehind", "(II)I"⟩
abbrev cX10_matters : ByteArray := prog_12_method_100_code
def yX10_matters : MethodName := ⟨RX10, "matters", "(III)I"⟩
abbrev cX10_isPit : ByteArray := prog_12_method_101_code
def yX10_isPit : MethodName := ⟨RX10, "isPit", "(I)Z"⟩
abbrev cX10_pitMany : ByteArray := prog_12_method_102_code
def yX10_pitMany : MethodName := ⟨RX10, "pitMany", "(I)I"⟩
abbrev cX10_inPit : ByteArray := prog_12_method_103_code
def yX10_inPit : MethodName := ⟨RX10, "inPit", "(III)I"⟩
abbrev cX10_pitOf : ByteArray := prog_12_method_104_code
def yX10_pitOf : MethodName := ⟨RX10, "pitOf", "(II)I"⟩
abbrev cX10_namesInBoth : ByteArray := prog_12_method_105_code
def yX10_namesInBoth : MethodName := ⟨RX10, "namesInBoth", "(II)I"⟩
abbrev cX10_laysPit : ByteArray := prog_12_method_106_code
def yX10_laysPit : MethodName := ⟨RX10, "laysPit", "(I[I)V"⟩
abbrev cX10_folds : ByteArray := prog_12_method_107_code
def yX10_folds : MethodName := ⟨RX10, "folds", "(Z)I"⟩
abbrev cX10_weakestName : ByteArray := prog_12_method_108_code
def yX10_weakestName : MethodName := ⟨RX10, "weakestName", "(I)I"⟩
abbrev cX10_compare : ByteArray := prog_12_method_109_code
def yX10_compare : MethodName := ⟨RX10, "compare", "(III)I"⟩
abbrev cX10_nearest : ByteArray := prog_12_method_110_code
def yX10_nearest : MethodName := ⟨RX10, "nearest", "(I)I"⟩
abbrev cX10_note : ByteArray := prog_12_method_111_code
def yX10_note : MethodName := ⟨RX10, "note", "(III)I"⟩
abbrev cX10_isNoted : ByteArray := prog_12_method_112_code
def yX10_isNoted : MethodName := ⟨RX10, "isNoted", "()Z"⟩
abbrev cX10_isGuess : ByteArray := prog_12_method_113_code
def yX10_isGuess : MethodName := ⟨RX10, "isGuess", "(II)Z"⟩
abbrev cX10_falls : ByteArray := prog_12_method_114_code
def yX10_falls : MethodName := ⟨RX10, "falls", "(I)I"⟩
abbrev cX10_unlike : ByteArray := prog_12_method_115_code
def yX10_unlike : MethodName := ⟨RX10, "unlike", "(II)I"⟩
abbrev cX10_look : ByteArray := prog_12_method_116_code
def yX10_look : MethodName := ⟨RX10, "look", "(I)I"⟩
abbrev cX10_forget : ByteArray := prog_12_method_117_code
def yX10_forget : MethodName := ⟨RX10, "forget", "()V"⟩
abbrev cX10_odds : ByteArray := prog_12_method_118_code
def yX10_odds : MethodName := ⟨RX10, "odds", "(III)I"⟩
abbrev cX10_draw : ByteArray := prog_12_method_119_code
def yX10_draw : MethodName := ⟨RX10, "draw", "(I)I"⟩
abbrev cX10_year : ByteArray := prog_12_method_120_code
def yX10_year : MethodName := ⟨RX10, "year", "()V"⟩
abbrev cX10_years : ByteArray := prog_12_method_121_code
def yX10_years : MethodName := ⟨RX10, "years", "(III)I"⟩
abbrev cX10_image : ByteArray := prog_12_method_122_code
def yX10_image : MethodName := ⟨RX10, "image", "()V"⟩
abbrev cX10_restore : ByteArray := prog_12_method_123_code
def yX10_restore : MethodName := ⟨RX10, "restore", "()Z"⟩
def RJ5 : String := "java/lang/AbstractStringBuilder"
abbrev cJ5_init_d00df : ByteArray := prog_14_method_2_code
def yJ5_init_d00df : MethodName := ⟨RJ5, "<init>", "(I)V"⟩
abbrev cJ5_length_8abf5 : ByteArray := prog_14_method_6_code
def yJ5_length_8abf5 : MethodName := ⟨RJ5, "length", "()I"⟩
abbrev cJ5_ensureCapacityInternal_d00df : ByteArray := prog_14_method_9_code
def yJ5_ensureCapacityInternal_d00df : MethodName := ⟨RJ5, "ensureCapacityInternal", "(I)V"⟩
abbrev cJ5_newCapacity_0f7a4 : ByteArray := prog_14_method_10_code
def yJ5_newCapacity_0f7a4 : MethodName := ⟨RJ5, "newCapacity", "(I)I"⟩
abbrev cJ5_setLength_d00df : ByteArray := prog_14_method_13_code
def yJ5_setLength_d00df : MethodName := ⟨RJ5, "setLength", "(I)V"⟩
abbrev cJ5_charAt_5068e : ByteArray := prog_14_method_14_code
def yJ5_charAt_5068e : MethodName := ⟨RJ5, "charAt", "(I)C"⟩
abbrev cJ5_append_cf1ce : ByteArray := prog_14_method_22_code
def yJ5_append_cf1ce : MethodName := ⟨RJ5, "append", "(Ljava/lang/String;)Ljava/lang/AbstractStringBuilder;"⟩
abbrev cJ5_append_3fe6f : ByteArray := prog_14_method_31_code
def yJ5_append_3fe6f : MethodName := ⟨RJ5, "append", "(C)Ljava/lang/AbstractStringBuilder;"⟩
abbrev cJ5_append_c97b9 : ByteArray := prog_14_method_32_code
def yJ5_append_c97b9 : MethodName := ⟨RJ5, "append", "(I)Ljava/lang/AbstractStringBuilder;"⟩
abbrev cJ5_isLatin1_aae02 : ByteArray := prog_14_method_68_code
def yJ5_isLatin1_aae02 : MethodName := ⟨RJ5, "isLatin1", "()Z"⟩
abbrev cJ5_inflateIfNeededFor_a7421 : ByteArray := prog_14_method_71_code
def yJ5_inflateIfNeededFor_a7421 : MethodName := ⟨RJ5, "inflateIfNeededFor", "(Ljava/lang/String;)V"⟩
abbrev cJ5_putStringAt_47b60 : ByteArray := prog_14_method_73_code
def yJ5_putStringAt_47b60 : MethodName := ⟨RJ5, "putStringAt", "(ILjava/lang/String;)V"⟩
def RJ6 : String := "java/lang/Integer"
abbrev cJ6_getChars_ba4f3 : ByteArray := prog_21_method_12_code
def yJ6_getChars_ba4f3 : MethodName := ⟨RJ6, "getChars", "(II[B)I"⟩
abbrev cJ6_stringSize_0f7a4 : ByteArray := prog_21_method_13_code
def yJ6_stringSize_0f7a4 : MethodName := ⟨RJ6, "stringSize", "(I)I"⟩
def RJ9 : String := "java/lang/Math"
abbrev cJ9_floorMod_7cf53 : ByteArray := prog_22_method_50_code
def yJ9_floorMod_7cf53 : MethodName := ⟨RJ9, "floorMod", "(II)I"⟩
def RJ0 : String := "java/lang/String"
def TJ0 : u_T := fun k => match k with
  | 0 => ("java/lang/String", "value", "[B", true)
  | 1 => ("java/lang/String", "coder", "B", true)
  | 2 => ("java/lang/String", "hash", "I", false)
  | _ => ("java/lang/String", "hashIsZero", "Z", false)
abbrev cJ0_length_8abf5 : ByteArray := prog_25_method_54_code
def yJ0_length_8abf5 : MethodName := ⟨RJ0, "length", "()I"⟩
abbrev cJ0_charAt_5068e : ByteArray := prog_25_method_56_code
def yJ0_charAt_5068e : MethodName := ⟨RJ0, "charAt", "(I)C"⟩
abbrev cJ0_getBytes_840e7 : ByteArray := prog_25_method_147_code
def yJ0_getBytes_840e7 : MethodName := ⟨RJ0, "getBytes", "([BIB)V"⟩
abbrev cJ0_coder_7d493 : ByteArray := prog_25_method_152_code
def yJ0_coder_7d493 : MethodName := ⟨RJ0, "coder", "()B"⟩
abbrev cJ0_isLatin1_aae02 : ByteArray := prog_25_method_154_code
def yJ0_isLatin1_aae02 : MethodName := ⟨RJ0, "isLatin1", "()Z"⟩
abbrev cJ0_checkIndex_df160 : ByteArray := prog_25_method_155_code
def yJ0_checkIndex_df160 : MethodName := ⟨RJ0, "checkIndex", "(II)V"⟩
def RJ4 : String := "java/lang/StringBuilder"
def TJ4 : u_T := fun k => match k with
  | 0 => ("java/lang/AbstractStringBuilder", "value", "[B", false)
  | 1 => ("java/lang/AbstractStringBuilder", "coder", "B", false)
  | 2 => ("java/lang/AbstractStringBuilder", "maybeLatin1", "Z", false)
  | _ => ("java/lang/AbstractStringBuilder", "count", "I", false)
def tyJ4 : Nat → FieldType := fun k => match k with
  | 0 => .array .byte
  | 1 => .byte
  | 2 => .boolean
  | _ => .int
theorem nmJ4 : ∀ a, a < 4 → ∀ b, b < 4 → a ≠ b → (TJ4 a).2.1 ≠ (TJ4 b).2.1 := by decide +kernel
theorem tyJ4_ok : ∀ k, k < 4 → parseFieldDescriptor (TJ4 k).2.2.1 = some (tyJ4 k) := by decide +kernel
abbrev cJ4_init_da8c8 : ByteArray := prog_26_method_1_code
def yJ4_init_da8c8 : MethodName := ⟨RJ4, "<init>", "()V"⟩
abbrev cJ4_append_15ec4 : ByteArray := prog_26_method_7_code
def yJ4_append_15ec4 : MethodName := ⟨RJ4, "append", "(Ljava/lang/String;)Ljava/lang/StringBuilder;"⟩
abbrev cJ4_append_cf468 : ByteArray := prog_26_method_14_code
def yJ4_append_cf468 : MethodName := ⟨RJ4, "append", "(C)Ljava/lang/StringBuilder;"⟩
abbrev cJ4_append_bf812 : ByteArray := prog_26_method_15_code
def yJ4_append_bf812 : MethodName := ⟨RJ4, "append", "(I)Ljava/lang/StringBuilder;"⟩
abbrev cJ4_charAt_5068e : ByteArray := prog_26_method_88_code
def yJ4_charAt_5068e : MethodName := ⟨RJ4, "charAt", "(I)C"⟩
abbrev cJ4_setLength_d00df : ByteArray := prog_26_method_89_code
def yJ4_setLength_d00df : MethodName := ⟨RJ4, "setLength", "(I)V"⟩
abbrev cJ4_length_8abf5 : ByteArray := prog_26_method_93_code
def yJ4_length_8abf5 : MethodName := ⟨RJ4, "length", "()I"⟩
def RJ1 : String := "java/lang/StringLatin1"
abbrev cJ1_charAt_3b067 : ByteArray := prog_27_method_2_code
def yJ1_charAt_3b067 : MethodName := ⟨RJ1, "charAt", "([BI)C"⟩
abbrev cJ1_canEncode_fc78d : ByteArray := prog_27_method_3_code
def yJ1_canEncode_fc78d : MethodName := ⟨RJ1, "canEncode", "(C)Z"⟩
def RJ7 : String := "java/util/Arrays"
abbrev cJ7_copyOf_9075b : ByteArray := prog_33_method_121_code
def yJ7_copyOf_9075b : MethodName := ⟨RJ7, "copyOf", "([BI)[B"⟩
def RJ8 : String := "jdk/internal/util/ArraysSupport"
abbrev cJ8_newLength_cabcc : ByteArray := prog_35_method_27_code
def yJ8_newLength_cabcc : MethodName := ⟨RJ8, "newLength", "(III)I"⟩
def RJ3 : String := "jdk/internal/util/Preconditions"
abbrev cJ3_checkIndex_8e157 : ByteArray := prog_36_method_11_code
def yJ3_checkIndex_8e157 : MethodName := ⟨RJ3, "checkIndex", "(IILjava/util/function/BiFunction;)I"⟩
def RL : String := "SnowRecorderLaw"
abbrev cL_snow : ByteArray := method_3_code
def yL_snow : MethodName := ⟨RL, "snow", "(LSnowRecorder;I[J)I"⟩
abbrev cL_count : ByteArray := method_4_code
def yL_count : MethodName := ⟨RL, "count", "(LSnowRecorder;I[J)I"⟩
abbrev cL_forecast : ByteArray := method_5_code
def yL_forecast : MethodName := ⟨RL, "forecast", "(LSnowRecorder;II[J)I"⟩
abbrev cL_slope : ByteArray := method_6_code
def yL_slope : MethodName := ⟨RL, "slope", "(LSnowRecorder;II[J)I"⟩
abbrev cL_layer : ByteArray := method_7_code
def yL_layer : MethodName := ⟨RL, "layer", "(LSnowRecorder;III[J)I"⟩
abbrev cL_told : ByteArray := method_8_code
def yL_told : MethodName := ⟨RL, "told", "(LSnowRecorder;III[J)I"⟩
abbrev cL_then : ByteArray := method_9_code
def yL_then : MethodName := ⟨RL, "then", "(LSnowRecorder;III[J)I"⟩
abbrev cL_once : ByteArray := method_10_code
def yL_once : MethodName := ⟨RL, "once", "(LSnowRecorder;II[J)I"⟩
abbrev cL_gone : ByteArray := method_11_code
def yL_gone : MethodName := ⟨RL, "gone", "(LSnowRecorder;I[J)I"⟩
abbrev cL_stands : ByteArray := method_12_code
def yL_stands : MethodName := ⟨RL, "stands", "(LSnowRecorder;II[J)I"⟩
abbrev cL_toLoad : ByteArray := method_13_code
def yL_toLoad : MethodName := ⟨RL, "toLoad", "(LSnowRecorder;I[J)I"⟩
abbrev cL_steepest : ByteArray := method_14_code
def yL_steepest : MethodName := ⟨RL, "steepest", "(LSnowRecorder;I[J)I"⟩
abbrev cL_toWarm : ByteArray := method_15_code
def yL_toWarm : MethodName := ⟨RL, "toWarm", "(LSnowRecorder;II[J)I"⟩
abbrev cL_matters : ByteArray := method_16_code
def yL_matters : MethodName := ⟨RL, "matters", "(LSnowRecorder;III[J)I"⟩
abbrev cL_pitOf : ByteArray := method_17_code
def yL_pitOf : MethodName := ⟨RL, "pitOf", "(LSnowRecorder;II[J)I"⟩
abbrev cL_compare : ByteArray := method_18_code
def yL_compare : MethodName := ⟨RL, "compare", "(LSnowRecorder;III[J)I"⟩
abbrev cL_nearest : ByteArray := method_19_code
def yL_nearest : MethodName := ⟨RL, "nearest", "(LSnowRecorder;I[J)I"⟩
abbrev cL_falls : ByteArray := method_20_code
def yL_falls : MethodName := ⟨RL, "falls", "(LSnowRecorder;I[J)I"⟩
abbrev cL_look : ByteArray := method_21_code
def yL_look : MethodName := ⟨RL, "look", "(LSnowRecorder;I[J)I"⟩
abbrev cL_odds : ByteArray := method_22_code
def yL_odds : MethodName := ⟨RL, "odds", "(LSnowRecorder;III[J)I"⟩
abbrev cL_years : ByteArray := method_23_code
def yL_years : MethodName := ⟨RL, "years", "(LSnowRecorder;III[J)I"⟩
abbrev cL_law : ByteArray := code
abbrev vwCl : List vw_C := [(RJ0, TJ0, 4), (RJ4, TJ4, 4), (RX0, TX0, 4), (RX1, TX1, 1), (RX2, TX2, 4), (RX3, TX3, 3), (RX4, TX4, 3), (RX5, TX5, 9), (RX6, TX6, 6), (RX7, TX7, 9), (RX8, TX8, 7), (RX9, TX9, 14), (RX10, TX10, 60)]
end
section
-- 03.base.lean.txt
/-! ===== numbers: every int of the program is zI z, z an integer; longs zJ z ===== -/
def zI (z : Int) : Int32 := Int32.ofInt z
def zJ (z : Int) : Int64 := Int64.ofInt z
theorem zI_add (a b : Int) : zI a + zI b = zI (a + b) := (Int32.ofInt_add a b).symm
theorem zI_sub (a b : Int) : zI a - zI b = zI (a - b) := (Int32.ofInt_sub a b).symm
theorem zI_mul (a b : Int) : zI a * zI b = zI (a * b) := (Int32.ofInt_mul a b).symm
theorem zI_neg (a : Int) : -zI a = zI (-a) := (Int32.ofInt_neg a).symm
theorem zJ_add (a b : Int) : zJ a + zJ b = zJ (a + b) := (Int64.ofInt_add a b).symm
theorem zJ_sub (a b : Int) : zJ a - zJ b = zJ (a - b) := (Int64.ofInt_sub a b).symm
theorem zJ_mul (a b : Int) : zJ a * zJ b = zJ (a * b) := (Int64.ofInt_mul a b).symm
theorem zI_to {z : Int} (h : -2147483648 ≤ z ∧ z ≤ 2147483647) : (zI z).toInt = z := Int32.toInt_ofInt_of_le (by omega) (by omega)
theorem zJ_to {z : Int} (h : -9223372036854775808 ≤ z ∧ z ≤ 9223372036854775807) : (zJ z).toInt = z := Int64.toInt_ofInt_of_le (by omega) (by omega)
theorem zI_of (x : Int32) : ∃ z : Int, x = zI z ∧ -2147483648 ≤ z ∧ z ≤ 2147483647 := ⟨x.toInt, (Int32.ofInt_toInt x).symm, by have := x.le_toInt; omega, by have := x.toInt_lt; omega⟩
theorem zI_lt {a b : Int} (ha : -2147483648 ≤ a ∧ a ≤ 2147483647) (hb : -2147483648 ≤ b ∧ b ≤ 2147483647) : zI a < zI b ↔ a < b := by rw [Int32.lt_iff_toInt_lt, zI_to ha, zI_to hb]
theorem zI_le {a b : Int} (ha : -2147483648 ≤ a ∧ a ≤ 2147483647) (hb : -2147483648 ≤ b ∧ b ≤ 2147483647) : zI a ≤ zI b ↔ a ≤ b := by rw [Int32.le_iff_toInt_le, zI_to ha, zI_to hb]
theorem zI_eq {a b : Int} (ha : -2147483648 ≤ a ∧ a ≤ 2147483647) (hb : -2147483648 ≤ b ∧ b ≤ 2147483647) : zI a = zI b ↔ a = b := by rw [← Int32.toInt_inj, zI_to ha, zI_to hb]
theorem zI_0 : zI 0 = 0 := rfl
theorem zJ_lt {a b : Int} (ha : -9223372036854775808 ≤ a ∧ a ≤ 9223372036854775807) (hb : -9223372036854775808 ≤ b ∧ b ≤ 9223372036854775807) : zJ a < zJ b ↔ a < b := by rw [Int64.lt_iff_toInt_lt, zJ_to ha, zJ_to hb]
theorem zJ_eq {a b : Int} (ha : -9223372036854775808 ≤ a ∧ a ≤ 9223372036854775807) (hb : -9223372036854775808 ≤ b ∧ b ≤ 9223372036854775807) : zJ a = zJ b ↔ a = b := by rw [← Int64.toInt_inj, zJ_to ha, zJ_to hb]
theorem zI_div {a b : Int} (ha : -2147483648 ≤ a ∧ a ≤ 2147483647) (hb : -2147483648 ≤ b ∧ b ≤ 2147483647) : zI a / zI b = zI (a.tdiv b) := (Int32.ofInt_tdiv (by show (-2147483648 : Int) ≤ a; omega) (by show a ≤ (2147483647 : Int); omega) (by show (-2147483648 : Int) ≤ b; omega) (by show b ≤ (2147483647 : Int); omega)).symm
theorem zI_rem {a b : Int} (ha : -2147483648 ≤ a ∧ a ≤ 2147483647) (hb : -2147483648 ≤ b ∧ b ≤ 2147483647) : zI a - zI a / zI b * zI b = zI (a.tmod b) := by rw [zI_div ha hb, zI_mul, zI_sub, Int.tmod_def, Int.mul_comm]
theorem zI_nat (k : Nat) : Int32.ofNat k = zI (k : Int) := Int32.ofInt_eq_ofNat.symm
theorem zI_clamp {z : Int} (h : 0 ≤ z ∧ z ≤ 2147483647) : (zI z).toNatClampNeg = z.toNat := by
  show (zI z).toInt.toNat = _
  rw [zI_to (by omega)]
theorem zI_clN {k : Nat} (h : k ≤ 2147483647) : (zI (k : Int)).toNatClampNeg = k := by rw [zI_clamp (by omega)]; omega
theorem zI_in {k n : Nat} (hk : k < n) (hn : n ≤ 2147483647) : vp_in (zI (k : Int)) n := by
  rw [vp_in_iff, zI_to (by omega)]
  omega
theorem zI_l {z : Int} (h : -2147483648 ≤ z ∧ z ≤ 2147483647) : (zI z).toInt64 = zJ z := by
  show (zI z).toInt64 = Int64.ofInt z
  rw [← Int64.ofInt_int32ToInt, zI_to h]
theorem zJ_i (z : Int) : (zJ z).toInt32 = zI z := Int64.toInt32_ofInt
theorem zI_b8 {x : Int} (h : -128 ≤ x ∧ x ≤ 127) : (zI x).toInt8.toInt32 = zI x := by
  rw [← Int32.toInt_inj, zI_to (by omega)]
  simp only [Int8.toInt_toInt32, Int32.toInt_toInt8, zI_to (show -2147483648 ≤ x ∧ x ≤ 2147483647 by omega)]
  exact Int.bmod_eq_of_le (by omega) (by omega)
/-! ===== the world: cells by their roles 0 .. N - 1: role i lies at ad i and holds g i ===== -/
def wl (N : Nat) (ad : Nat → Nat) (g : Nat → va_E) : va_W := (List.range N).map (fun i => (ad i, g i))
theorem wl_at {N i : Nat} {ad : Nat → Nat} {g : Nat → va_E} (h : i < N) : (wl N ad g)[i]? = some (ad i, g i) := by simp [wl, h]
theorem wl_set {N i : Nat} {ad : Nat → Nat} {g : Nat → va_E} {e : va_E} : (wl N ad g).set i (ad i, e) = wl N ad (va_up g i e) := by
  apply List.ext_getElem?
  intro j
  by_cases hj : j < N
  · rw [wl_at hj]
    by_cases e1 : i = j
    · subst e1
      rw [List.getElem?_set_self (by simp [wl]; exact hj), va_up_self]
    · rw [List.getElem?_set_ne e1, wl_at hj, va_up_ne _ _ (fun h => e1 h.symm)]
  · rw [List.getElem?_eq_none (by simp [wl]; omega), List.getElem?_eq_none (by simp [wl]; omega)]
theorem wl_push {N q : Nat} {ad : Nat → Nat} {g : Nat → va_E} {e : va_E} : wl N ad g ++ [(q, e)] = wl (N + 1) (va_up ad N q) (va_up g N e) := by
  unfold wl
  rw [List.range_succ, List.map_append, List.map_singleton, va_up_self, va_up_self]
  congr 1
  apply List.map_congr_left
  intro a ha
  have : a ≠ N := Nat.ne_of_lt (List.mem_range.mp ha)
  rw [va_up_ne _ _ this, va_up_ne _ _ this]
def uZ (r : Nat → Int) (k : Nat) (v : Int) : Nat → Int := fun j => if j = k then v else r j
theorem uZ_s (r : Nat → Int) (k : Nat) (v : Int) : uZ r k v k = v := if_pos rfl
theorem uZ_n (r : Nat → Int) {k j : Nat} (v : Int) (h : j ≠ k) : uZ r k v j = r j := if_neg h
theorem uZ_upd (r : Nat → Int) (k : Nat) (v : Int) : upd (fun j => zI (r j)) k (zI v) = fun j => zI (uZ r k v j) := by
  funext j
  show (if j = k then zI v else zI (r j)) = zI (if j = k then v else r j)
  by_cases h : j = k
  · rw [if_pos h, if_pos h]
  · rw [if_neg h, if_neg h]
theorem uZ_updL (r : Nat → Int) (k : Nat) (v : Int) : vp_updL (fun j => zJ (r j)) k (zJ v) = fun j => zJ (uZ r k v j) := by
  funext j
  show (if j = k then zJ v else zJ (r j)) = zJ (if j = k then v else r j)
  by_cases h : j = k
  · rw [if_pos h, if_pos h]
  · rw [if_neg h, if_neg h]
def zAt (ad : Nat → Nat) (i a : Nat) : Prop := ad i = a
theorem ne_o {i c d : Nat} (h : (c == d) = false) : i + c ≠ i + d := fun e => by
  have e2 : c = d := by omega
  subst e2
  simp at h
theorem lt_o {i c d : Nat} (h : Nat.blt c d = true) : i + c < i + d := by
  have h2 : c < d := Nat.le_of_ble_eq_true h
  omega
abbrev oC (ci : Nat) (fs : List Value) : va_E := .inr (ci, fs)
abbrev iA (cs : Nat → ClassId) (n : Nat) (r : Nat → Int) : va_E := .inl (cs 1, n, .inl (fun k => zI (r k)))
abbrev bA (cs : Nat → ClassId) (n : Nat) (r : Nat → Int) : va_E := .inl (cs 0, n, .inl (fun k => zI (r k)))
abbrev jA (cs : Nat → ClassId) (n : Nat) (r : Nat → Int) : va_E := .inl (cs 2, n, .inr (.inl (fun k => zJ (r k))))
abbrev rA (c : ClassId) (n : Nat) (r : Nat → Option Nat) : va_E := .inl (c, n, .inr (.inr (.inr (.inr r))))
theorem up_s {α : Type} {g g' : Nat → α} {i : Nat} {e : α} (h : g' = va_up g i e) : g' i = e := by rw [h, va_up_self]
theorem up_n {α : Type} {g g' : Nat → α} {i j : Nat} {e x : α} (h : g' = va_up g i e) (hx : g j = x) (hn : j ≠ i) : g' j = x := by rw [h, va_up_ne _ _ hn]; exact hx
/-! ===== the words ===== -/
def zcst (w : Cond) : Bool := match w with
  | .castable _ _ => true
  | .declares _ => true
  | .privateMethod _ => true
  | _ => false
def AW : List Cond := lw_tbl.filter goodWord
def NW : List Cond := lw_tbl.filter (fun w => w.onTables && (w.keepsH || zcst w))
theorem AW_m {w : Cond} (i : Nat) (h : lw_tbl[i]? = some w) (hg : goodWord w = true) : w ∈ AW := List.mem_filter.mpr ⟨List.mem_of_getElem? h, hg⟩
theorem tb_1 {w : Cond} (h : w ∈ tables_1_1) : w ∈ lw_tbl := List.mem_append_right _ (show w ∈ tables_1 from List.mem_append_left _ h)
theorem AW_m1 {w : Cond} (i : Nat) (h : tables_1_1[i]? = some w) (hg : goodWord w = true) : w ∈ AW := List.mem_filter.mpr ⟨tb_1 (List.mem_of_getElem? h), hg⟩
theorem NW_m1 {w : Cond} (i : Nat) (h : tables_1_1[i]? = some w) (hg : (w.onTables && (w.keepsH || zcst w)) = true) : w ∈ NW := List.mem_filter.mpr ⟨tb_1 (List.mem_of_getElem? h), hg⟩
theorem tb_2 {w : Cond} (h : w ∈ tables_1_2) : w ∈ lw_tbl := List.mem_append_right _ (show w ∈ tables_1 from List.mem_append_right _ (List.mem_append_left _ h))
theorem AW_m2 {w : Cond} (i : Nat) (h : tables_1_2[i]? = some w) (hg : goodWord w = true) : w ∈ AW := List.mem_filter.mpr ⟨tb_2 (List.mem_of_getElem? h), hg⟩
theorem NW_m2 {w : Cond} (i : Nat) (h : tables_1_2[i]? = some w) (hg : (w.onTables && (w.keepsH || zcst w)) = true) : w ∈ NW := List.mem_filter.mpr ⟨tb_2 (List.mem_of_getElem? h), hg⟩
theorem tb_3 {w : Cond} (h : w ∈ tables_1_3) : w ∈ lw_tbl := List.mem_append_right _ (show w ∈ tables_1 from List.mem_append_right _ (List.mem_append_right _ (List.mem_append_left _ h)))
theorem AW_m3 {w : Cond} (i : Nat) (h : tables_1_3[i]? = some w) (hg : goodWord w = true) : w ∈ AW := List.mem_filter.mpr ⟨tb_3 (List.mem_of_getElem? h), hg⟩
theorem NW_m3 {w : Cond} (i : Nat) (h : tables_1_3[i]? = some w) (hg : (w.onTables && (w.keepsH || zcst w)) = true) : w ∈ NW := List.mem_filter.mpr ⟨tb_3 (List.mem_of_getElem? h), hg⟩
theorem tb_4 {w : Cond} (h : w ∈ tables_1_4) : w ∈ lw_tbl := List.mem_append_right _ (show w ∈ tables_1 from List.mem_append_right _ (List.mem_append_right _ (List.mem_append_right _ (List.mem_append_left _ h))))
theorem AW_m4 {w : Cond} (i : Nat) (h : tables_1_4[i]? = some w) (hg : goodWord w = true) : w ∈ AW := List.mem_filter.mpr ⟨tb_4 (List.mem_of_getElem? h), hg⟩
theorem NW_m4 {w : Cond} (i : Nat) (h : tables_1_4[i]? = some w) (hg : (w.onTables && (w.keepsH || zcst w)) = true) : w ∈ NW := List.mem_filter.mpr ⟨tb_4 (List.mem_of_getElem? h), hg⟩
theorem tb_5 {w : Cond} (h : w ∈ tables_1_5) : w ∈ lw_tbl := List.mem_append_right _ (show w ∈ tables_1 from List.mem_append_right _ (List.mem_append_right _ (List.mem_append_right _ (List.mem_append_right _ (List.mem_append_left _ h)))))
theorem AW_m5 {w : Cond} (i : Nat) (h : tables_1_5[i]? = some w) (hg : goodWord w = true) : w ∈ AW := List.mem_filter.mpr ⟨tb_5 (List.mem_of_getElem? h), hg⟩
theorem NW_m5 {w : Cond} (i : Nat) (h : tables_1_5[i]? = some w) (hg : (w.onTables && (w.keepsH || zcst w)) = true) : w ∈ NW := List.mem_filter.mpr ⟨tb_5 (List.mem_of_getElem? h), hg⟩
theorem tb_6 {w : Cond} (h : w ∈ tables_1_6) : w ∈ lw_tbl := List.mem_append_right _ (show w ∈ tables_1 from List.mem_append_right _ (List.mem_append_right _ (List.mem_append_right _ (List.mem_append_right _ (List.mem_append_right _ (List.mem_append_left _ h))))))
theorem AW_m6 {w : Cond} (i : Nat) (h : tables_1_6[i]? = some w) (hg : goodWord w = true) : w ∈ AW := List.mem_filter.mpr ⟨tb_6 (List.mem_of_getElem? h), hg⟩
theorem tb_7 {w : Cond} (h : w ∈ tables_1_7) : w ∈ lw_tbl := List.mem_append_right _ (show w ∈ tables_1 from List.mem_append_right _ (List.mem_append_right _ (List.mem_append_right _ (List.mem_append_right _ (List.mem_append_right _ (List.mem_append_right _ (List.mem_append_left _ h)))))))
theorem AW_m7 {w : Cond} (i : Nat) (h : tables_1_7[i]? = some w) (hg : goodWord w = true) : w ∈ AW := List.mem_filter.mpr ⟨tb_7 (List.mem_of_getElem? h), hg⟩
theorem tb_8 {w : Cond} (h : w ∈ tables_1_8) : w ∈ lw_tbl := List.mem_append_right _ (show w ∈ tables_1 from List.mem_append_right _ (List.mem_append_right _ (List.mem_append_right _ (List.mem_append_right _ (List.mem_append_right _ (List.mem_append_right _ (List.mem_append_right _ (List.mem_append_left _ h))))))))
theorem AW_m8 {w : Cond} (i : Nat) (h : tables_1_8[i]? = some w) (hg : goodWord w = true) : w ∈ AW := List.mem_filter.mpr ⟨tb_8 (List.mem_of_getElem? h), hg⟩
theorem tb_9 {w : Cond} (h : w ∈ tables_1_9) : w ∈ lw_tbl := List.mem_append_right _ (show w ∈ tables_1 from List.mem_append_right _ (List.mem_append_right _ (List.mem_append_right _ (List.mem_append_right _ (List.mem_append_right _ (List.mem_append_right _ (List.mem_append_right _ (List.mem_append_right _ (h)))))))))
theorem AW_m9 {w : Cond} (i : Nat) (h : tables_1_9[i]? = some w) (hg : goodWord w = true) : w ∈ AW := List.mem_filter.mpr ⟨tb_9 (List.mem_of_getElem? h), hg⟩
theorem lt_K {k K N : Nat} (h : K ≤ N) (e : Nat.blt k K = true) : k < N := Nat.lt_of_lt_of_le (Nat.le_of_ble_eq_true e) h
theorem lt_A {a c d N : Nat} (h : a + d ≤ N) (e : Nat.blt c d = true) : a + c < N := Nat.lt_of_lt_of_le (Nat.add_lt_add_left (Nat.le_of_ble_eq_true e) a) h
theorem lt_A0 {a d N : Nat} (h : a + d ≤ N) (e : Nat.blt 0 d = true) : a < N := Nat.lt_of_lt_of_le (Nat.lt_add_of_pos_right (Nat.le_of_ble_eq_true e)) h
theorem AW_good {w : Cond} (h : w ∈ AW) : goodWord w = true := (List.mem_filter.mp h).2
theorem AW_in {ws : List Cond} (h : ∀ w ∈ ws, w ∈ AW) : GoodIn AW ws := fun w hw => ⟨h w hw, good_of_word (AW_good (h w hw))⟩
theorem va_Nw.warmP {x : MethodName} {s U : State} (hW : s.WarmedH U.vm) (hZ : va_Nw (.privateMethod x) s) : va_Nw (.privateMethod x) U := va_tabs rfl (rfl : (s.setVm U.vm).vm = U.vm) (by rw [Cond.privateMethod_setVm hW.alike]; exact hZ)
theorem NW_warm {w : Cond} {s U : State} (hW : s.WarmedH U.vm) (h : w ∈ NW) (hw : va_Nw w s) : va_Nw w U := by
  have h1 := (List.mem_filter.mp h).2
  simp only [Bool.and_eq_true, Bool.or_eq_true] at h1
  obtain ⟨h1, h2⟩ := h1
  rcases h2 with h2 | h2
  · exact va_tabs h1 (rfl : (U.setVm U.vm).vm = U.vm) (Cond.onTables_warmH (args := #[]) (args' := #[]) (T := U) hW h1 h2 hw)
  · cases w with
    | castable a b => exact va_Nw.warmC hW hw
    | declares a => exact va_Nw.warmD hW hw
    | privateMethod a => exact va_Nw.warmP hW hw
    | _ => exact absurd h2 (by simp [zcst])
theorem NW_same {w : Cond} {u U : State} (hv : u.vm = U.vm) (h : w ∈ NW) (hw : va_Nw w u) : va_Nw w U := by
  have h1 := (List.mem_filter.mp h).2
  simp only [Bool.and_eq_true] at h1
  exact va_Nw.same h1.1 hv hw
theorem NW_use {w : Cond} {U : State} {a : Array Value} (h : w ∈ NW) (hw : va_Nw w U) : w.before a U = true := by
  have h1 := (List.mem_filter.mp h).2
  simp only [Bool.and_eq_true] at h1
  exact va_Nw.use h1.1 hw
theorem va_AOA.moved {t : FieldType} {u U : State} (hvm : u.vm.Alike U.vm) (h : va_AOA t u) : va_AOA t U := by
  obtain ⟨comp, c, k, h1, h2, h3, h4, h5⟩ := arrayOverA_spec h
  obtain ⟨k', hk', he⟩ := hvm.2.2 _ _ h3
  have hi : (U.vm.classes.findIdx? fun (x : Class) => match x.kind with | .array component _ => component == comp | _ => false) = some c := by
    have e1 := va_idx_bare U.vm comp
    have e2 := va_idx_bare u.vm comp
    first | rw [hvm.bare_eq] at e1 | rw [← hvm.bare_eq] at e1
    exact e1.symm.trans (e2.trans h2)
  have hkind : k'.kind = .array comp (.array t) := by rw [he]; exact h4
  have f1 : U.vm.findClass (FieldType.array t).toString = some comp := by rw [hvm.findClass]; exact h1
  have f2 : U.vm.findClass ("[" ++ (FieldType.array t).toString) = some c := by rw [hvm.findClass]; exact h5
  unfold va_AOA Cond.before Cond.holds
  simp only [Cond.value]
  rw [f1, Option.bind_some]
  refine (congrArg (fun o : Option Nat => (o.bind (fun c => (U.vm.classes[c]?).map fun (k : Class) => match k.kind with | .array _ ty => decide (ty = FieldType.array t) && decide (U.vm.findClass ("[" ++ (FieldType.array t).toString) = some c) | _ => false) == some true)) hi).trans ?_
  simp [hk', hkind, f2]

/-! ===== what a method may lean on beside its own cells ===== -/
abbrev tyL (cs : Nat → ClassId) : List (ClassId × FieldType) := [(cs 0, .byte), (cs 1, .int), (cs 2, .long), (cs 3, .object RX3), (cs 4, .object RX8), (cs 5, .object RX4), (cs 6, .array .int)]
def tabZ (k : Nat) : Int := [3, 12, 4, 40, 1, 5, 8, 3, 2, 1, 1000, 4000, 6000, 9000, 8000].getD k 0
/-- the static row TABLE -/
def zTB (tt : Nat) (A : Nat → Prop) (U : State) (H : Heap) : Prop := ∃ cell : Cell, H[tt]? = some cell ∧ U.isArrayOf cell .int ∧ cell.vm ≠ .unknown ∧ cell.slots.size = 15 ∧ (∀ j : Nat, j < 15 → cell.slots[j]? = some (.int (zI (tabZ j)))) ∧ U.vm.findClass "[I" = some cell.cls ∧ ¬ A tt
theorem zTB.moved {tt : Nat} {A : Nat → Prop} {u U : State} {H : Heap} (hvm : u.vm.Alike U.vm) (h : zTB tt A u H) : zTB tt A U H := by
  obtain ⟨cell, h1, h2, h3, h4, h5, h6, h7⟩ := h
  exact ⟨cell, h1, State.isArrayOf_alike hvm h2, h3, h4, h5, by rw [hvm.findClass]; exact h6, h7⟩
theorem zTB.kept {tt : Nat} {A : Nat → Prop} {U : State} {H H1 : Heap} (h : zTB tt A U H) (hq : ∀ a : Nat, a < H.size → ¬ A a → H1[a]? = H[a]?) : zTB tt A U H1 := by
  obtain ⟨cell, h1, h2, h3, h4, h5, h6, h7⟩ := h
  exact ⟨cell, by rw [hq tt (Array.getElem?_eq_some_iff.mp h1).1 h7]; exact h1, h2, h3, h4, h5, h6, h7⟩
/-- the String constants that are thrown with: the class, the entry, the text -/
def SRL : List (String × Nat × String) := [("SnowRecorder", 88, "the tape has not so many bytes"), ("SnowRecorder", 167, "no such count"), ("SnowRecorder", 170, "no such hour"), ("SnowRecorder", 181, "no such thing of an hour"), ("SnowRecorder", 414, "no such slope"), ("SnowRecorder", 210, "no such thing of a slope"), ("SnowRecorder", 416, "no such layer"), ("SnowRecorder", 241, "no such thing of a layer"), ("SnowRecorder", 249, "no such sign"), ("SnowRecorder", 420, "no such thing to ask"), ("SnowRecorder", 422, "not so many hours"), ("SnowRecorder", 316, "that name isn't given"), ("SnowRecorder", 418, "no such pit"), ("SnowRecorder", 354, "no such thing of a pit"), ("SnowRecorder", 371, "no such comparison"), ("SnowRecorder", 396, "tenths are 0 to 10"), ("SnowRecorder", 406, "years are 0 to 30")]
/-- the String constants whose letters are read: class, entry, text, number, bytes; String k lies at cs (100 + k), its bytes at cs (200 + k) -/
def SKL : List (String × Nat × String × Nat × List Int32) := [("SnowRecorder$TextReader", 61, "slope", 0, [115, 108, 111, 112, 101]), ("SnowRecorder$TextReader", 71, "layer", 1, [108, 97, 121, 101, 114]), ("SnowRecorder", 495, "powder", 2, [112, 111, 119, 100, 101, 114]), ("SnowRecorder", 497, "grains", 3, [103, 114, 97, 105, 110, 115]), ("SnowRecorder", 499, "facets", 4, [102, 97, 99, 101, 116, 115]), ("SnowRecorder", 501, "crust", 5, [99, 114, 117, 115, 116]), ("SnowRecorder", 503, "hoar", 6, [104, 111, 97, 114]), ("SnowRecorder$TextReader", 76, "hour", 7, [104, 111, 117, 114]), ("SnowRecorder$TextReader", 149, "snow", 8, [115, 110, 111, 119]), ("SnowRecorder$TextReader", 151, "rain", 9, [114, 97, 105, 110]), ("SnowRecorder$TextReader", 153, "hoar", 10, [104, 111, 97, 114]), ("SnowRecorder$TextReader", 81, "strong", 11, [115, 116, 114, 111, 110, 103]), ("SnowRecorder$TextReader", 87, "holds", 12, [104, 111, 108, 100, 115]), ("SnowRecorder$TextReader", 89, "stiff", 13, [115, 116, 105, 102, 102]), ("SnowRecorder", 487, " of ", 14, [32, 111, 102, 32]), ("SnowRecorder", 489, " wet ", 15, [32, 119, 101, 116, 32]), ("SnowRecorder", 491, " in ", 16, [32, 105, 110, 32]), ("SnowRecorder", 493, " at ", 17, [32, 97, 116, 32])]
/-- static rows of bytes that nobody writes: class, name, number, bytes: at cs (300 + k) -/
def STL : List (String × String × Nat × List Int32) := [("SnowRecorderModel", "KNOWN", 0, [115, 108, 111, 112, 101, 32, 108, 97, 121, 101, 114, 32, 104, 111, 117, 114, 32, 115, 110, 111, 119, 32, 114, 97, 105, 110, 32, 104, 111, 97, 114, 32, 115, 116, 114, 111, 110, 103, 32, 104, 111, 108, 100, 115, 32, 115, 116, 105, 102, 102, 32, 112, 111, 119, 100, 101, 114, 32, 103, 114, 97, 105, 110, 115, 32, 102, 97, 99, 101, 116, 115, 32, 99, 114, 117, 115, 116, 32]), ("java/lang/Integer", "DigitOnes", 1, [48, 49, 50, 51, 52, 53, 54, 55, 56, 57, 48, 49, 50, 51, 52, 53, 54, 55, 56, 57, 48, 49, 50, 51, 52, 53, 54, 55, 56, 57, 48, 49, 50, 51, 52, 53, 54, 55, 56, 57, 48, 49, 50, 51, 52, 53, 54, 55, 56, 57, 48, 49, 50, 51, 52, 53, 54, 55, 56, 57, 48, 49, 50, 51, 52, 53, 54, 55, 56, 57, 48, 49, 50, 51, 52, 53, 54, 55, 56, 57, 48, 49, 50, 51, 52, 53, 54, 55, 56, 57, 48, 49, 50, 51, 52, 53, 54, 55, 56, 57]), ("java/lang/Integer", "DigitTens", 2, [48, 48, 48, 48, 48, 48, 48, 48, 48, 48, 49, 49, 49, 49, 49, 49, 49, 49, 49, 49, 50, 50, 50, 50, 50, 50, 50, 50, 50, 50, 51, 51, 51, 51, 51, 51, 51, 51, 51, 51, 52, 52, 52, 52, 52, 52, 52, 52, 52, 52, 53, 53, 53, 53, 53, 53, 53, 53, 53, 53, 54, 54, 54, 54, 54, 54, 54, 54, 54, 54, 55, 55, 55, 55, 55, 55, 55, 55, 55, 55, 56, 56, 56, 56, 56, 56, 56, 56, 56, 56, 57, 57, 57, 57, 57, 57, 57, 57, 57, 57])]
def zS (A : Nat → Prop) (cs : Nat → ClassId) (U : State) : Prop :=
  (∀ q ∈ SKL, vk_R q.1 q.2.1 q.2.2.1 (cs (100 + q.2.2.2.1)) U ∧ va_O "java/lang/String" (cs (100 + q.2.2.2.1)) A U U.heap ∧ va_OF "java/lang/String" "coder" "B" (.int 0) (cs (100 + q.2.2.2.1)) A U U.heap ∧ va_OF "java/lang/String" "value" "[B" (.ref (cs (200 + q.2.2.2.1))) (cs (100 + q.2.2.2.1)) A U U.heap ∧ va_T .byte (cs (200 + q.2.2.2.1)) q.2.2.2.2.length (fun j => .int (q.2.2.2.2.getD j 0)) A U U.heap) ∧
  (∀ q ∈ STL, va_Z q.1 q.2.1 "[B" (.ref (cs (300 + q.2.2.1))) A U U.heap ∧ va_T .byte (cs (300 + q.2.2.1)) q.2.2.2.length (fun j => .int (q.2.2.2.getD j 0)) A U U.heap) ∧
  va_Zq "jdk/internal/util/Preconditions" "SIOOBE_FORMATTER" "Ljava/util/function/BiFunction;" A U U.heap
theorem zS.next {A : Nat → Prop} {cs : Nat → ClassId} {s U : State} (h : zS A cs s) (hq : ∀ a : Nat, a < s.heap.size → ¬ A a → U.heap[a]? = s.heap[a]?) (hW : s.WarmedH U.vm) : zS A cs U := by
  have hv := hW.alike
  refine ⟨fun q hm => ?_, fun q hm => ?_, va_Zq.moved hv (h.2.2.kept hq)⟩
  · obtain ⟨h1, h2, h3, h4, h5⟩ := h.1 q hm
    exact ⟨vk_R.warm hW h1, va_O.moved hv (h2.kept hq), va_OF.moved hv (h3.kept hq), va_OF.moved hv (h4.kept hq), va_T.moved hv (h5.kept hq)⟩
  · obtain ⟨h1, h2⟩ := h.2.1 q hm
    exact ⟨va_Z.moved hv (h1.kept hq), va_T.moved hv (h2.kept hq)⟩
theorem zS.calling {A : Nat → Prop} {cs : Nat → ClassId} {U : State} {g : JFrame} {mk : MethodId} {a : Array Value} (h : zS A cs U) : zS A cs (U.calling g mk a) := by
  have hv : U.vm.Alike (U.calling g mk a).vm := Vm.Alike.refl U.vm
  refine ⟨fun q hm => ?_, fun q hm => ?_, va_Zq.moved hv h.2.2⟩
  · obtain ⟨h1, h2, h3, h4, h5⟩ := h.1 q hm
    exact ⟨vk_R.same rfl h1, va_O.moved hv h2, va_OF.moved hv h3, va_OF.moved hv h4, va_T.moved hv h5⟩
  · obtain ⟨h1, h2⟩ := h.2.1 q hm
    exact ⟨va_Z.moved hv h1, va_T.moved hv h2⟩
def zE (D : va_G) (A : Nat → Prop) (cs : Nat → ClassId) (tt : Nat) (U : State) : Prop :=
  va_K D vwCl (tyL cs) U ∧ (∀ w ∈ NW, va_Nw w U) ∧ (∀ q : Nat, U.heap.size ≤ q → A q) ∧ (va_AO RX3 U ∧ va_AO RX8 U ∧ va_AO RX4 U ∧ va_AOA .int U) ∧
  (va_Z RX9 "TABLE" "[I" (.ref tt) A U U.heap ∧ zTB tt A U U.heap ∧ va_Z RJ0 "COMPACT_STRINGS" "Z" (.int 1) A U U.heap) ∧
  (vx_Zq Bundle.tN "UNASSIGNED_STACK" Bundle.steD A U U.heap ∧ vx_Zq Bundle.tN "SUPPRESSED_SENTINEL" Bundle.listD A U U.heap) ∧ (∀ q ∈ SRL, ∃ sa : Nat, vk_R q.1 q.2.1 q.2.2 sa U) ∧ va_Nc "java/lang/IllegalArgumentException" "java/util/NoSuchElementException" U ∧ zS A cs U
theorem zE.next {D : va_G} {A : Nat → Prop} {cs : Nat → ClassId} {tt : Nat} {s U : State} {H : Heap} {locs : List Loc} (h : zE D A cs tt s) (hS : va_S A s.heap H locs) (hH : U.heap = H) (hW : s.WarmedH U.vm) : zE D A cs tt U := by
  obtain ⟨h1, h2, h3, ⟨a1, a2, a3, a4⟩, ⟨t1, t2, t3⟩, ⟨u1, u2⟩, h7, h8, h9⟩ := h
  have hq : ∀ a : Nat, a < s.heap.size → ¬ A a → U.heap[a]? = s.heap[a]? := by rw [hH]; exact hS.2.1
  have hv := hW.alike
  refine ⟨va_K.moved hv h1, fun w hw => NW_warm hW hw (h2 w hw), fun q hq => h3 q (Nat.le_trans (by rw [hH] at hq; exact Nat.le_trans hS.1 hq) (Nat.le_refl _)), ⟨va_AO.moved hv a1, va_AO.moved hv a2, va_AO.moved hv a3, va_AOA.moved hv a4⟩, ⟨va_Z.moved hv (t1.kept hq), zTB.moved hv (t2.kept hq), va_Z.moved hv (t3.kept hq)⟩, ⟨vx_Zq.moved hv (u1.kept hq), vx_Zq.moved hv (u2.kept hq)⟩, fun q hq => ?_, va_Nc.moved hv h8, h9.next hq hW⟩
  obtain ⟨sa, hs⟩ := h7 q hq
  exact ⟨sa, vk_R.warm hW hs⟩
theorem zE.calling {D : va_G} {A : Nat → Prop} {cs : Nat → ClassId} {tt : Nat} {U : State} {g : JFrame} {mk : MethodId} {a : Array Value} (h : zE D A cs tt U) : zE D A cs tt (U.calling g mk a) := by
  obtain ⟨h1, h2, h3, ⟨a1, a2, a3, a4⟩, ⟨t1, t2, t3⟩, ⟨u1, u2⟩, h7, h8, h9⟩ := h
  have hv : U.vm.Alike (U.calling g mk a).vm := Vm.Alike.refl U.vm
  refine ⟨va_K.moved hv h1, fun w hw => NW_same (u := U) rfl hw (h2 w hw), h3, ⟨va_AO.moved hv a1, va_AO.moved hv a2, va_AO.moved hv a3, va_AOA.moved hv a4⟩, ⟨va_Z.moved hv t1, zTB.moved hv t2, va_Z.moved hv t3⟩, ⟨vx_Zq.moved hv u1, vx_Zq.moved hv u2⟩, fun q hq => ?_, va_Nc.moved hv h8, h9.calling⟩
  obtain ⟨sa, hs⟩ := h7 q hq
  exact ⟨sa, vk_R.same rfl hs⟩
/-! ===== the judgement: in a world of roles, at pc, with these locals and this stack ===== -/
def zC (p : Program) (s : State) (m : MethodId) (args : Array Value) (c : Code) (cc : ByteArray) (nL : Nat) (own : String) (D : va_G) (A : Nat → Prop) (cs : Nat → ClassId) (tt : Nat) : Prop :=
  p.tables.exec = Jvm.exec ∧ c.code = cc ∧ c.maxLocals = nL ∧ s.vm.findClass own = some m.cls ∧ (∀ w ∈ AW, w.before args s = true) ∧ zE D A cs tt s
def zV (p : Program) (l : Launch) (e : Env) (R : Room) (s : State) (m : MethodId) (args : Array Value) (below : List Frame) (meth : Method) (c : Code) (Q : State → Prop) (D : va_G) (A : Nat → Prop) (nL : Nat) (N : Nat) (ad : Nat → Nat) (g : Nat → va_E) (k n pc : Nat) (lv : List (Nat × Value)) (st : List Value) : Prop :=
  ∀ (H : Heap) (locs : List Loc) (ls : Array Slot), va_P D vwCl (wl N ad g) H → va_D A (wl N ad g) → va_S A s.heap H locs → lv_has ls nL lv → W p l e R s m args below meth c H locs k n Q (F0 m pc ls st)

section ZV
variable {p : Program} {l : Launch} {e : Env} {R : Room} {s : State} {m : MethodId} {args : Array Value} {below : List Frame} {meth : Method} {c : Code} {Q : State → Prop} {D : va_G} {A : Nat → Prop} {cs : Nat → ClassId} {tt : Nat} {cc : ByteArray} {nL : Nat} {own : String} {N : Nat} {ad : Nat → Nat} {g : Nat → va_E} {k n pc : Nat} {lv lv' : List (Nat × Value)} {rest : List Value}
theorem z_iconst (C : zC p s m args c cc nL own D A cs tt) {i z : Int} (hdg : decode cc pc = .ok (.iconst i, 1)) (hz : zI i = zI z) (kk : zV p l e R s m args below meth c Q D A nL N ad g k n (pc + 1) (lv) (.int (zI z) :: rest)) : zV p l e R s m args below meth c Q D A nL N ad g k n (pc) (lv) (rest) := fun H locs ls hP hD hS hl => lv_iconst C.1 C.2.1 hdg hz (kk H locs ls hP hD hS hl)
theorem z_bipush (C : zC p s m args c cc nL own D A cs tt) {i z : Int} (hdg : decode cc pc = .ok (.bipush i, 2)) (hz : (Int8.ofInt i).toInt32 = zI z) (kk : zV p l e R s m args below meth c Q D A nL N ad g k n (pc + 2) (lv) (.int (zI z) :: rest)) : zV p l e R s m args below meth c Q D A nL N ad g k n (pc) (lv) (rest) := fun H locs ls hP hD hS hl => lv_bipush C.1 C.2.1 hdg hz (kk H locs ls hP hD hS hl)
theorem z_sipush (C : zC p s m args c cc nL own D A cs tt) {i z : Int} (hdg : decode cc pc = .ok (.sipush i, 3)) (hz : (Int16.ofInt i).toInt32 = zI z) (kk : zV p l e R s m args below meth c Q D A nL N ad g k n (pc + 3) (lv) (.int (zI z) :: rest)) : zV p l e R s m args below meth c Q D A nL N ad g k n (pc) (lv) (rest) := fun H locs ls hP hD hS hl => lv_sipush C.1 C.2.1 hdg hz (kk H locs ls hP hD hS hl)
theorem z_ldc (C : zC p s m args c cc nL own D A cs tt) {i : Nat} {x : Int32} {z : Int} (hdg : decode cc pc = .ok (.ldc i, 2)) (hw : Cond.constant own i x ∈ AW) (hz : x = zI z) (kk : zV p l e R s m args below meth c Q D A nL N ad g k n (pc + 2) (lv) (.int (zI z) :: rest)) : zV p l e R s m args below meth c Q D A nL N ad g k n (pc) (lv) (rest) := fun H locs ls hP hD hS hl => lv_ldc C.1 C.2.1 C.2.2.2.1 (C.2.2.2.2.1 _ hw) hdg (by rw [hz]; exact kk H locs ls hP hD hS hl)
theorem z_ldc2 (C : zC p s m args c cc nL own D A cs tt) {i : Nat} {x : Int64} {z : Int} (hdg : decode cc pc = .ok (.ldc2_w i, 3)) (hw : Cond.constantLong own i x ∈ AW) (hz : x = zJ z) (kk : zV p l e R s m args below meth c Q D A nL N ad g k n (pc + 3) (lv) (.long (zJ z) :: rest)) : zV p l e R s m args below meth c Q D A nL N ad g k n (pc) (lv) (rest) := fun H locs ls hP hD hS hl => lv_ldc2 C.1 C.2.1 C.2.2.2.1 (C.2.2.2.2.1 _ hw) hdg (by rw [hz]; exact kk H locs ls hP hD hS hl)
theorem z_lconst (C : zC p s m args c cc nL own D A cs tt) {i : Fin 2} {z : Int} (hdg : decode cc pc = .ok (.lconst i, 1)) (hz : Int64.ofNat (i : Nat) = zJ z) (kk : zV p l e R s m args below meth c Q D A nL N ad g k n (pc + 1) (lv) (.long (zJ z) :: rest)) : zV p l e R s m args below meth c Q D A nL N ad g k n (pc) (lv) (rest) := fun H locs ls hP hD hS hl => lv_lconst C.1 C.2.1 hdg hz (kk H locs ls hP hD hS hl)
theorem z_iload_n (C : zC p s m args c cc nL own D A cs tt) {f : Fin 4} {x : Int32} (j : Nat) (hdg : decode cc pc = .ok (.iload_n f, 1)) (hj : lv[j]? = some ((f : Nat), .int x)) (kk : zV p l e R s m args below meth c Q D A nL N ad g k n (pc + 1) (lv) (.int x :: rest)) : zV p l e R s m args below meth c Q D A nL N ad g k n (pc) (lv) (rest) := fun H locs ls hP hD hS hl => lv_iload_n C.1 C.2.1 hdg rfl (lv_at hl j hj) (kk H locs ls hP hD hS hl)
theorem z_iload (C : zC p s m args c cc nL own D A cs tt) {f : Nat} {x : Int32} (j : Nat) (hdg : decode cc pc = .ok (.iload f, 2)) (hj : lv[j]? = some (f, .int x)) (kk : zV p l e R s m args below meth c Q D A nL N ad g k n (pc + 2) (lv) (.int x :: rest)) : zV p l e R s m args below meth c Q D A nL N ad g k n (pc) (lv) (rest) := fun H locs ls hP hD hS hl => lv_iload C.1 C.2.1 hdg (lv_at hl j hj) (kk H locs ls hP hD hS hl)
theorem z_aload_n (C : zC p s m args c cc nL own D A cs tt) {f : Fin 4} {x : Nat} (j : Nat) (hdg : decode cc pc = .ok (.aload_n f, 1)) (hj : lv[j]? = some ((f : Nat), .ref x)) (kk : zV p l e R s m args below meth c Q D A nL N ad g k n (pc + 1) (lv) (.ref x :: rest)) : zV p l e R s m args below meth c Q D A nL N ad g k n (pc) (lv) (rest) := fun H locs ls hP hD hS hl => lv_aload_n C.1 C.2.1 hdg rfl (lv_at hl j hj) (kk H locs ls hP hD hS hl)
theorem z_aload (C : zC p s m args c cc nL own D A cs tt) {f : Nat} {x : Nat} (j : Nat) (hdg : decode cc pc = .ok (.aload f, 2)) (hj : lv[j]? = some (f, .ref x)) (kk : zV p l e R s m args below meth c Q D A nL N ad g k n (pc + 2) (lv) (.ref x :: rest)) : zV p l e R s m args below meth c Q D A nL N ad g k n (pc) (lv) (rest) := fun H locs ls hP hD hS hl => lv_aload C.1 C.2.1 hdg (lv_at hl j hj) (kk H locs ls hP hD hS hl)
theorem z_lload_n (C : zC p s m args c cc nL own D A cs tt) {f : Fin 4} {x : Int64} (j : Nat) (hdg : decode cc pc = .ok (.lload_n f, 1)) (hj : lv[j]? = some ((f : Nat), .long x)) (kk : zV p l e R s m args below meth c Q D A nL N ad g k n (pc + 1) (lv) (.long x :: rest)) : zV p l e R s m args below meth c Q D A nL N ad g k n (pc) (lv) (rest) := fun H locs ls hP hD hS hl => lv_lload_n C.1 C.2.1 hdg rfl (lv_at hl j hj) (kk H locs ls hP hD hS hl)
theorem z_lload (C : zC p s m args c cc nL own D A cs tt) {f : Nat} {x : Int64} (j : Nat) (hdg : decode cc pc = .ok (.lload f, 2)) (hj : lv[j]? = some (f, .long x)) (kk : zV p l e R s m args below meth c Q D A nL N ad g k n (pc + 2) (lv) (.long x :: rest)) : zV p l e R s m args below meth c Q D A nL N ad g k n (pc) (lv) (rest) := fun H locs ls hP hD hS hl => lv_lload C.1 C.2.1 hdg (lv_at hl j hj) (kk H locs ls hP hD hS hl)
theorem z_istore_n (C : zC p s m args c cc nL own D A cs tt) {f : Fin 4} {i : Nat} {x : Int32} (hdg : decode cc pc = .ok (.istore_n f, 1)) (hi : (f : Nat) = i) (hn : i < nL) (hl9 : (i, Value.int x) :: lv.filter (fun q => !(q.1 == i) && !(q.1 + 1 == i && q.2.category == 2)) = lv') (kk : zV p l e R s m args below meth c Q D A nL N ad g k n (pc + 1) (lv') (rest)) : zV p l e R s m args below meth c Q D A nL N ad g k n (pc) (lv) (.int x :: rest) := fun H locs ls hP hD hS hl => lv_istore_n C.1 C.2.1 hdg hi hl hn hl9 (fun ls hl => kk H locs ls hP hD hS hl)
theorem z_istore (C : zC p s m args c cc nL own D A cs tt) {i : Nat} {x : Int32} (hdg : decode cc pc = .ok (.istore i, 2)) (hn : i < nL) (hl9 : (i, Value.int x) :: lv.filter (fun q => !(q.1 == i) && !(q.1 + 1 == i && q.2.category == 2)) = lv') (kk : zV p l e R s m args below meth c Q D A nL N ad g k n (pc + 2) (lv') (rest)) : zV p l e R s m args below meth c Q D A nL N ad g k n (pc) (lv) (.int x :: rest) := fun H locs ls hP hD hS hl => lv_istore C.1 C.2.1 hdg hl hn hl9 (fun ls hl => kk H locs ls hP hD hS hl)
theorem z_astore_n (C : zC p s m args c cc nL own D A cs tt) {f : Fin 4} {i : Nat} {x : Nat} (hdg : decode cc pc = .ok (.astore_n f, 1)) (hi : (f : Nat) = i) (hn : i < nL) (hl9 : (i, Value.ref x) :: lv.filter (fun q => !(q.1 == i) && !(q.1 + 1 == i && q.2.category == 2)) = lv') (kk : zV p l e R s m args below meth c Q D A nL N ad g k n (pc + 1) (lv') (rest)) : zV p l e R s m args below meth c Q D A nL N ad g k n (pc) (lv) (.ref x :: rest) := fun H locs ls hP hD hS hl => lv_astore_n C.1 C.2.1 hdg hi hl hn hl9 (fun ls hl => kk H locs ls hP hD hS hl)
theorem z_astore (C : zC p s m args c cc nL own D A cs tt) {i : Nat} {x : Nat} (hdg : decode cc pc = .ok (.astore i, 2)) (hn : i < nL) (hl9 : (i, Value.ref x) :: lv.filter (fun q => !(q.1 == i) && !(q.1 + 1 == i && q.2.category == 2)) = lv') (kk : zV p l e R s m args below meth c Q D A nL N ad g k n (pc + 2) (lv') (rest)) : zV p l e R s m args below meth c Q D A nL N ad g k n (pc) (lv) (.ref x :: rest) := fun H locs ls hP hD hS hl => lv_astore C.1 C.2.1 hdg hl hn hl9 (fun ls hl => kk H locs ls hP hD hS hl)
theorem z_lstore_n (C : zC p s m args c cc nL own D A cs tt) {f : Fin 4} {i : Nat} {x : Int64} (hdg : decode cc pc = .ok (.lstore_n f, 1)) (hi : (f : Nat) = i) (hn : i + 1 < nL) (hl9 : (i, Value.long x) :: lv.filter (fun q => !(q.1 == i) && (!(q.1 == i + 1) && !(q.1 + 1 == i && q.2.category == 2))) = lv') (kk : zV p l e R s m args below meth c Q D A nL N ad g k n (pc + 1) (lv') (rest)) : zV p l e R s m args below meth c Q D A nL N ad g k n (pc) (lv) (.long x :: rest) := fun H locs ls hP hD hS hl => lv_lstore_n C.1 C.2.1 hdg hi hl hn hl9 (fun ls hl => kk H locs ls hP hD hS hl)
theorem z_lstore (C : zC p s m args c cc nL own D A cs tt) {i : Nat} {x : Int64} (hdg : decode cc pc = .ok (.lstore i, 2)) (hn : i + 1 < nL) (hl9 : (i, Value.long x) :: lv.filter (fun q => !(q.1 == i) && (!(q.1 == i + 1) && !(q.1 + 1 == i && q.2.category == 2))) = lv') (kk : zV p l e R s m args below meth c Q D A nL N ad g k n (pc + 2) (lv') (rest)) : zV p l e R s m args below meth c Q D A nL N ad g k n (pc) (lv) (.long x :: rest) := fun H locs ls hP hD hS hl => lv_lstore C.1 C.2.1 hdg hl hn hl9 (fun ls hl => kk H locs ls hP hD hS hl)
theorem z_iinc (C : zC p s m args c cc nL own D A cs tt) {i j : Nat} {d x z : Int} (hdg : decode cc pc = .ok (.iinc i d, 3)) (hj : lv[j]? = some (i, .int (zI x))) (hz : zI (x + d) = zI z) (hn : i < nL) (hl9 : (i, Value.int (zI z)) :: lv.filter (fun q => !(q.1 == i) && !(q.1 + 1 == i && q.2.category == 2)) = lv') (kk : zV p l e R s m args below meth c Q D A nL N ad g k n (pc + 3) (lv') (rest)) : zV p l e R s m args below meth c Q D A nL N ad g k n (pc) (lv) (rest) := fun H locs ls hP hD hS hl => lv_iinc C.1 C.2.1 hdg hl hj (by show zI x + zI d = _; rw [zI_add]; exact hz) hn hl9 (fun ls hl => kk H locs ls hP hD hS hl)
theorem z_iadd (C : zC p s m args c cc nL own D A cs tt) {a b : Int} (hdg : decode cc pc = .ok (.iadd, 1)) (kk : zV p l e R s m args below meth c Q D A nL N ad g k n (pc + 1) (lv) (.int (zI (a + b)) :: rest)) : zV p l e R s m args below meth c Q D A nL N ad g k n (pc) (lv) (.int (zI b) :: .int (zI a) :: rest) := fun H locs ls hP hD hS hl => lv_iadd C.1 C.2.1 hdg (by rw [zI_add]; exact kk H locs ls hP hD hS hl)
theorem z_isub (C : zC p s m args c cc nL own D A cs tt) {a b : Int} (hdg : decode cc pc = .ok (.isub, 1)) (kk : zV p l e R s m args below meth c Q D A nL N ad g k n (pc + 1) (lv) (.int (zI (a - b)) :: rest)) : zV p l e R s m args below meth c Q D A nL N ad g k n (pc) (lv) (.int (zI b) :: .int (zI a) :: rest) := fun H locs ls hP hD hS hl => lv_isub C.1 C.2.1 hdg (by rw [zI_sub]; exact kk H locs ls hP hD hS hl)
theorem z_imul (C : zC p s m args c cc nL own D A cs tt) {a b : Int} (hdg : decode cc pc = .ok (.imul, 1)) (kk : zV p l e R s m args below meth c Q D A nL N ad g k n (pc + 1) (lv) (.int (zI (a * b)) :: rest)) : zV p l e R s m args below meth c Q D A nL N ad g k n (pc) (lv) (.int (zI b) :: .int (zI a) :: rest) := fun H locs ls hP hD hS hl => lv_imul C.1 C.2.1 hdg (by rw [zI_mul]; exact kk H locs ls hP hD hS hl)
theorem z_ladd (C : zC p s m args c cc nL own D A cs tt) {a b : Int} (hdg : decode cc pc = .ok (.ladd, 1)) (kk : zV p l e R s m args below meth c Q D A nL N ad g k n (pc + 1) (lv) (.long (zJ (a + b)) :: rest)) : zV p l e R s m args below meth c Q D A nL N ad g k n (pc) (lv) (.long (zJ b) :: .long (zJ a) :: rest) := fun H locs ls hP hD hS hl => lv_ladd C.1 C.2.1 hdg (by rw [zJ_add]; exact kk H locs ls hP hD hS hl)
theorem z_lsub (C : zC p s m args c cc nL own D A cs tt) {a b : Int} (hdg : decode cc pc = .ok (.lsub, 1)) (kk : zV p l e R s m args below meth c Q D A nL N ad g k n (pc + 1) (lv) (.long (zJ (a - b)) :: rest)) : zV p l e R s m args below meth c Q D A nL N ad g k n (pc) (lv) (.long (zJ b) :: .long (zJ a) :: rest) := fun H locs ls hP hD hS hl => lv_lsub C.1 C.2.1 hdg (by rw [zJ_sub]; exact kk H locs ls hP hD hS hl)
theorem z_lmul (C : zC p s m args c cc nL own D A cs tt) {a b : Int} (hdg : decode cc pc = .ok (.lmul, 1)) (kk : zV p l e R s m args below meth c Q D A nL N ad g k n (pc + 1) (lv) (.long (zJ (a * b)) :: rest)) : zV p l e R s m args below meth c Q D A nL N ad g k n (pc) (lv) (.long (zJ b) :: .long (zJ a) :: rest) := fun H locs ls hP hD hS hl => lv_lmul C.1 C.2.1 hdg (by rw [zJ_mul]; exact kk H locs ls hP hD hS hl)
theorem z_ineg (C : zC p s m args c cc nL own D A cs tt) {a : Int} (hdg : decode cc pc = .ok (.ineg, 1)) (kk : zV p l e R s m args below meth c Q D A nL N ad g k n (pc + 1) (lv) (.int (zI (-a)) :: rest)) : zV p l e R s m args below meth c Q D A nL N ad g k n (pc) (lv) (.int (zI a) :: rest) := fun H locs ls hP hD hS hl => lv_ineg C.1 C.2.1 hdg (by rw [zI_neg]; exact kk H locs ls hP hD hS hl)
theorem z_idiv (C : zC p s m args c cc nL own D A cs tt) {a b : Int} (hdg : decode cc pc = .ok (.idiv, 1)) (ha : -2147483648 ≤ a ∧ a ≤ 2147483647) (hb : -2147483648 ≤ b ∧ b ≤ 2147483647) (h0 : b ≠ 0) (kk : zV p l e R s m args below meth c Q D A nL N ad g k n (pc + 1) (lv) (.int (zI (a.tdiv b)) :: rest)) : zV p l e R s m args below meth c Q D A nL N ad g k n (pc) (lv) (.int (zI b) :: .int (zI a) :: rest) := fun H locs ls hP hD hS hl => lv_idiv C.1 C.2.1 hdg (by rw [← zI_0, zI_eq hb (by omega)]; exact h0) (by rw [zI_div ha hb]; exact kk H locs ls hP hD hS hl)
theorem z_irem (C : zC p s m args c cc nL own D A cs tt) {a b : Int} (hdg : decode cc pc = .ok (.irem, 1)) (ha : -2147483648 ≤ a ∧ a ≤ 2147483647) (hb : -2147483648 ≤ b ∧ b ≤ 2147483647) (h0 : b ≠ 0) (kk : zV p l e R s m args below meth c Q D A nL N ad g k n (pc + 1) (lv) (.int (zI (a.tmod b)) :: rest)) : zV p l e R s m args below meth c Q D A nL N ad g k n (pc) (lv) (.int (zI b) :: .int (zI a) :: rest) := fun H locs ls hP hD hS hl => lv_irem C.1 C.2.1 hdg (by rw [← zI_0, zI_eq hb (by omega)]; exact h0) (by rw [zI_rem ha hb]; exact kk H locs ls hP hD hS hl)
theorem z_ishl (C : zC p s m args c cc nL own D A cs tt) {a b z : Int} (hdg : decode cc pc = .ok (.ishl, 1)) (hz : zI a <<< (zI b &&& 31) = zI z) (kk : zV p l e R s m args below meth c Q D A nL N ad g k n (pc + 1) (lv) (.int (zI z) :: rest)) : zV p l e R s m args below meth c Q D A nL N ad g k n (pc) (lv) (.int (zI b) :: .int (zI a) :: rest) := fun H locs ls hP hD hS hl => lv_ishl C.1 C.2.1 hdg (by rw [hz]; exact kk H locs ls hP hD hS hl)
theorem z_ishr (C : zC p s m args c cc nL own D A cs tt) {a b z : Int} (hdg : decode cc pc = .ok (.ishr, 1)) (hz : zI a >>> (zI b &&& 31) = zI z) (kk : zV p l e R s m args below meth c Q D A nL N ad g k n (pc + 1) (lv) (.int (zI z) :: rest)) : zV p l e R s m args below meth c Q D A nL N ad g k n (pc) (lv) (.int (zI b) :: .int (zI a) :: rest) := fun H locs ls hP hD hS hl => lv_ishr C.1 C.2.1 hdg (by rw [hz]; exact kk H locs ls hP hD hS hl)
theorem z_iushr (C : zC p s m args c cc nL own D A cs tt) {a b z : Int} (hdg : decode cc pc = .ok (.iushr, 1)) (hz : ((zI a).toUInt32 >>> ((zI b).toUInt32 &&& Int32.toUInt32 31)).toInt32 = zI z) (kk : zV p l e R s m args below meth c Q D A nL N ad g k n (pc + 1) (lv) (.int (zI z) :: rest)) : zV p l e R s m args below meth c Q D A nL N ad g k n (pc) (lv) (.int (zI b) :: .int (zI a) :: rest) := fun H locs ls hP hD hS hl => lv_iushr C.1 C.2.1 hdg hz (kk H locs ls hP hD hS hl)
theorem z_iand (C : zC p s m args c cc nL own D A cs tt) {a b z : Int} (hdg : decode cc pc = .ok (.iand, 1)) (hz : zI a &&& zI b = zI z) (kk : zV p l e R s m args below meth c Q D A nL N ad g k n (pc + 1) (lv) (.int (zI z) :: rest)) : zV p l e R s m args below meth c Q D A nL N ad g k n (pc) (lv) (.int (zI b) :: .int (zI a) :: rest) := fun H locs ls hP hD hS hl => lv_iand C.1 C.2.1 hdg (by rw [hz]; exact kk H locs ls hP hD hS hl)
theorem z_ior (C : zC p s m args c cc nL own D A cs tt) {a b z : Int} (hdg : decode cc pc = .ok (.ior, 1)) (hz : zI a ||| zI b = zI z) (kk : zV p l e R s m args below meth c Q D A nL N ad g k n (pc + 1) (lv) (.int (zI z) :: rest)) : zV p l e R s m args below meth c Q D A nL N ad g k n (pc) (lv) (.int (zI b) :: .int (zI a) :: rest) := fun H locs ls hP hD hS hl => lv_ior C.1 C.2.1 hdg (by rw [hz]; exact kk H locs ls hP hD hS hl)
theorem z_i2l (C : zC p s m args c cc nL own D A cs tt) {a : Int} (hdg : decode cc pc = .ok (.i2l, 1)) (ha : -2147483648 ≤ a ∧ a ≤ 2147483647) (kk : zV p l e R s m args below meth c Q D A nL N ad g k n (pc + 1) (lv) (.long (zJ a) :: rest)) : zV p l e R s m args below meth c Q D A nL N ad g k n (pc) (lv) (.int (zI a) :: rest) := fun H locs ls hP hD hS hl => lv_i2l C.1 C.2.1 hdg (zI_l ha) (kk H locs ls hP hD hS hl)
theorem z_l2i (C : zC p s m args c cc nL own D A cs tt) {a : Int} (hdg : decode cc pc = .ok (.l2i, 1)) (kk : zV p l e R s m args below meth c Q D A nL N ad g k n (pc + 1) (lv) (.int (zI a) :: rest)) : zV p l e R s m args below meth c Q D A nL N ad g k n (pc) (lv) (.long (zJ a) :: rest) := fun H locs ls hP hD hS hl => lv_l2i C.1 C.2.1 hdg (zJ_i a) (kk H locs ls hP hD hS hl)
theorem z_i2b (C : zC p s m args c cc nL own D A cs tt) {a z : Int} (hdg : decode cc pc = .ok (.i2b, 1)) (hz : (zI a).toInt8.toInt32 = zI z) (kk : zV p l e R s m args below meth c Q D A nL N ad g k n (pc + 1) (lv) (.int (zI z) :: rest)) : zV p l e R s m args below meth c Q D A nL N ad g k n (pc) (lv) (.int (zI a) :: rest) := fun H locs ls hP hD hS hl => lv_i2b C.1 C.2.1 hdg hz (kk H locs ls hP hD hS hl)
theorem z_dup (C : zC p s m args c cc nL own D A cs tt) {v : Value} (hdg : decode cc pc = .ok (.dup, 1)) (hv : v.category = 1) (kk : zV p l e R s m args below meth c Q D A nL N ad g k n (pc + 1) (lv) (v :: v :: rest)) : zV p l e R s m args below meth c Q D A nL N ad g k n (pc) (lv) (v :: rest) := fun H locs ls hP hD hS hl => lv_dup C.1 C.2.1 hdg hv (kk H locs ls hP hD hS hl)
theorem z_pop (C : zC p s m args c cc nL own D A cs tt) {v : Value} (hdg : decode cc pc = .ok (.pop, 1)) (hv : v.category = 1) (kk : zV p l e R s m args below meth c Q D A nL N ad g k n (pc + 1) (lv) (rest)) : zV p l e R s m args below meth c Q D A nL N ad g k n (pc) (lv) (v :: rest) := fun H locs ls hP hD hS hl => lv_pop C.1 C.2.1 hdg hv (kk H locs ls hP hD hS hl)
theorem z_dup_x1 (C : zC p s m args c cc nL own D A cs tt) {v w : Value} (hdg : decode cc pc = .ok (.dup_x1, 1)) (hv : v.category = 1) (hw : w.category = 1) (kk : zV p l e R s m args below meth c Q D A nL N ad g k n (pc + 1) (lv) (v :: w :: v :: rest)) : zV p l e R s m args below meth c Q D A nL N ad g k n (pc) (lv) (v :: w :: rest) := fun H locs ls hP hD hS hl => lv_dup_x1 C.1 C.2.1 hdg hv hw (kk H locs ls hP hD hS hl)
theorem z_dup2 (C : zC p s m args c cc nL own D A cs tt) {v w : Value} (hdg : decode cc pc = .ok (.dup2, 1)) (hv : v.category = 1) (hw : w.category = 1) (kk : zV p l e R s m args below meth c Q D A nL N ad g k n (pc + 1) (lv) (v :: w :: v :: w :: rest)) : zV p l e R s m args below meth c Q D A nL N ad g k n (pc) (lv) (v :: w :: rest) := fun H locs ls hP hD hS hl => lv_dup2_11 C.1 C.2.1 hdg hv hw (kk H locs ls hP hD hS hl)
theorem z_icmp_eq (C : zC p s m args c cc nL own D A cs tt) {a b : Int} {off : Int} {tgt : Nat} (hdg : decode cc pc = .ok (.if_icmp .eq off, 3)) (ht : (pc : Int) + off = (tgt : Int)) (ha : -2147483648 ≤ a ∧ a ≤ 2147483647) (hb : -2147483648 ≤ b ∧ b ≤ 2147483647) (kt : a = b → zV p l e R s m args below meth c Q D A nL N ad g k n (tgt) (lv) (rest)) (kf : ¬ (a = b) → zV p l e R s m args below meth c Q D A nL N ad g k n (pc + 3) (lv) (rest)) : zV p l e R s m args below meth c Q D A nL N ad g k n (pc) (lv) (.int (zI b) :: .int (zI a) :: rest) := fun H locs ls hP hD hS hl => lv_icmp_eq C.1 C.2.1 hdg ht (fun h => kt ((zI_eq ha hb).mp h) H locs ls hP hD hS hl) (fun h => kf (fun q => h ((zI_eq ha hb).mpr q)) H locs ls hP hD hS hl)
theorem z_if_eq (C : zC p s m args c cc nL own D A cs tt) {a : Int} {off : Int} {tgt : Nat} (hdg : decode cc pc = .ok (.ifCond .eq off, 3)) (ht : (pc : Int) + off = (tgt : Int)) (ha : -2147483648 ≤ a ∧ a ≤ 2147483647) (kt : a = 0 → zV p l e R s m args below meth c Q D A nL N ad g k n (tgt) (lv) (rest)) (kf : ¬ (a = 0) → zV p l e R s m args below meth c Q D A nL N ad g k n (pc + 3) (lv) (rest)) : zV p l e R s m args below meth c Q D A nL N ad g k n (pc) (lv) (.int (zI a) :: rest) := fun H locs ls hP hD hS hl => lv_if_eq C.1 C.2.1 hdg ht (fun h => kt ((zI_eq ha (show -2147483648 ≤ (0 : Int) ∧ (0 : Int) ≤ 2147483647 by omega)).mp h) H locs ls hP hD hS hl) (fun h => kf (fun q => h ((zI_eq ha (show -2147483648 ≤ (0 : Int) ∧ (0 : Int) ≤ 2147483647 by omega)).mpr q)) H locs ls hP hD hS hl)
theorem z_icmp_ne (C : zC p s m args c cc nL own D A cs tt) {a b : Int} {off : Int} {tgt : Nat} (hdg : decode cc pc = .ok (.if_icmp .ne off, 3)) (ht : (pc : Int) + off = (tgt : Int)) (ha : -2147483648 ≤ a ∧ a ≤ 2147483647) (hb : -2147483648 ≤ b ∧ b ≤ 2147483647) (kt : a ≠ b → zV p l e R s m args below meth c Q D A nL N ad g k n (tgt) (lv) (rest)) (kf : a = b → zV p l e R s m args below meth c Q D A nL N ad g k n (pc + 3) (lv) (rest)) : zV p l e R s m args below meth c Q D A nL N ad g k n (pc) (lv) (.int (zI b) :: .int (zI a) :: rest) := fun H locs ls hP hD hS hl => lv_icmp_ne C.1 C.2.1 hdg ht (fun h => kt (fun q => h ((zI_eq ha hb).mpr q)) H locs ls hP hD hS hl) (fun h => kf ((zI_eq ha hb).mp h) H locs ls hP hD hS hl)
theorem z_if_ne (C : zC p s m args c cc nL own D A cs tt) {a : Int} {off : Int} {tgt : Nat} (hdg : decode cc pc = .ok (.ifCond .ne off, 3)) (ht : (pc : Int) + off = (tgt : Int)) (ha : -2147483648 ≤ a ∧ a ≤ 2147483647) (kt : a ≠ 0 → zV p l e R s m args below meth c Q D A nL N ad g k n (tgt) (lv) (rest)) (kf : a = 0 → zV p l e R s m args below meth c Q D A nL N ad g k n (pc + 3) (lv) (rest)) : zV p l e R s m args below meth c Q D A nL N ad g k n (pc) (lv) (.int (zI a) :: rest) := fun H locs ls hP hD hS hl => lv_if_ne C.1 C.2.1 hdg ht (fun h => kt (fun q => h ((zI_eq ha (show -2147483648 ≤ (0 : Int) ∧ (0 : Int) ≤ 2147483647 by omega)).mpr q)) H locs ls hP hD hS hl) (fun h => kf ((zI_eq ha (show -2147483648 ≤ (0 : Int) ∧ (0 : Int) ≤ 2147483647 by omega)).mp h) H locs ls hP hD hS hl)
theorem z_icmp_lt (C : zC p s m args c cc nL own D A cs tt) {a b : Int} {off : Int} {tgt : Nat} (hdg : decode cc pc = .ok (.if_icmp .lt off, 3)) (ht : (pc : Int) + off = (tgt : Int)) (ha : -2147483648 ≤ a ∧ a ≤ 2147483647) (hb : -2147483648 ≤ b ∧ b ≤ 2147483647) (kt : a < b → zV p l e R s m args below meth c Q D A nL N ad g k n (tgt) (lv) (rest)) (kf : ¬ (a < b) → zV p l e R s m args below meth c Q D A nL N ad g k n (pc + 3) (lv) (rest)) : zV p l e R s m args below meth c Q D A nL N ad g k n (pc) (lv) (.int (zI b) :: .int (zI a) :: rest) := fun H locs ls hP hD hS hl => lv_icmp_lt C.1 C.2.1 hdg ht (fun h => kt ((zI_lt ha hb).mp h) H locs ls hP hD hS hl) (fun h => kf (fun q => h ((zI_lt ha hb).mpr q)) H locs ls hP hD hS hl)
theorem z_if_lt (C : zC p s m args c cc nL own D A cs tt) {a : Int} {off : Int} {tgt : Nat} (hdg : decode cc pc = .ok (.ifCond .lt off, 3)) (ht : (pc : Int) + off = (tgt : Int)) (ha : -2147483648 ≤ a ∧ a ≤ 2147483647) (kt : a < 0 → zV p l e R s m args below meth c Q D A nL N ad g k n (tgt) (lv) (rest)) (kf : ¬ (a < 0) → zV p l e R s m args below meth c Q D A nL N ad g k n (pc + 3) (lv) (rest)) : zV p l e R s m args below meth c Q D A nL N ad g k n (pc) (lv) (.int (zI a) :: rest) := fun H locs ls hP hD hS hl => lv_if_lt C.1 C.2.1 hdg ht (fun h => kt ((zI_lt ha (show -2147483648 ≤ (0 : Int) ∧ (0 : Int) ≤ 2147483647 by omega)).mp h) H locs ls hP hD hS hl) (fun h => kf (fun q => h ((zI_lt ha (show -2147483648 ≤ (0 : Int) ∧ (0 : Int) ≤ 2147483647 by omega)).mpr q)) H locs ls hP hD hS hl)
theorem z_icmp_ge (C : zC p s m args c cc nL own D A cs tt) {a b : Int} {off : Int} {tgt : Nat} (hdg : decode cc pc = .ok (.if_icmp .ge off, 3)) (ht : (pc : Int) + off = (tgt : Int)) (ha : -2147483648 ≤ a ∧ a ≤ 2147483647) (hb : -2147483648 ≤ b ∧ b ≤ 2147483647) (kt : b ≤ a → zV p l e R s m args below meth c Q D A nL N ad g k n (tgt) (lv) (rest)) (kf : ¬ (b ≤ a) → zV p l e R s m args below meth c Q D A nL N ad g k n (pc + 3) (lv) (rest)) : zV p l e R s m args below meth c Q D A nL N ad g k n (pc) (lv) (.int (zI b) :: .int (zI a) :: rest) := fun H locs ls hP hD hS hl => lv_icmp_ge C.1 C.2.1 hdg ht (fun h => kt ((zI_le hb ha).mp h) H locs ls hP hD hS hl) (fun h => kf (fun q => h ((zI_le hb ha).mpr q)) H locs ls hP hD hS hl)
theorem z_if_ge (C : zC p s m args c cc nL own D A cs tt) {a : Int} {off : Int} {tgt : Nat} (hdg : decode cc pc = .ok (.ifCond .ge off, 3)) (ht : (pc : Int) + off = (tgt : Int)) (ha : -2147483648 ≤ a ∧ a ≤ 2147483647) (kt : 0 ≤ a → zV p l e R s m args below meth c Q D A nL N ad g k n (tgt) (lv) (rest)) (kf : ¬ (0 ≤ a) → zV p l e R s m args below meth c Q D A nL N ad g k n (pc + 3) (lv) (rest)) : zV p l e R s m args below meth c Q D A nL N ad g k n (pc) (lv) (.int (zI a) :: rest) := fun H locs ls hP hD hS hl => lv_if_ge C.1 C.2.1 hdg ht (fun h => kt ((zI_le (show -2147483648 ≤ (0 : Int) ∧ (0 : Int) ≤ 2147483647 by omega) ha).mp h) H locs ls hP hD hS hl) (fun h => kf (fun q => h ((zI_le (show -2147483648 ≤ (0 : Int) ∧ (0 : Int) ≤ 2147483647 by omega) ha).mpr q)) H locs ls hP hD hS hl)
theorem z_icmp_gt (C : zC p s m args c cc nL own D A cs tt) {a b : Int} {off : Int} {tgt : Nat} (hdg : decode cc pc = .ok (.if_icmp .gt off, 3)) (ht : (pc : Int) + off = (tgt : Int)) (ha : -2147483648 ≤ a ∧ a ≤ 2147483647) (hb : -2147483648 ≤ b ∧ b ≤ 2147483647) (kt : b < a → zV p l e R s m args below meth c Q D A nL N ad g k n (tgt) (lv) (rest)) (kf : ¬ (b < a) → zV p l e R s m args below meth c Q D A nL N ad g k n (pc + 3) (lv) (rest)) : zV p l e R s m args below meth c Q D A nL N ad g k n (pc) (lv) (.int (zI b) :: .int (zI a) :: rest) := fun H locs ls hP hD hS hl => lv_icmp_gt C.1 C.2.1 hdg ht (fun h => kt ((zI_lt hb ha).mp h) H locs ls hP hD hS hl) (fun h => kf (fun q => h ((zI_lt hb ha).mpr q)) H locs ls hP hD hS hl)
theorem z_if_gt (C : zC p s m args c cc nL own D A cs tt) {a : Int} {off : Int} {tgt : Nat} (hdg : decode cc pc = .ok (.ifCond .gt off, 3)) (ht : (pc : Int) + off = (tgt : Int)) (ha : -2147483648 ≤ a ∧ a ≤ 2147483647) (kt : 0 < a → zV p l e R s m args below meth c Q D A nL N ad g k n (tgt) (lv) (rest)) (kf : ¬ (0 < a) → zV p l e R s m args below meth c Q D A nL N ad g k n (pc + 3) (lv) (rest)) : zV p l e R s m args below meth c Q D A nL N ad g k n (pc) (lv) (.int (zI a) :: rest) := fun H locs ls hP hD hS hl => lv_if_gt C.1 C.2.1 hdg ht (fun h => kt ((zI_lt (show -2147483648 ≤ (0 : Int) ∧ (0 : Int) ≤ 2147483647 by omega) ha).mp h) H locs ls hP hD hS hl) (fun h => kf (fun q => h ((zI_lt (show -2147483648 ≤ (0 : Int) ∧ (0 : Int) ≤ 2147483647 by omega) ha).mpr q)) H locs ls hP hD hS hl)
theorem z_icmp_le (C : zC p s m args c cc nL own D A cs tt) {a b : Int} {off : Int} {tgt : Nat} (hdg : decode cc pc = .ok (.if_icmp .le off, 3)) (ht : (pc : Int) + off = (tgt : Int)) (ha : -2147483648 ≤ a ∧ a ≤ 2147483647) (hb : -2147483648 ≤ b ∧ b ≤ 2147483647) (kt : a ≤ b → zV p l e R s m args below meth c Q D A nL N ad g k n (tgt) (lv) (rest)) (kf : ¬ (a ≤ b) → zV p l e R s m args below meth c Q D A nL N ad g k n (pc + 3) (lv) (rest)) : zV p l e R s m args below meth c Q D A nL N ad g k n (pc) (lv) (.int (zI b) :: .int (zI a) :: rest) := fun H locs ls hP hD hS hl => lv_icmp_le C.1 C.2.1 hdg ht (fun h => kt ((zI_le ha hb).mp h) H locs ls hP hD hS hl) (fun h => kf (fun q => h ((zI_le ha hb).mpr q)) H locs ls hP hD hS hl)
theorem z_if_le (C : zC p s m args c cc nL own D A cs tt) {a : Int} {off : Int} {tgt : Nat} (hdg : decode cc pc = .ok (.ifCond .le off, 3)) (ht : (pc : Int) + off = (tgt : Int)) (ha : -2147483648 ≤ a ∧ a ≤ 2147483647) (kt : a ≤ 0 → zV p l e R s m args below meth c Q D A nL N ad g k n (tgt) (lv) (rest)) (kf : ¬ (a ≤ 0) → zV p l e R s m args below meth c Q D A nL N ad g k n (pc + 3) (lv) (rest)) : zV p l e R s m args below meth c Q D A nL N ad g k n (pc) (lv) (.int (zI a) :: rest) := fun H locs ls hP hD hS hl => lv_if_le C.1 C.2.1 hdg ht (fun h => kt ((zI_le ha (show -2147483648 ≤ (0 : Int) ∧ (0 : Int) ≤ 2147483647 by omega)).mp h) H locs ls hP hD hS hl) (fun h => kf (fun q => h ((zI_le ha (show -2147483648 ≤ (0 : Int) ∧ (0 : Int) ≤ 2147483647 by omega)).mpr q)) H locs ls hP hD hS hl)
theorem z_goto (C : zC p s m args c cc nL own D A cs tt) {off : Int} {tgt : Nat} (hdg : decode cc pc = .ok (.goto off, 3)) (ht : (pc : Int) + off = (tgt : Int)) (kk : zV p l e R s m args below meth c Q D A nL N ad g k n (tgt) (lv) (rest)) : zV p l e R s m args below meth c Q D A nL N ad g k n (pc) (lv) (rest) := fun H locs ls hP hD hS hl => lv_goto C.1 C.2.1 hdg ht (kk H locs ls hP hD hS hl)
theorem z_tin (C : zC p s m args c cc nL own D A cs tt) {a dflt lo hi off : Int} {offs : Array Int} {len tgt : Nat} (hdg : decode cc pc = .ok (.tableswitch dflt lo hi offs, len)) (ha : -2147483648 ≤ a ∧ a ≤ 2147483647) (h1 : lo ≤ a) (h2 : a ≤ hi) (ho : offs[(a - lo).toNat]? = some off) (ht : (pc : Int) + off = (tgt : Int)) (kk : zV p l e R s m args below meth c Q D A nL N ad g k n (tgt) (lv) (rest)) : zV p l e R s m args below meth c Q D A nL N ad g k n (pc) (lv) (.int (zI a) :: rest) := fun H locs ls hP hD hS hl => lv_tableIn C.1 C.2.1 hdg (by rw [zI_to ha]; omega) (by rw [zI_to ha]; omega) (by rw [zI_to ha]; exact ho) ht (kk H locs ls hP hD hS hl)
theorem z_tout (C : zC p s m args c cc nL own D A cs tt) {a dflt lo hi : Int} {offs : Array Int} {len tgt : Nat} (hdg : decode cc pc = .ok (.tableswitch dflt lo hi offs, len)) (ha : -2147483648 ≤ a ∧ a ≤ 2147483647) (h1 : a < lo ∨ hi < a) (ht : (pc : Int) + dflt = (tgt : Int)) (kk : zV p l e R s m args below meth c Q D A nL N ad g k n (tgt) (lv) (rest)) : zV p l e R s m args below meth c Q D A nL N ad g k n (pc) (lv) (.int (zI a) :: rest) := fun H locs ls hP hD hS hl => lv_tableOut C.1 C.2.1 hdg (by rw [zI_to ha]; exact h1) ht (kk H locs ls hP hD hS hl)
theorem z_get (C : zC p s m args c cc nL own D A cs tt) {i a : Nat} (hi : i < N) (ha : ad i = a) {ci : Nat} {fs : List Value} (hg : g i = oC ci fs) {Cn ref : String} {T : u_T} {M index : Nat} (hc : vwCl[ci]? = some (Cn, T, M)) (hin : ∀ w ∈ u_ws Cn T M, w ∈ AW) (f : Nat) (hk : f < M) (hw : Cond.fieldLink own index ref (T f).2.1 (T f).2.2.1 ∈ AW) (hr : (T f).1 = ref) {v : Value} (hv : fs[f]? = some v) (hdg : decode cc pc = .ok (.getfield index, 3)) (kk : zV p l e R s m args below meth c Q D A nL N ad g k n (pc + 3) (lv) (v :: rest)) : zV p l e R s m args below meth c Q D A nL N ad g k n (pc) (lv) (.ref a :: rest) := fun H locs ls hP hD hS hl => va_get C.1 C.2.1 C.2.2.2.2.1 hin C.2.2.2.1 C.2.2.2.2.2.1 hP i ((wl_at hi).trans (by rw [hg, ha])) hc f hk (C.2.2.2.2.1 _ hw) (fun x h => by rw [← hr]; exact h) hv hdg (kk H locs ls hP hD hS hl)
theorem z_put (C : zC p s m args c cc nL own D A cs tt) {i a : Nat} (hi : i < N) (ha : ad i = a) {ci : Nat} {fs fs' : List Value} (hg : g i = oC ci fs) {Cn ref : String} {T : u_T} {M index : Nat} (ty0 : Nat → FieldType) (hty : ∀ k, k < M → parseFieldDescriptor (T k).2.2.1 = some (ty0 k)) (hnm : ∀ a, a < M → ∀ b, b < M → a ≠ b → (T a).2.1 ≠ (T b).2.1) (hc : vwCl[ci]? = some (Cn, T, M)) (hin : ∀ w ∈ u_ws Cn T M, w ∈ AW) (f : Nat) (hk : f < M) (hw : Cond.fieldLink own index ref (T f).2.1 (T f).2.2.1 ∈ AW) (hr : (T f).1 = ref) (hfin : (T f).2.2.2 = false) {v : Value} (hn : narrow (ty0 f) v = v) (hfit : fits (ty0 f) v = true) (hl0 : f < fs.length) (hfs : fs.set f v = fs') (hdg : decode cc pc = .ok (.putfield index, 3)) (kk : ∀ g' : Nat → va_E, g' = va_up g i (oC ci fs') → zV p l e R s m args below meth c Q D A nL N ad g' k n (pc + 3) (lv) (rest)) : zV p l e R s m args below meth c Q D A nL N ad g k n (pc) (lv) (v :: .ref a :: rest) := fun H locs ls hP hD hS hl => va_put C.1 C.2.1 C.2.2.2.2.1 hin ty0 hty hnm C.2.2.2.1 C.2.2.2.2.2.1 hP hD hS i ((wl_at hi).trans (by rw [hg, ha])) hc f hk (C.2.2.2.2.1 _ hw) (fun x h => by rw [← hr]; exact h) hfin (hty f hk) hn hfit hl0 hdg (fun H1 locs1 hP1 hD1 hS1 => by subst hfs; subst ha; rw [wl_set] at hP1 hD1; exact kk _ rfl H1 locs1 ls hP1 hD1 hS1 hl)
theorem z_putF (C : zC p s m args c cc nL own D A cs tt) {i a : Nat} (hi : i < N) (ha : ad i = a) {ci : Nat} {fs fs' : List Value} (hg : g i = oC ci fs) {Cn ref : String} {T : u_T} {M index : Nat} (ty0 : Nat → FieldType) (hty : ∀ k, k < M → parseFieldDescriptor (T k).2.2.1 = some (ty0 k)) (hnm : ∀ a, a < M → ∀ b, b < M → a ≠ b → (T a).2.1 ≠ (T b).2.1) (hc : vwCl[ci]? = some (Cn, T, M)) (hin : ∀ w ∈ u_ws Cn T M, w ∈ AW) (f : Nat) (hk : f < M) (hw : Cond.fieldLink own index ref (T f).2.1 (T f).2.2.1 ∈ AW) (hr : (T f).1 = ref) (hfin : (T f).2.2.2 = true) (hin2 : meth.name = "<init>") (hdecl : (T f).1 = own) {v : Value} (hn : narrow (ty0 f) v = v) (hfit : fits (ty0 f) v = true) (hl0 : f < fs.length) (hfs : fs.set f v = fs') (hdg : decode cc pc = .ok (.putfield index, 3)) (kk : ∀ g' : Nat → va_E, g' = va_up g i (oC ci fs') → zV p l e R s m args below meth c Q D A nL N ad g' k n (pc + 3) (lv) (rest)) : zV p l e R s m args below meth c Q D A nL N ad g k n (pc) (lv) (v :: .ref a :: rest) := fun H locs ls hP hD hS hl => va_putF C.1 C.2.1 C.2.2.2.2.1 hin ty0 hty hnm C.2.2.2.1 C.2.2.2.2.2.1 hP hD hS i ((wl_at hi).trans (by rw [hg, ha])) hc f hk (C.2.2.2.2.1 _ hw) (fun x h => by rw [← hr]; exact h) hfin hin2 hdecl (hty f hk) hn hfit hl0 hdg (fun H1 locs1 hP1 hD1 hS1 => by subst hfs; subst ha; rw [wl_set] at hP1 hD1; exact kk _ rfl H1 locs1 ls hP1 hD1 hS1 hl)
theorem z_alen (C : zC p s m args c cc nL own D A cs tt) {i a : Nat} (hi : i < N) (ha : ad i = a) {cA : ClassId} {x : vp_A} (hg : g i = .inl (cA, x)) (t : Nat) {ty : FieldType} (ht : (tyL cs)[t]? = some (cA, ty)) {z : Int} (hz : (x.1 : Int) = z) (hdg : decode cc pc = .ok (.arraylength, 1)) (kk : zV p l e R s m args below meth c Q D A nL N ad g k n (pc + 1) (lv) (.int (zI z) :: rest)) : zV p l e R s m args below meth c Q D A nL N ad g k n (pc) (lv) (.ref a :: rest) := fun H locs ls hP hD hS hl => va_alen C.1 C.2.1 C.2.2.2.2.2.1 hP i t ((wl_at hi).trans (by rw [hg, ha])) ht (by rw [← hz]; exact zI_nat x.1) hdg (kk H locs ls hP hD hS hl)
theorem z_iald (C : zC p s m args c cc nL own D A cs tt) {i a : Nat} (hi : i < N) (ha : ad i = a) {M : Nat} {r : Nat → Int} (hg : g i = iA cs M r) (j : Nat) {z : Int} (hz : z = (j : Int)) (hj : j < M) (hM : M ≤ 2147483647) (hdg : decode cc pc = .ok (.iaload, 1)) (kk : zV p l e R s m args below meth c Q D A nL N ad g k n (pc + 1) (lv) (.int (zI (r j)) :: rest)) : zV p l e R s m args below meth c Q D A nL N ad g k n (pc) (lv) (.int (zI z) :: .ref a :: rest) := by
  subst hz; subst ha
  exact fun H locs ls hP hD hS hl => va_iald C.1 C.2.1 C.2.2.2.2.2.1 hP i 1 ((wl_at hi).trans (by rw [hg])) rfl (zI_in hj hM) hdg (by rw [zI_clN (by omega)]; exact kk H locs ls hP hD hS hl)
theorem z_bald (C : zC p s m args c cc nL own D A cs tt) {i a : Nat} (hi : i < N) (ha : ad i = a) {M : Nat} {r : Nat → Int} (hg : g i = bA cs M r) (j : Nat) {z : Int} (hz : z = (j : Int)) (hj : j < M) (hM : M ≤ 2147483647) (hdg : decode cc pc = .ok (.baload, 1)) (kk : zV p l e R s m args below meth c Q D A nL N ad g k n (pc + 1) (lv) (.int (zI (r j)) :: rest)) : zV p l e R s m args below meth c Q D A nL N ad g k n (pc) (lv) (.int (zI z) :: .ref a :: rest) := by
  subst hz; subst ha
  exact fun H locs ls hP hD hS hl => va_bald C.1 C.2.1 C.2.2.2.2.2.1 hP i 0 ((wl_at hi).trans (by rw [hg])) rfl (zI_in hj hM) hdg (by rw [zI_clN (by omega)]; exact kk H locs ls hP hD hS hl)
theorem z_iast (C : zC p s m args c cc nL own D A cs tt) {i a : Nat} (hi : i < N) (ha : ad i = a) {M : Nat} {r : Nat → Int} (hg : g i = iA cs M r) (j : Nat) {z x : Int} (hz : z = (j : Int)) (hj : j < M) (hM : M ≤ 2147483647) (hdg : decode cc pc = .ok (.iastore, 1)) (kk : ∀ g' : Nat → va_E, g' = va_up g i (iA cs M (uZ r j x)) → zV p l e R s m args below meth c Q D A nL N ad g' k n (pc + 1) (lv) (rest)) : zV p l e R s m args below meth c Q D A nL N ad g k n (pc) (lv) (.int (zI x) :: .int (zI z) :: .ref a :: rest) := by
  subst hz; subst ha
  exact fun H locs ls hP hD hS hl => va_iast C.1 C.2.1 C.2.2.2.2.2.1 hP hD hS i 1 ((wl_at hi).trans (by rw [hg])) rfl (zI_in hj hM) hdg (fun H1 locs1 hP1 hD1 hS1 => by rw [zI_clN (by omega), uZ_upd, wl_set] at hP1 hD1; exact kk _ rfl H1 locs1 ls hP1 hD1 hS1 hl)
theorem z_bast (C : zC p s m args c cc nL own D A cs tt) {i a : Nat} (hi : i < N) (ha : ad i = a) {M : Nat} {r : Nat → Int} (hg : g i = bA cs M r) (j : Nat) {z x : Int} (hz : z = (j : Int)) (hj : j < M) (hM : M ≤ 2147483647) (hb : -128 ≤ x ∧ x ≤ 127) (hdg : decode cc pc = .ok (.bastore, 1)) (kk : ∀ g' : Nat → va_E, g' = va_up g i (bA cs M (uZ r j x)) → zV p l e R s m args below meth c Q D A nL N ad g' k n (pc + 1) (lv) (rest)) : zV p l e R s m args below meth c Q D A nL N ad g k n (pc) (lv) (.int (zI x) :: .int (zI z) :: .ref a :: rest) := by
  subst hz; subst ha
  exact fun H locs ls hP hD hS hl => va_bast C.1 C.2.1 C.2.2.2.2.2.1 hP hD hS i 0 ((wl_at hi).trans (by rw [hg])) rfl (zI_in hj hM) hdg (fun H1 locs1 hP1 hD1 hS1 => by rw [vp_nar_byte, zI_b8 hb] at hP1 hD1; rw [zI_clN (by omega), uZ_upd, wl_set] at hP1 hD1; exact kk _ rfl H1 locs1 ls hP1 hD1 hS1 hl)
theorem z_last (C : zC p s m args c cc nL own D A cs tt) {i a : Nat} (hi : i < N) (ha : ad i = a) {M : Nat} {r : Nat → Int} (hg : g i = jA cs M r) (j : Nat) {z x : Int} (hz : z = (j : Int)) (hj : j < M) (hM : M ≤ 2147483647) (hdg : decode cc pc = .ok (.lastore, 1)) (kk : ∀ g' : Nat → va_E, g' = va_up g i (jA cs M (uZ r j x)) → zV p l e R s m args below meth c Q D A nL N ad g' k n (pc + 1) (lv) (rest)) : zV p l e R s m args below meth c Q D A nL N ad g k n (pc) (lv) (.long (zJ x) :: .int (zI z) :: .ref a :: rest) := by
  subst hz; subst ha
  exact fun H locs ls hP hD hS hl => va_last C.1 C.2.1 C.2.2.2.2.2.1 hP hD hS i 2 ((wl_at hi).trans (by rw [hg])) rfl (zI_in hj hM) hdg (fun H1 locs1 hP1 hD1 hS1 => by rw [zI_clN (by omega), uZ_updL, wl_set] at hP1 hD1; exact kk _ rfl H1 locs1 ls hP1 hD1 hS1 hl)
theorem z_aald (C : zC p s m args c cc nL own D A cs tt) {i a : Nat} (hi : i < N) (ha : ad i = a) {cA : ClassId} {Cn : String} {M : Nat} {r : Nat → Option Nat} (hg : g i = rA cA M r) (t : Nat) (ht : (tyL cs)[t]? = some (cA, .object Cn)) (j : Nat) {z : Int} (hz : z = (j : Int)) (hj : j < M) (hM : M ≤ 2147483647) {v : Nat} (hv : r j = some v) (hdg : decode cc pc = .ok (.aaload, 1)) (kk : zV p l e R s m args below meth c Q D A nL N ad g k n (pc + 1) (lv) (.ref v :: rest)) : zV p l e R s m args below meth c Q D A nL N ad g k n (pc) (lv) (.int (zI z) :: .ref a :: rest) := by
  subst hz; subst ha
  exact fun H locs ls hP hD hS hl => va_aldq C.1 C.2.1 C.2.2.2.2.2.1 hP i t ((wl_at hi).trans (by rw [hg])) ht (zI_in hj hM) hdg (by rw [zI_clN (by omega), hv]; exact kk H locs ls hP hD hS hl)
theorem z_aast (C : zC p s m args c cc nL own D A cs tt) {i a a2 : Nat} (hi : i < N) (ha : ad i = a) {cA : ClassId} {q : vw_C} {M : Nat} {r : Nat → Option Nat} (hg : g i = rA cA M r) (t : Nat) (ht : (tyL cs)[t]? = some (cA, .object q.1)) {i2 ci : Nat} {fs : List Value} (hi2 : i2 < N) (ha2 : ad i2 = a2) (hg2 : g i2 = oC ci fs) (hc : vwCl[ci]? = some q) (j : Nat) {z : Int} (hz : z = (j : Int)) (hj : j < M) (hM : M ≤ 2147483647) (hdg : decode cc pc = .ok (.aastore, 1)) (kk : ∀ g' : Nat → va_E, g' = va_up g i (rA cA M (va_up r j (some a2))) → zV p l e R s m args below meth c Q D A nL N ad g' k n (pc + 1) (lv) (rest)) : zV p l e R s m args below meth c Q D A nL N ad g k n (pc) (lv) (.ref a2 :: .int (zI z) :: .ref a :: rest) := by
  subst hz; subst ha; subst ha2
  exact fun H locs ls hP hD hS hl => va_astq C.1 C.2.1 C.2.2.2.2.2.1 hP hD hS i t i2 ci ((wl_at hi).trans (by rw [hg])) ht ((wl_at hi2).trans (by rw [hg2])) hc (zI_in hj hM) hdg (fun H1 locs1 hP1 hD1 hS1 => by rw [zI_clN (by omega), wl_set] at hP1 hD1; exact kk _ rfl H1 locs1 ls hP1 hD1 hS1 hl)
theorem z_new (C : zC p s m args c cc nL own D A cs tt) {Cn : String} {T : u_T} {M ci index : Nat} (ty : Nat → FieldType) (hty : ∀ k, k < M → parseFieldDescriptor (T k).2.2.1 = some (ty k)) (hc : vwCl[ci]? = some (Cn, T, M)) (hin : ∀ w ∈ u_ws Cn T M, w ∈ AW) (hw1 : Cond.classLink own index Cn ∈ AW) (hw2 : Cond.instantiable Cn M ∈ AW) (hw3 : Cond.initialized Cn ∈ AW) {fs : List Value} (hfs : ∀ j, j < M → defaultValue (ty j) = vp_V fs j) (hcells : k + 1 ≤ R.cells) (hslots : n + M ≤ R.slots) (hdg : decode cc pc = .ok (.new index, 3)) (kk : ∀ (q : Nat) (ad' : Nat → Nat) (g' : Nat → va_E), ad' = va_up ad N q → g' = va_up g N (oC ci fs) → zV p l e R s m args below meth c Q D A nL (N + 1) ad' g' (k + 1) (n + M) (pc + 3) (lv) (.ref q :: rest)) : zV p l e R s m args below meth c Q D A nL N ad g k n (pc) (lv) (rest) := fun H locs ls hP hD hS hl => va_new C.1 C.2.1 C.2.2.2.2.1 hin ty hty C.2.2.2.1 (C.2.2.2.2.1 _ hw1) (C.2.2.2.2.1 _ hw2) (C.2.2.2.2.1 _ hw3) C.2.2.2.2.2.1 hP hD hS C.2.2.2.2.2.2.2.1 hc hfs hcells hslots hdg (fun q H1 hP1 hD1 hS1 => by rw [wl_push] at hP1 hD1; exact kk q _ _ rfl rfl H1 locs ls hP1 hD1 hS1 hl)
end ZV
end
